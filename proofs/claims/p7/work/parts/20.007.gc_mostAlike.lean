set_option maxHeartbeats 4000000 in
set_option maxRecDepth 100000 in
theorem gc_mostAlike (l : Launch) (D : va_G) (y : Nat → ClassId) (g : Nat) (kk : Nat) (nw : Nat) (im : Nat) (kp : Nat) (tx : Nat) (tr : Nat) (be : Nat) (sh : Nat) (sd : Nat) (rf : Nat) (ab : Int32) (bl : Int32) (k0 : Nat) (k1 : Nat) (k2 : Nat) (k3 : Nat) (k4 : Nat) (k5 : Nat) (fq : Nat → Option Nat) (x : Int32) (x2 : Int32) (x3 : Int32) (x4 : Int32) (hq0 : fq 0 = some k0) (hq1 : fq 1 = some k1) (hq2 : fq 2 = some k2) (hq3 : fq 3 = some k3) (hq4 : fq 4 = some k4) (hq5 : fq 5 = some k5) : kw_Mi l yX10_mostAlike wsX10_mostAlike ({ frames := 4, cells := 0, slots := 0, locals := 130 }) D y [.ref g, .int x, .int x2, .int x3, .int x4] [(g, .inr (10, [.ref kk, .ref nw, .ref im, .ref kp, .ref tx, .ref tr, .ref be, .ref sh, .ref sd, .ref rf, .int ab, .int bl])), (kk, .inl (y 5, 6, .inr (.inr (.inr (.inr fq))))), (k0, .inr (5, [])), (k1, .inr (8, [])), (k2, .inr (9, [])), (k3, .inr (6, [])), (k4, .inr (2, [])), (k5, .inr (3, []))] (fun (r : Int32) (u : Unit) => True) (fun _ => [(g, .inr (10, [.ref kk, .ref nw, .ref im, .ref kp, .ref tx, .ref tr, .ref be, .ref sh, .ref sd, .ref rf, .int ab, .int bl])), (kk, .inl (y 5, 6, .inr (.inr (.inr (.inr fq))))), (k0, .inr (5, [])), (k1, .inr (8, [])), (k2, .inr (9, [])), (k3, .inr (6, [])), (k4, .inr (2, [])), (k5, .inr (3, []))]) 0 0 := by
  refine kw_Mi.of (cc := cX10_mostAlike) (maxL := 10) (ret := (some .int)) (by decide) rfl ?_
  intro pZ eZ s mZ beZ meZ cZ A hE
  obtain ⟨hx, hb, hr, hml, hts, hown, hlocks, hin, hA, hP, hD, hK, hN⟩ := hE
  have hS : va_S A s.heap s.heap [] := va_S.rf
  have hl := lv_entry ([.ref g, .int x, .int x2, .int x3, .int x4]) (n := 10) (Nat.le_of_ble_eq_true rfl)
  rw [lg_entry_eq]
  generalize (lg_sl ([.ref g, .int x, .int x2, .int x3, .int x4]) ++ List.replicate (10 - (lg_sl ([.ref g, .int x, .int x2, .int x3, .int x4])).length) Slot.unset).toArray = ls at hl ⊢
  have hl : lv_has ls 10 [(0, .ref g), (1, .int x), (2, .int x2), (3, .int x3), (4, .int x4)] := hl
  have fw1 := hts (.fieldLink RX10 25 "GleanDusk" "kinds" "[LGleanDusk$Plain;") (List.mem_of_getElem? (i := 1) rfl)
  have fw2 := hts (.methodLink RX10 315 Lib.Math.max.name) (List.mem_of_getElem? (i := 2) rfl)
  have fw3 := hts (.static Lib.Math.max.name) (List.mem_of_getElem? (i := 3) rfl)
  have fw4 := hts (.initialized "java/lang/Math") (List.mem_of_getElem? (i := 4) rfl)
  have fw5 := hts (.code Lib.Math.max.name Lib.Math.max.code 2 (some .int)) (List.mem_of_getElem? (i := 5) rfl)
  have iw10 : ∀ w ∈ wsX100, w ∈ wsX10_mostAlike := fun _ h => List.mem_cons_of_mem _ (List.mem_append_right _ h)
  refine lv_iconst (v := 0) hx hb dX10_mostAlike_0 (by decide) ?_
  refine lv_istore (lv' := [(5, .int 0), (0, .ref g), (1, .int x), (2, .int x2), (3, .int x3), (4, .int x4)]) hx hb dX10_mostAlike_1 hl (by decide) rfl (fun ls hl => ?_)
  refine lv_iconst (v := 0) hx hb dX10_mostAlike_3 (by decide) ?_
  refine lv_istore (lv' := [(6, .int 0), (5, .int 0), (0, .ref g), (1, .int x), (2, .int x2), (3, .int x3), (4, .int x4)]) hx hb dX10_mostAlike_4 hl (by decide) rfl (fun ls hl => ?_)
  have lp1264 : ∀ (fuj91 j91 : Nat) (x635 : Int32) (H : Heap) (locs : List Loc) (ls : Array Slot), j91 ≤ 6 → 6 - j91 < fuj91 → va_P D vwCl [(g, .inr (10, [.ref kk, .ref nw, .ref im, .ref kp, .ref tx, .ref tr, .ref be, .ref sh, .ref sd, .ref rf, .int ab, .int bl])), (kk, .inl (y 5, 6, .inr (.inr (.inr (.inr fq))))), (k0, .inr (5, [])), (k1, .inr (8, [])), (k2, .inr (9, [])), (k3, .inr (6, [])), (k4, .inr (2, [])), (k5, .inr (3, []))] H → va_D A [(g, .inr (10, [.ref kk, .ref nw, .ref im, .ref kp, .ref tx, .ref tr, .ref be, .ref sh, .ref sd, .ref rf, .int ab, .int bl])), (kk, .inl (y 5, 6, .inr (.inr (.inr (.inr fq))))), (k0, .inr (5, [])), (k1, .inr (8, [])), (k2, .inr (9, [])), (k3, .inr (6, [])), (k4, .inr (2, [])), (k5, .inr (3, []))] → va_S A s.heap H locs → lv_has ls 10 [(6, .int (nI j91)), (5, .int x635), (0, .ref g), (1, .int x), (2, .int x2), (3, .int x3), (4, .int x4)] → W pZ l eZ ({ frames := 4, cells := 0, slots := 0, locals := 130 }) s mZ [.ref g, .int x, .int x2, .int x3, .int x4].toArray beZ meZ cZ H locs 0 0 (MQ beZ (va_Qi (fun (r : Int32) (u : Unit) => True) (kw_B D (fun _ => [(g, .inr (10, [.ref kk, .ref nw, .ref im, .ref kp, .ref tx, .ref tr, .ref be, .ref sh, .ref sd, .ref rf, .int ab, .int bl])), (kk, .inl (y 5, 6, .inr (.inr (.inr (.inr fq))))), (k0, .inr (5, [])), (k1, .inr (8, [])), (k2, .inr (9, [])), (k3, .inr (6, [])), (k4, .inr (2, [])), (k5, .inr (3, []))]) A) A) [.ref g, .int x, .int x2, .int x3, .int x4].toArray s 0 0 A) (F0 mZ 6 ls []) := by
    intro fuj91
    induction fuj91 with
    | zero => intro j91 x635 H locs ls hj9 hf9; exact absurd hf9 (Nat.not_lt_zero _)
    | succ fuj91 ihj91 =>
      intro j91 x635 H locs ls hj91 hfj91  hP hD hS hl
      refine lv_iload hx hb dX10_mostAlike_6 (lv_at hl 0 rfl) ?_
      refine lv_bipush (v := 6) hx hb dX10_mostAlike_8 (by decide) ?_
      refine lv_icmp_ge (tgt := 107) hx hb dX10_mostAlike_10 (by decide) (fun h1265 => ?_) (fun h1266 => ?_)
      · skip
        have h1265 : 6 ≤ j91 := (nI_leI (a := 6) (b := j91) (by omega) (by omega)).mp h1265
        refine lv_iload hx hb dX10_mostAlike_107 (lv_at hl 1 rfl) ?_
        exact W.iret (v := x635) hx hb hr (fun tZ ht hW => ⟨⟨x635, (), rfl, trivial, by rw [ht]; exact hP.sub [0, 1, 2, 3, 4, 5, 6, 7] rfl, hD.sub [0, 1, 2, 3, 4, 5, 6, 7] (by decide) rfl⟩, hS.F ht⟩) hS.2.2 dX10_mostAlike_109
      · skip
        have h1266 : ¬ 6 ≤ j91 := fun q9 => h1266 ((nI_leI (a := 6) (b := j91) (by omega) (by omega)).mpr q9)
        refine lv_iload_n hx hb dX10_mostAlike_13 rfl (lv_at hl 3 rfl) ?_
        refine lv_iload hx hb dX10_mostAlike_14 (lv_at hl 0 rfl) ?_
        refine lv_ishr hx hb dX10_mostAlike_16 ?_
        refine lv_iconst (v := 1) hx hb dX10_mostAlike_17 (by decide) ?_
        refine lv_iand hx hb dX10_mostAlike_18 ?_
        refine lv_if_ne (tgt := 25) hx hb dX10_mostAlike_19 (by decide) (fun h1267 => ?_) (fun h1268 => ?_)
        · skip
          refine lv_aload_n hx hb dX10_mostAlike_25 rfl (lv_at hl 2 rfl) ?_
          refine va_get (D := D) (ci := 10) (v := .ref kk) (C := RX10) (T := TX10) (N := 12) hx hb hts iw10 hown hK hP 0 rfl rfl 0 (by decide) fw1 (fun _ h9 => h9) rfl dX10_mostAlike_26 ?_
          refine lv_iload hx hb dX10_mostAlike_29 (lv_at hl 0 rfl) ?_
          rcases (show j91 = 0 ∨ j91 = 1 ∨ j91 = 2 ∨ j91 = 3 ∨ j91 = 4 ∨ j91 = 5 by omega) with rfl | rfl | rfl | rfl | rfl | rfl
          · skip
            refine va_aldq hx hb hK hP 1 5 rfl rfl (vp_in_nI (by omega) (by decide)) dX10_mostAlike_31 ?_
            rw [nI_clamp (n := 0) (by omega), show va_rf (fq 0) = .ref k0 from congrArg va_rf hq0]
            refine lv_iload_n hx hb dX10_mostAlike_32 rfl (lv_at hl 4 rfl) ?_
            refine lv_iload_n hx hb dX10_mostAlike_33 rfl (lv_at hl 5 rfl) ?_
            refine lv_iload hx hb dX10_mostAlike_34 (lv_at hl 6 rfl) ?_
            have hs1269 : kw_Split [(g, .inr (10, [.ref kk, .ref nw, .ref im, .ref kp, .ref tx, .ref tr, .ref be, .ref sh, .ref sd, .ref rf, .int ab, .int bl])), (kk, .inl (y 5, 6, .inr (.inr (.inr (.inr fq))))), (k0, .inr (5, [])), (k1, .inr (8, [])), (k2, .inr (9, [])), (k3, .inr (6, [])), (k4, .inr (2, [])), (k5, .inr (3, []))] [(k0, .inr (5, []))] [(g, .inr (10, [.ref kk, .ref nw, .ref im, .ref kp, .ref tx, .ref tr, .ref be, .ref sh, .ref sd, .ref rf, .int ab, .int bl])), (kk, .inl (y 5, 6, .inr (.inr (.inr (.inr fq))))), (k1, .inr (8, [])), (k2, .inr (9, [])), (k3, .inr (6, [])), (k4, .inr (2, [])), (k5, .inr (3, []))] [2] [0, 1, 3, 4, 5, 6, 7] := ⟨rfl, rfl, rfl, rfl, rfl, by decide⟩
            refine kw_go_i hs1269 hP hD hS hA (va_runV (As := [.int x2, .int x3, .int x4]) (rest := []) ⟨hx, hb, hml, hown, hts⟩ (gc_Plain_on5 l D y k0 x2 x3 x4  _) (cwV 3 hts gX10_mostAlike_X5_sight rfl rfl rfl (by decide +kernel) ⟨Nat.le_of_ble_eq_true rfl, Nat.le_of_ble_eq_true rfl⟩) (kw_PreV (ci := 5) (q0 := 2) hs1269 hP hD hK hN rfl rfl) rfl rfl hl.1 rfl (lv_room (Nat.le_of_ble_eq_true rfl)) dX10_mostAlike_36 ⟨Nat.le_of_ble_eq_true rfl, Nat.le_of_ble_eq_true rfl⟩) (fun r1270 u1271 H locs hq hP hD hS => ?_)
            obtain rfl := hq
            have hP : va_P D vwCl [(g, .inr (10, [.ref kk, .ref nw, .ref im, .ref kp, .ref tx, .ref tr, .ref be, .ref sh, .ref sd, .ref rf, .int ab, .int bl])), (kk, .inl (y 5, 6, .inr (.inr (.inr (.inr fq))))), (k1, .inr (8, [])), (k2, .inr (9, [])), (k3, .inr (6, [])), (k4, .inr (2, [])), (k5, .inr (3, [])), (k0, .inr (5, []))] H := hP
            have hD : va_D A [(g, .inr (10, [.ref kk, .ref nw, .ref im, .ref kp, .ref tx, .ref tr, .ref be, .ref sh, .ref sd, .ref rf, .int ab, .int bl])), (kk, .inl (y 5, 6, .inr (.inr (.inr (.inr fq))))), (k1, .inr (8, [])), (k2, .inr (9, [])), (k3, .inr (6, [])), (k4, .inr (2, [])), (k5, .inr (3, [])), (k0, .inr (5, []))] := hD
            refine lv_istore (lv' := [(7, .int (if 0 < ((x3 - (2 * x2)) - x4) then ((x3 - (2 * x2)) - x4) else 0)), (6, .int (nI 0)), (5, .int x635), (0, .ref g), (1, .int x), (2, .int x2), (3, .int x3), (4, .int x4)]) hx hb dX10_mostAlike_39 hl (by decide) rfl (fun ls hl => ?_)
            refine lv_iconst (v := 0) hx hb dX10_mostAlike_41 (by decide) ?_
            refine lv_istore (lv' := [(8, .int 0), (7, .int (if 0 < ((x3 - (2 * x2)) - x4) then ((x3 - (2 * x2)) - x4) else 0)), (6, .int (nI 0)), (5, .int x635), (0, .ref g), (1, .int x), (2, .int x2), (3, .int x3), (4, .int x4)]) hx hb dX10_mostAlike_42 hl (by decide) rfl (fun ls hl => ?_)
            refine lv_iconst (v := 0) hx hb dX10_mostAlike_44 (by decide) ?_
            refine lv_istore (lv' := [(9, .int 0), (8, .int 0), (7, .int (if 0 < ((x3 - (2 * x2)) - x4) then ((x3 - (2 * x2)) - x4) else 0)), (6, .int (nI 0)), (5, .int x635), (0, .ref g), (1, .int x), (2, .int x2), (3, .int x3), (4, .int x4)]) hx hb dX10_mostAlike_45 hl (by decide) rfl (fun ls hl => ?_)
            have lp1337 : ∀ (fuj92 j92 : Nat) (x1304 : Int32) (H : Heap) (locs : List Loc) (ls : Array Slot), j92 ≤ 6 → 6 - j92 < fuj92 → va_P D vwCl [(g, .inr (10, [.ref kk, .ref nw, .ref im, .ref kp, .ref tx, .ref tr, .ref be, .ref sh, .ref sd, .ref rf, .int ab, .int bl])), (kk, .inl (y 5, 6, .inr (.inr (.inr (.inr fq))))), (k1, .inr (8, [])), (k2, .inr (9, [])), (k3, .inr (6, [])), (k4, .inr (2, [])), (k5, .inr (3, [])), (k0, .inr (5, []))] H → va_D A [(g, .inr (10, [.ref kk, .ref nw, .ref im, .ref kp, .ref tx, .ref tr, .ref be, .ref sh, .ref sd, .ref rf, .int ab, .int bl])), (kk, .inl (y 5, 6, .inr (.inr (.inr (.inr fq))))), (k1, .inr (8, [])), (k2, .inr (9, [])), (k3, .inr (6, [])), (k4, .inr (2, [])), (k5, .inr (3, [])), (k0, .inr (5, []))] → va_S A s.heap H locs → lv_has ls 10 [(9, .int (nI j92)), (8, .int x1304), (7, .int (if 0 < ((x3 - (2 * x2)) - x4) then ((x3 - (2 * x2)) - x4) else 0)), (6, .int (nI 0)), (5, .int x635), (0, .ref g), (1, .int x), (2, .int x2), (3, .int x3), (4, .int x4)] → W pZ l eZ ({ frames := 4, cells := 0, slots := 0, locals := 130 }) s mZ [.ref g, .int x, .int x2, .int x3, .int x4].toArray beZ meZ cZ H locs 0 0 (MQ beZ (va_Qi (fun (r : Int32) (u : Unit) => True) (kw_B D (fun _ => [(g, .inr (10, [.ref kk, .ref nw, .ref im, .ref kp, .ref tx, .ref tr, .ref be, .ref sh, .ref sd, .ref rf, .int ab, .int bl])), (kk, .inl (y 5, 6, .inr (.inr (.inr (.inr fq))))), (k0, .inr (5, [])), (k1, .inr (8, [])), (k2, .inr (9, [])), (k3, .inr (6, [])), (k4, .inr (2, [])), (k5, .inr (3, []))]) A) A) [.ref g, .int x, .int x2, .int x3, .int x4].toArray s 0 0 A) (F0 mZ 47 ls []) := by
              intro fuj92
              induction fuj92 with
              | zero => intro j92 x1304 H locs ls hj9 hf9; exact absurd hf9 (Nat.not_lt_zero _)
              | succ fuj92 ihj92 =>
                intro j92 x1304 H locs ls hj92 hfj92  hP hD hS hl
                refine lv_iload hx hb dX10_mostAlike_47 (lv_at hl 0 rfl) ?_
                refine lv_bipush (v := 6) hx hb dX10_mostAlike_49 (by decide) ?_
                refine lv_icmp_ge (tgt := 92) hx hb dX10_mostAlike_51 (by decide) (fun h1338 => ?_) (fun h1339 => ?_)
                · skip
                  have h1338 : 6 ≤ j92 := (nI_leI (a := 6) (b := j92) (by omega) (by omega)).mp h1338
                  refine lv_iload hx hb dX10_mostAlike_92 (lv_at hl 4 rfl) ?_
                  refine lv_iload hx hb dX10_mostAlike_94 (lv_at hl 1 rfl) ?_
                  refine va_mmax hx hb (hml.trans hl.1.symm) hown fw2 fw3 fw4 fw5 (Nat.le_of_ble_eq_true rfl) (Nat.le_of_ble_eq_true rfl) (Nat.le_of_ble_eq_true rfl) (Nat.le_of_ble_eq_true rfl) dX10_mostAlike_96 ?_
                  refine lv_istore (lv' := [(5, .int (if x635 < x1304 then x1304 else x635)), (9, .int (nI j92)), (8, .int x1304), (7, .int (if 0 < ((x3 - (2 * x2)) - x4) then ((x3 - (2 * x2)) - x4) else 0)), (6, .int (nI 0)), (0, .ref g), (1, .int x), (2, .int x2), (3, .int x3), (4, .int x4)]) hx hb dX10_mostAlike_99 hl (by decide) rfl (fun ls hl => ?_)
                  refine lv_iinc (v := (nI 1)) (lv' := [(6, .int (nI 1)), (5, .int (if x635 < x1304 then x1304 else x635)), (9, .int (nI j92)), (8, .int x1304), (7, .int (if 0 < ((x3 - (2 * x2)) - x4) then ((x3 - (2 * x2)) - x4) else 0)), (0, .ref g), (1, .int x), (2, .int x2), (3, .int x3), (4, .int x4)]) hx hb dX10_mostAlike_101 hl (k := 4) rfl (nI_1 0) (by decide) rfl (fun ls hl => ?_)
                  refine lv_goto (tgt := 6) hx hb dX10_mostAlike_104 (by decide) ?_
                  exact ihj91 1 (if x635 < x1304 then x1304 else x635) H locs ls (by omega) (by omega)  (hP.sub [0, 1, 7, 2, 3, 4, 5, 6] rfl) (hD.sub [0, 1, 7, 2, 3, 4, 5, 6] (by decide) rfl) hS (lv_sub hl [0, 1, 5, 6, 7, 8, 9] rfl)
                · skip
                  have h1339 : ¬ 6 ≤ j92 := fun q9 => h1339 ((nI_leI (a := 6) (b := j92) (by omega) (by omega)).mpr q9)
                  refine lv_iload_n hx hb dX10_mostAlike_54 rfl (lv_at hl 6 rfl) ?_
                  refine lv_iload hx hb dX10_mostAlike_55 (lv_at hl 0 rfl) ?_
                  refine lv_ishr hx hb dX10_mostAlike_57 ?_
                  refine lv_iconst (v := 1) hx hb dX10_mostAlike_58 (by decide) ?_
                  refine lv_iand hx hb dX10_mostAlike_59 ?_
                  refine lv_iconst (v := 1) hx hb dX10_mostAlike_60 (by decide) ?_
                  refine lv_icmp_ne (tgt := 86) hx hb dX10_mostAlike_61 (by decide) (fun h1340 => ?_) (fun h1341 => ?_)
                  · skip
                    refine lv_iinc (v := (nI (j92 + 1))) (lv' := [(9, .int (nI (j92 + 1))), (8, .int x1304), (7, .int (if 0 < ((x3 - (2 * x2)) - x4) then ((x3 - (2 * x2)) - x4) else 0)), (6, .int (nI 0)), (5, .int x635), (0, .ref g), (1, .int x), (2, .int x2), (3, .int x3), (4, .int x4)]) hx hb dX10_mostAlike_86 hl (k := 0) rfl (nI_1 j92) (by decide) rfl (fun ls hl => ?_)
                    refine lv_goto (tgt := 47) hx hb dX10_mostAlike_89 (by decide) ?_
                    exact ihj92 (j92 + 1) x1304 H locs ls (by omega) (by omega)  (hP.sub [0, 1, 2, 3, 4, 5, 6, 7] rfl) (hD.sub [0, 1, 2, 3, 4, 5, 6, 7] (by decide) rfl) hS (lv_sub hl [0, 1, 2, 3, 4, 5, 6, 7, 8, 9] rfl)
                  · skip
                    refine lv_aload_n hx hb dX10_mostAlike_64 rfl (lv_at hl 5 rfl) ?_
                    refine va_get (D := D) (ci := 10) (v := .ref kk) (C := RX10) (T := TX10) (N := 12) hx hb hts iw10 hown hK hP 0 rfl rfl 0 (by decide) fw1 (fun _ h9 => h9) rfl dX10_mostAlike_65 ?_
                    refine lv_iload hx hb dX10_mostAlike_68 (lv_at hl 0 rfl) ?_
                    rcases (show j92 = 0 ∨ j92 = 1 ∨ j92 = 2 ∨ j92 = 3 ∨ j92 = 4 ∨ j92 = 5 by omega) with rfl | rfl | rfl | rfl | rfl | rfl
                    · skip
                      refine va_aldq hx hb hK hP 1 5 rfl rfl (vp_in_nI (by omega) (by decide)) dX10_mostAlike_70 ?_
                      rw [nI_clamp (n := 0) (by omega), show va_rf (fq 0) = .ref k0 from congrArg va_rf hq0]
                      refine lv_iload_n hx hb dX10_mostAlike_71 rfl (lv_at hl 7 rfl) ?_
                      refine lv_iload_n hx hb dX10_mostAlike_72 rfl (lv_at hl 8 rfl) ?_
                      refine lv_iload hx hb dX10_mostAlike_73 (lv_at hl 9 rfl) ?_
                      have hs1342 : kw_Split [(g, .inr (10, [.ref kk, .ref nw, .ref im, .ref kp, .ref tx, .ref tr, .ref be, .ref sh, .ref sd, .ref rf, .int ab, .int bl])), (kk, .inl (y 5, 6, .inr (.inr (.inr (.inr fq))))), (k1, .inr (8, [])), (k2, .inr (9, [])), (k3, .inr (6, [])), (k4, .inr (2, [])), (k5, .inr (3, [])), (k0, .inr (5, []))] [(k0, .inr (5, []))] [(g, .inr (10, [.ref kk, .ref nw, .ref im, .ref kp, .ref tx, .ref tr, .ref be, .ref sh, .ref sd, .ref rf, .int ab, .int bl])), (kk, .inl (y 5, 6, .inr (.inr (.inr (.inr fq))))), (k1, .inr (8, [])), (k2, .inr (9, [])), (k3, .inr (6, [])), (k4, .inr (2, [])), (k5, .inr (3, []))] [7] [0, 1, 2, 3, 4, 5, 6] := ⟨rfl, rfl, rfl, rfl, rfl, by decide⟩
                      refine kw_go_i hs1342 hP hD hS hA (va_runV (As := [.int x2, .int x3, .int x4]) (rest := []) ⟨hx, hb, hml, hown, hts⟩ (gc_Plain_on5 l D y k0 x2 x3 x4  _) (cwV 3 hts gX10_mostAlike_X5_sight rfl rfl rfl (by decide +kernel) ⟨Nat.le_of_ble_eq_true rfl, Nat.le_of_ble_eq_true rfl⟩) (kw_PreV (ci := 5) (q0 := 7) hs1342 hP hD hK hN rfl rfl) rfl rfl hl.1 rfl (lv_room (Nat.le_of_ble_eq_true rfl)) dX10_mostAlike_75 ⟨Nat.le_of_ble_eq_true rfl, Nat.le_of_ble_eq_true rfl⟩) (fun r1343 u1344 H locs hq hP hD hS => ?_)
                      obtain rfl := hq
                      have hP : va_P D vwCl [(g, .inr (10, [.ref kk, .ref nw, .ref im, .ref kp, .ref tx, .ref tr, .ref be, .ref sh, .ref sd, .ref rf, .int ab, .int bl])), (kk, .inl (y 5, 6, .inr (.inr (.inr (.inr fq))))), (k1, .inr (8, [])), (k2, .inr (9, [])), (k3, .inr (6, [])), (k4, .inr (2, [])), (k5, .inr (3, [])), (k0, .inr (5, []))] H := hP
                      have hD : va_D A [(g, .inr (10, [.ref kk, .ref nw, .ref im, .ref kp, .ref tx, .ref tr, .ref be, .ref sh, .ref sd, .ref rf, .int ab, .int bl])), (kk, .inl (y 5, 6, .inr (.inr (.inr (.inr fq))))), (k1, .inr (8, [])), (k2, .inr (9, [])), (k3, .inr (6, [])), (k4, .inr (2, [])), (k5, .inr (3, [])), (k0, .inr (5, []))] := hD
                      refine lv_iload hx hb dX10_mostAlike_78 (lv_at hl 2 rfl) ?_
                      refine lv_icmp_ne (tgt := 86) hx hb dX10_mostAlike_80 (by decide) (fun h9 => absurd rfl h9) (fun _ => ?_)
                      refine lv_iinc (v := (x1304 + 1)) (lv' := [(8, .int (x1304 + 1)), (9, .int (nI 0)), (7, .int (if 0 < ((x3 - (2 * x2)) - x4) then ((x3 - (2 * x2)) - x4) else 0)), (6, .int (nI 0)), (5, .int x635), (0, .ref g), (1, .int x), (2, .int x2), (3, .int x3), (4, .int x4)]) hx hb dX10_mostAlike_83 hl (k := 1) rfl (rfl) (by decide) rfl (fun ls hl => ?_)
                      refine lv_iinc (v := (nI 1)) (lv' := [(9, .int (nI 1)), (8, .int (x1304 + 1)), (7, .int (if 0 < ((x3 - (2 * x2)) - x4) then ((x3 - (2 * x2)) - x4) else 0)), (6, .int (nI 0)), (5, .int x635), (0, .ref g), (1, .int x), (2, .int x2), (3, .int x3), (4, .int x4)]) hx hb dX10_mostAlike_86 hl (k := 1) rfl (nI_1 0) (by decide) rfl (fun ls hl => ?_)
                      refine lv_goto (tgt := 47) hx hb dX10_mostAlike_89 (by decide) ?_
                      exact ihj92 1 (x1304 + 1) H locs ls (by omega) (by omega)  (hP.sub [0, 1, 2, 3, 4, 5, 6, 7] rfl) (hD.sub [0, 1, 2, 3, 4, 5, 6, 7] (by decide) rfl) hS (lv_sub hl [0, 1, 2, 3, 4, 5, 6, 7, 8, 9] rfl)
                    · skip
                      refine va_aldq hx hb hK hP 1 5 rfl rfl (vp_in_nI (by omega) (by decide)) dX10_mostAlike_70 ?_
                      rw [nI_clamp (n := 1) (by omega), show va_rf (fq 1) = .ref k1 from congrArg va_rf hq1]
                      refine lv_iload_n hx hb dX10_mostAlike_71 rfl (lv_at hl 7 rfl) ?_
                      refine lv_iload_n hx hb dX10_mostAlike_72 rfl (lv_at hl 8 rfl) ?_
                      refine lv_iload hx hb dX10_mostAlike_73 (lv_at hl 9 rfl) ?_
                      have hs1345 : kw_Split [(g, .inr (10, [.ref kk, .ref nw, .ref im, .ref kp, .ref tx, .ref tr, .ref be, .ref sh, .ref sd, .ref rf, .int ab, .int bl])), (kk, .inl (y 5, 6, .inr (.inr (.inr (.inr fq))))), (k1, .inr (8, [])), (k2, .inr (9, [])), (k3, .inr (6, [])), (k4, .inr (2, [])), (k5, .inr (3, [])), (k0, .inr (5, []))] [(k1, .inr (8, []))] [(g, .inr (10, [.ref kk, .ref nw, .ref im, .ref kp, .ref tx, .ref tr, .ref be, .ref sh, .ref sd, .ref rf, .int ab, .int bl])), (kk, .inl (y 5, 6, .inr (.inr (.inr (.inr fq))))), (k2, .inr (9, [])), (k3, .inr (6, [])), (k4, .inr (2, [])), (k5, .inr (3, [])), (k0, .inr (5, []))] [2] [0, 1, 3, 4, 5, 6, 7] := ⟨rfl, rfl, rfl, rfl, rfl, by decide⟩
                      refine kw_go_i hs1345 hP hD hS hA (va_runU (As := [.int x2, .int x3, .int x4]) (rest := []) ⟨hx, hb, hml, hown, hts⟩ (gc_West_on8 l D y k1 x2 x3 x4  _) (va_cwO 3 hts gX10_mostAlike_X8_sight_u325X8 rfl rfl rfl (List.mem_of_getElem? (i := 24) rfl) (by decide +kernel) ⟨Nat.le_of_ble_eq_true rfl, Nat.le_of_ble_eq_true rfl⟩) (kw_PreV (ci := 8) (q0 := 2) hs1345 hP hD hK hN rfl rfl) rfl rfl hl.1 rfl (lv_room (Nat.le_of_ble_eq_true rfl)) dX10_mostAlike_75 ⟨Nat.le_of_ble_eq_true rfl, Nat.le_of_ble_eq_true rfl⟩) (fun r1346 u1347 H locs hq hP hD hS => ?_)
                      have hP : va_P D vwCl [(g, .inr (10, [.ref kk, .ref nw, .ref im, .ref kp, .ref tx, .ref tr, .ref be, .ref sh, .ref sd, .ref rf, .int ab, .int bl])), (kk, .inl (y 5, 6, .inr (.inr (.inr (.inr fq))))), (k2, .inr (9, [])), (k3, .inr (6, [])), (k4, .inr (2, [])), (k5, .inr (3, [])), (k0, .inr (5, [])), (k1, .inr (8, []))] H := hP
                      have hD : va_D A [(g, .inr (10, [.ref kk, .ref nw, .ref im, .ref kp, .ref tx, .ref tr, .ref be, .ref sh, .ref sd, .ref rf, .int ab, .int bl])), (kk, .inl (y 5, 6, .inr (.inr (.inr (.inr fq))))), (k2, .inr (9, [])), (k3, .inr (6, [])), (k4, .inr (2, [])), (k5, .inr (3, [])), (k0, .inr (5, [])), (k1, .inr (8, []))] := hD
                      refine lv_iload hx hb dX10_mostAlike_78 (lv_at hl 2 rfl) ?_
                      refine lv_icmp_ne (tgt := 86) hx hb dX10_mostAlike_80 (by decide) (fun h1348 => ?_) (fun h1349 => ?_)
                      · skip
                        refine lv_iinc (v := (nI 2)) (lv' := [(9, .int (nI 2)), (8, .int x1304), (7, .int (if 0 < ((x3 - (2 * x2)) - x4) then ((x3 - (2 * x2)) - x4) else 0)), (6, .int (nI 0)), (5, .int x635), (0, .ref g), (1, .int x), (2, .int x2), (3, .int x3), (4, .int x4)]) hx hb dX10_mostAlike_86 hl (k := 0) rfl (nI_1 1) (by decide) rfl (fun ls hl => ?_)
                        refine lv_goto (tgt := 47) hx hb dX10_mostAlike_89 (by decide) ?_
                        exact ihj92 2 x1304 H locs ls (by omega) (by omega)  (hP.sub [0, 1, 7, 2, 3, 4, 5, 6] rfl) (hD.sub [0, 1, 7, 2, 3, 4, 5, 6] (by decide) rfl) hS (lv_sub hl [0, 1, 2, 3, 4, 5, 6, 7, 8, 9] rfl)
                      · skip
                        refine lv_iinc (v := (x1304 + 1)) (lv' := [(8, .int (x1304 + 1)), (9, .int (nI 1)), (7, .int (if 0 < ((x3 - (2 * x2)) - x4) then ((x3 - (2 * x2)) - x4) else 0)), (6, .int (nI 0)), (5, .int x635), (0, .ref g), (1, .int x), (2, .int x2), (3, .int x3), (4, .int x4)]) hx hb dX10_mostAlike_83 hl (k := 1) rfl (rfl) (by decide) rfl (fun ls hl => ?_)
                        refine lv_iinc (v := (nI 2)) (lv' := [(9, .int (nI 2)), (8, .int (x1304 + 1)), (7, .int (if 0 < ((x3 - (2 * x2)) - x4) then ((x3 - (2 * x2)) - x4) else 0)), (6, .int (nI 0)), (5, .int x635), (0, .ref g), (1, .int x), (2, .int x2), (3, .int x3), (4, .int x4)]) hx hb dX10_mostAlike_86 hl (k := 1) rfl (nI_1 1) (by decide) rfl (fun ls hl => ?_)
                        refine lv_goto (tgt := 47) hx hb dX10_mostAlike_89 (by decide) ?_
                        exact ihj92 2 (x1304 + 1) H locs ls (by omega) (by omega)  (hP.sub [0, 1, 7, 2, 3, 4, 5, 6] rfl) (hD.sub [0, 1, 7, 2, 3, 4, 5, 6] (by decide) rfl) hS (lv_sub hl [0, 1, 2, 3, 4, 5, 6, 7, 8, 9] rfl)
                    · skip
                      refine va_aldq hx hb hK hP 1 5 rfl rfl (vp_in_nI (by omega) (by decide)) dX10_mostAlike_70 ?_
                      rw [nI_clamp (n := 2) (by omega), show va_rf (fq 2) = .ref k2 from congrArg va_rf hq2]
                      refine lv_iload_n hx hb dX10_mostAlike_71 rfl (lv_at hl 7 rfl) ?_
                      refine lv_iload_n hx hb dX10_mostAlike_72 rfl (lv_at hl 8 rfl) ?_
                      refine lv_iload hx hb dX10_mostAlike_73 (lv_at hl 9 rfl) ?_
                      have hs1350 : kw_Split [(g, .inr (10, [.ref kk, .ref nw, .ref im, .ref kp, .ref tx, .ref tr, .ref be, .ref sh, .ref sd, .ref rf, .int ab, .int bl])), (kk, .inl (y 5, 6, .inr (.inr (.inr (.inr fq))))), (k1, .inr (8, [])), (k2, .inr (9, [])), (k3, .inr (6, [])), (k4, .inr (2, [])), (k5, .inr (3, [])), (k0, .inr (5, []))] [(k2, .inr (9, []))] [(g, .inr (10, [.ref kk, .ref nw, .ref im, .ref kp, .ref tx, .ref tr, .ref be, .ref sh, .ref sd, .ref rf, .int ab, .int bl])), (kk, .inl (y 5, 6, .inr (.inr (.inr (.inr fq))))), (k1, .inr (8, [])), (k3, .inr (6, [])), (k4, .inr (2, [])), (k5, .inr (3, [])), (k0, .inr (5, []))] [3] [0, 1, 2, 4, 5, 6, 7] := ⟨rfl, rfl, rfl, rfl, rfl, by decide⟩
                      refine kw_go_i hs1350 hP hD hS hA (va_runU (As := [.int x2, .int x3, .int x4]) (rest := []) ⟨hx, hb, hml, hown, hts⟩ (gc_Wood_on9 l D y k2 x2 x3 x4  _) (va_cwO 3 hts gX10_mostAlike_X9_sight_u325X9 rfl rfl rfl (List.mem_of_getElem? (i := 24) rfl) (by decide +kernel) ⟨Nat.le_of_ble_eq_true rfl, Nat.le_of_ble_eq_true rfl⟩) (kw_PreV (ci := 9) (q0 := 3) hs1350 hP hD hK hN rfl rfl) rfl rfl hl.1 rfl (lv_room (Nat.le_of_ble_eq_true rfl)) dX10_mostAlike_75 ⟨Nat.le_of_ble_eq_true rfl, Nat.le_of_ble_eq_true rfl⟩) (fun r1351 u1352 H locs hq hP hD hS => ?_)
                      obtain rfl := hq
                      have hP : va_P D vwCl [(g, .inr (10, [.ref kk, .ref nw, .ref im, .ref kp, .ref tx, .ref tr, .ref be, .ref sh, .ref sd, .ref rf, .int ab, .int bl])), (kk, .inl (y 5, 6, .inr (.inr (.inr (.inr fq))))), (k1, .inr (8, [])), (k3, .inr (6, [])), (k4, .inr (2, [])), (k5, .inr (3, [])), (k0, .inr (5, [])), (k2, .inr (9, []))] H := hP
                      have hD : va_D A [(g, .inr (10, [.ref kk, .ref nw, .ref im, .ref kp, .ref tx, .ref tr, .ref be, .ref sh, .ref sd, .ref rf, .int ab, .int bl])), (kk, .inl (y 5, 6, .inr (.inr (.inr (.inr fq))))), (k1, .inr (8, [])), (k3, .inr (6, [])), (k4, .inr (2, [])), (k5, .inr (3, [])), (k0, .inr (5, [])), (k2, .inr (9, []))] := hD
                      refine lv_iload hx hb dX10_mostAlike_78 (lv_at hl 2 rfl) ?_
                      refine lv_icmp_ne (tgt := 86) hx hb dX10_mostAlike_80 (by decide) (fun h1353 => ?_) (fun h1354 => ?_)
                      · skip
                        refine lv_iinc (v := (nI 3)) (lv' := [(9, .int (nI 3)), (8, .int x1304), (7, .int (if 0 < ((x3 - (2 * x2)) - x4) then ((x3 - (2 * x2)) - x4) else 0)), (6, .int (nI 0)), (5, .int x635), (0, .ref g), (1, .int x), (2, .int x2), (3, .int x3), (4, .int x4)]) hx hb dX10_mostAlike_86 hl (k := 0) rfl (nI_1 2) (by decide) rfl (fun ls hl => ?_)
                        refine lv_goto (tgt := 47) hx hb dX10_mostAlike_89 (by decide) ?_
                        exact ihj92 3 x1304 H locs ls (by omega) (by omega)  (hP.sub [0, 1, 2, 7, 3, 4, 5, 6] rfl) (hD.sub [0, 1, 2, 7, 3, 4, 5, 6] (by decide) rfl) hS (lv_sub hl [0, 1, 2, 3, 4, 5, 6, 7, 8, 9] rfl)
                      · skip
                        refine lv_iinc (v := (x1304 + 1)) (lv' := [(8, .int (x1304 + 1)), (9, .int (nI 2)), (7, .int (if 0 < ((x3 - (2 * x2)) - x4) then ((x3 - (2 * x2)) - x4) else 0)), (6, .int (nI 0)), (5, .int x635), (0, .ref g), (1, .int x), (2, .int x2), (3, .int x3), (4, .int x4)]) hx hb dX10_mostAlike_83 hl (k := 1) rfl (rfl) (by decide) rfl (fun ls hl => ?_)
                        refine lv_iinc (v := (nI 3)) (lv' := [(9, .int (nI 3)), (8, .int (x1304 + 1)), (7, .int (if 0 < ((x3 - (2 * x2)) - x4) then ((x3 - (2 * x2)) - x4) else 0)), (6, .int (nI 0)), (5, .int x635), (0, .ref g), (1, .int x), (2, .int x2), (3, .int x3), (4, .int x4)]) hx hb dX10_mostAlike_86 hl (k := 1) rfl (nI_1 2) (by decide) rfl (fun ls hl => ?_)
                        refine lv_goto (tgt := 47) hx hb dX10_mostAlike_89 (by decide) ?_
                        exact ihj92 3 (x1304 + 1) H locs ls (by omega) (by omega)  (hP.sub [0, 1, 2, 7, 3, 4, 5, 6] rfl) (hD.sub [0, 1, 2, 7, 3, 4, 5, 6] (by decide) rfl) hS (lv_sub hl [0, 1, 2, 3, 4, 5, 6, 7, 8, 9] rfl)
                    · skip
                      refine va_aldq hx hb hK hP 1 5 rfl rfl (vp_in_nI (by omega) (by decide)) dX10_mostAlike_70 ?_
                      rw [nI_clamp (n := 3) (by omega), show va_rf (fq 3) = .ref k3 from congrArg va_rf hq3]
                      refine lv_iload_n hx hb dX10_mostAlike_71 rfl (lv_at hl 7 rfl) ?_
                      refine lv_iload_n hx hb dX10_mostAlike_72 rfl (lv_at hl 8 rfl) ?_
                      refine lv_iload hx hb dX10_mostAlike_73 (lv_at hl 9 rfl) ?_
                      have hs1355 : kw_Split [(g, .inr (10, [.ref kk, .ref nw, .ref im, .ref kp, .ref tx, .ref tr, .ref be, .ref sh, .ref sd, .ref rf, .int ab, .int bl])), (kk, .inl (y 5, 6, .inr (.inr (.inr (.inr fq))))), (k1, .inr (8, [])), (k2, .inr (9, [])), (k3, .inr (6, [])), (k4, .inr (2, [])), (k5, .inr (3, [])), (k0, .inr (5, []))] [(k3, .inr (6, []))] [(g, .inr (10, [.ref kk, .ref nw, .ref im, .ref kp, .ref tx, .ref tr, .ref be, .ref sh, .ref sd, .ref rf, .int ab, .int bl])), (kk, .inl (y 5, 6, .inr (.inr (.inr (.inr fq))))), (k1, .inr (8, [])), (k2, .inr (9, [])), (k4, .inr (2, [])), (k5, .inr (3, [])), (k0, .inr (5, []))] [4] [0, 1, 2, 3, 5, 6, 7] := ⟨rfl, rfl, rfl, rfl, rfl, by decide⟩
                      refine kw_go_i hs1355 hP hD hS hA (va_runU (As := [.int x2, .int x3, .int x4]) (rest := []) ⟨hx, hb, hml, hown, hts⟩ (gc_Puddle_on6 l D y k3 x2 x3 x4  _) (va_cwO 3 hts gX10_mostAlike_X6_sight_u325X6 rfl rfl rfl (List.mem_of_getElem? (i := 24) rfl) (by decide +kernel) ⟨Nat.le_of_ble_eq_true rfl, Nat.le_of_ble_eq_true rfl⟩) (kw_PreV (ci := 6) (q0 := 4) hs1355 hP hD hK hN rfl rfl) rfl rfl hl.1 rfl (lv_room (Nat.le_of_ble_eq_true rfl)) dX10_mostAlike_75 ⟨Nat.le_of_ble_eq_true rfl, Nat.le_of_ble_eq_true rfl⟩) (fun r1356 u1357 H locs hq hP hD hS => ?_)
                      obtain rfl := hq
                      have hP : va_P D vwCl [(g, .inr (10, [.ref kk, .ref nw, .ref im, .ref kp, .ref tx, .ref tr, .ref be, .ref sh, .ref sd, .ref rf, .int ab, .int bl])), (kk, .inl (y 5, 6, .inr (.inr (.inr (.inr fq))))), (k1, .inr (8, [])), (k2, .inr (9, [])), (k4, .inr (2, [])), (k5, .inr (3, [])), (k0, .inr (5, [])), (k3, .inr (6, []))] H := hP
                      have hD : va_D A [(g, .inr (10, [.ref kk, .ref nw, .ref im, .ref kp, .ref tx, .ref tr, .ref be, .ref sh, .ref sd, .ref rf, .int ab, .int bl])), (kk, .inl (y 5, 6, .inr (.inr (.inr (.inr fq))))), (k1, .inr (8, [])), (k2, .inr (9, [])), (k4, .inr (2, [])), (k5, .inr (3, [])), (k0, .inr (5, [])), (k3, .inr (6, []))] := hD
                      refine lv_iload hx hb dX10_mostAlike_78 (lv_at hl 2 rfl) ?_
                      refine lv_icmp_ne (tgt := 86) hx hb dX10_mostAlike_80 (by decide) (fun h1358 => ?_) (fun h1359 => ?_)
                      · skip
                        refine lv_iinc (v := (nI 4)) (lv' := [(9, .int (nI 4)), (8, .int x1304), (7, .int (if 0 < ((x3 - (2 * x2)) - x4) then ((x3 - (2 * x2)) - x4) else 0)), (6, .int (nI 0)), (5, .int x635), (0, .ref g), (1, .int x), (2, .int x2), (3, .int x3), (4, .int x4)]) hx hb dX10_mostAlike_86 hl (k := 0) rfl (nI_1 3) (by decide) rfl (fun ls hl => ?_)
                        refine lv_goto (tgt := 47) hx hb dX10_mostAlike_89 (by decide) ?_
                        exact ihj92 4 x1304 H locs ls (by omega) (by omega)  (hP.sub [0, 1, 2, 3, 7, 4, 5, 6] rfl) (hD.sub [0, 1, 2, 3, 7, 4, 5, 6] (by decide) rfl) hS (lv_sub hl [0, 1, 2, 3, 4, 5, 6, 7, 8, 9] rfl)
                      · skip
                        refine lv_iinc (v := (x1304 + 1)) (lv' := [(8, .int (x1304 + 1)), (9, .int (nI 3)), (7, .int (if 0 < ((x3 - (2 * x2)) - x4) then ((x3 - (2 * x2)) - x4) else 0)), (6, .int (nI 0)), (5, .int x635), (0, .ref g), (1, .int x), (2, .int x2), (3, .int x3), (4, .int x4)]) hx hb dX10_mostAlike_83 hl (k := 1) rfl (rfl) (by decide) rfl (fun ls hl => ?_)
                        refine lv_iinc (v := (nI 4)) (lv' := [(9, .int (nI 4)), (8, .int (x1304 + 1)), (7, .int (if 0 < ((x3 - (2 * x2)) - x4) then ((x3 - (2 * x2)) - x4) else 0)), (6, .int (nI 0)), (5, .int x635), (0, .ref g), (1, .int x), (2, .int x2), (3, .int x3), (4, .int x4)]) hx hb dX10_mostAlike_86 hl (k := 1) rfl (nI_1 3) (by decide) rfl (fun ls hl => ?_)
                        refine lv_goto (tgt := 47) hx hb dX10_mostAlike_89 (by decide) ?_
                        exact ihj92 4 (x1304 + 1) H locs ls (by omega) (by omega)  (hP.sub [0, 1, 2, 3, 7, 4, 5, 6] rfl) (hD.sub [0, 1, 2, 3, 7, 4, 5, 6] (by decide) rfl) hS (lv_sub hl [0, 1, 2, 3, 4, 5, 6, 7, 8, 9] rfl)
                    · skip
                      refine va_aldq hx hb hK hP 1 5 rfl rfl (vp_in_nI (by omega) (by decide)) dX10_mostAlike_70 ?_
                      rw [nI_clamp (n := 4) (by omega), show va_rf (fq 4) = .ref k4 from congrArg va_rf hq4]
                      refine lv_iload_n hx hb dX10_mostAlike_71 rfl (lv_at hl 7 rfl) ?_
                      refine lv_iload_n hx hb dX10_mostAlike_72 rfl (lv_at hl 8 rfl) ?_
                      refine lv_iload hx hb dX10_mostAlike_73 (lv_at hl 9 rfl) ?_
                      have hs1360 : kw_Split [(g, .inr (10, [.ref kk, .ref nw, .ref im, .ref kp, .ref tx, .ref tr, .ref be, .ref sh, .ref sd, .ref rf, .int ab, .int bl])), (kk, .inl (y 5, 6, .inr (.inr (.inr (.inr fq))))), (k1, .inr (8, [])), (k2, .inr (9, [])), (k3, .inr (6, [])), (k4, .inr (2, [])), (k5, .inr (3, [])), (k0, .inr (5, []))] [(k4, .inr (2, []))] [(g, .inr (10, [.ref kk, .ref nw, .ref im, .ref kp, .ref tx, .ref tr, .ref be, .ref sh, .ref sd, .ref rf, .int ab, .int bl])), (kk, .inl (y 5, 6, .inr (.inr (.inr (.inr fq))))), (k1, .inr (8, [])), (k2, .inr (9, [])), (k3, .inr (6, [])), (k5, .inr (3, [])), (k0, .inr (5, []))] [5] [0, 1, 2, 3, 4, 6, 7] := ⟨rfl, rfl, rfl, rfl, rfl, by decide⟩
                      refine kw_go_i hs1360 hP hD hS hA (va_runU (As := [.int x2, .int x3, .int x4]) (rest := []) ⟨hx, hb, hml, hown, hts⟩ (gc_Hill_on2 l D y k4 x2 x3 x4  _) (va_cwO 3 hts gX10_mostAlike_X2_sight_u325X2 rfl rfl rfl (List.mem_of_getElem? (i := 24) rfl) (by decide +kernel) ⟨Nat.le_of_ble_eq_true rfl, Nat.le_of_ble_eq_true rfl⟩) (kw_PreV (ci := 2) (q0 := 5) hs1360 hP hD hK hN rfl rfl) rfl rfl hl.1 rfl (lv_room (Nat.le_of_ble_eq_true rfl)) dX10_mostAlike_75 ⟨Nat.le_of_ble_eq_true rfl, Nat.le_of_ble_eq_true rfl⟩) (fun r1361 u1362 H locs hq hP hD hS => ?_)
                      have hP : va_P D vwCl [(g, .inr (10, [.ref kk, .ref nw, .ref im, .ref kp, .ref tx, .ref tr, .ref be, .ref sh, .ref sd, .ref rf, .int ab, .int bl])), (kk, .inl (y 5, 6, .inr (.inr (.inr (.inr fq))))), (k1, .inr (8, [])), (k2, .inr (9, [])), (k3, .inr (6, [])), (k5, .inr (3, [])), (k0, .inr (5, [])), (k4, .inr (2, []))] H := hP
                      have hD : va_D A [(g, .inr (10, [.ref kk, .ref nw, .ref im, .ref kp, .ref tx, .ref tr, .ref be, .ref sh, .ref sd, .ref rf, .int ab, .int bl])), (kk, .inl (y 5, 6, .inr (.inr (.inr (.inr fq))))), (k1, .inr (8, [])), (k2, .inr (9, [])), (k3, .inr (6, [])), (k5, .inr (3, [])), (k0, .inr (5, [])), (k4, .inr (2, []))] := hD
                      refine lv_iload hx hb dX10_mostAlike_78 (lv_at hl 2 rfl) ?_
                      refine lv_icmp_ne (tgt := 86) hx hb dX10_mostAlike_80 (by decide) (fun h1363 => ?_) (fun h1364 => ?_)
                      · skip
                        refine lv_iinc (v := (nI 5)) (lv' := [(9, .int (nI 5)), (8, .int x1304), (7, .int (if 0 < ((x3 - (2 * x2)) - x4) then ((x3 - (2 * x2)) - x4) else 0)), (6, .int (nI 0)), (5, .int x635), (0, .ref g), (1, .int x), (2, .int x2), (3, .int x3), (4, .int x4)]) hx hb dX10_mostAlike_86 hl (k := 0) rfl (nI_1 4) (by decide) rfl (fun ls hl => ?_)
                        refine lv_goto (tgt := 47) hx hb dX10_mostAlike_89 (by decide) ?_
                        exact ihj92 5 x1304 H locs ls (by omega) (by omega)  (hP.sub [0, 1, 2, 3, 4, 7, 5, 6] rfl) (hD.sub [0, 1, 2, 3, 4, 7, 5, 6] (by decide) rfl) hS (lv_sub hl [0, 1, 2, 3, 4, 5, 6, 7, 8, 9] rfl)
                      · skip
                        refine lv_iinc (v := (x1304 + 1)) (lv' := [(8, .int (x1304 + 1)), (9, .int (nI 4)), (7, .int (if 0 < ((x3 - (2 * x2)) - x4) then ((x3 - (2 * x2)) - x4) else 0)), (6, .int (nI 0)), (5, .int x635), (0, .ref g), (1, .int x), (2, .int x2), (3, .int x3), (4, .int x4)]) hx hb dX10_mostAlike_83 hl (k := 1) rfl (rfl) (by decide) rfl (fun ls hl => ?_)
                        refine lv_iinc (v := (nI 5)) (lv' := [(9, .int (nI 5)), (8, .int (x1304 + 1)), (7, .int (if 0 < ((x3 - (2 * x2)) - x4) then ((x3 - (2 * x2)) - x4) else 0)), (6, .int (nI 0)), (5, .int x635), (0, .ref g), (1, .int x), (2, .int x2), (3, .int x3), (4, .int x4)]) hx hb dX10_mostAlike_86 hl (k := 1) rfl (nI_1 4) (by decide) rfl (fun ls hl => ?_)
                        refine lv_goto (tgt := 47) hx hb dX10_mostAlike_89 (by decide) ?_
                        exact ihj92 5 (x1304 + 1) H locs ls (by omega) (by omega)  (hP.sub [0, 1, 2, 3, 4, 7, 5, 6] rfl) (hD.sub [0, 1, 2, 3, 4, 7, 5, 6] (by decide) rfl) hS (lv_sub hl [0, 1, 2, 3, 4, 5, 6, 7, 8, 9] rfl)
                    · skip
                      refine va_aldq hx hb hK hP 1 5 rfl rfl (vp_in_nI (by omega) (by decide)) dX10_mostAlike_70 ?_
                      rw [nI_clamp (n := 5) (by omega), show va_rf (fq 5) = .ref k5 from congrArg va_rf hq5]
                      refine lv_iload_n hx hb dX10_mostAlike_71 rfl (lv_at hl 7 rfl) ?_
                      refine lv_iload_n hx hb dX10_mostAlike_72 rfl (lv_at hl 8 rfl) ?_
                      refine lv_iload hx hb dX10_mostAlike_73 (lv_at hl 9 rfl) ?_
                      have hs1365 : kw_Split [(g, .inr (10, [.ref kk, .ref nw, .ref im, .ref kp, .ref tx, .ref tr, .ref be, .ref sh, .ref sd, .ref rf, .int ab, .int bl])), (kk, .inl (y 5, 6, .inr (.inr (.inr (.inr fq))))), (k1, .inr (8, [])), (k2, .inr (9, [])), (k3, .inr (6, [])), (k4, .inr (2, [])), (k5, .inr (3, [])), (k0, .inr (5, []))] [(k5, .inr (3, []))] [(g, .inr (10, [.ref kk, .ref nw, .ref im, .ref kp, .ref tx, .ref tr, .ref be, .ref sh, .ref sd, .ref rf, .int ab, .int bl])), (kk, .inl (y 5, 6, .inr (.inr (.inr (.inr fq))))), (k1, .inr (8, [])), (k2, .inr (9, [])), (k3, .inr (6, [])), (k4, .inr (2, [])), (k0, .inr (5, []))] [6] [0, 1, 2, 3, 4, 5, 7] := ⟨rfl, rfl, rfl, rfl, rfl, by decide⟩
                      refine kw_go_i hs1365 hP hD hS hA (va_runU (As := [.int x2, .int x3, .int x4]) (rest := []) ⟨hx, hb, hml, hown, hts⟩ (gc_Lane_on3 l D y k5 x2 x3 x4  _) (va_cwO 3 hts gX10_mostAlike_X3_sight_u325X3 rfl rfl rfl (List.mem_of_getElem? (i := 24) rfl) (by decide +kernel) ⟨Nat.le_of_ble_eq_true rfl, Nat.le_of_ble_eq_true rfl⟩) (kw_PreV (ci := 3) (q0 := 6) hs1365 hP hD hK hN rfl rfl) rfl rfl hl.1 rfl (lv_room (Nat.le_of_ble_eq_true rfl)) dX10_mostAlike_75 ⟨Nat.le_of_ble_eq_true rfl, Nat.le_of_ble_eq_true rfl⟩) (fun r1366 u1367 H locs hq hP hD hS => ?_)
                      have hP : va_P D vwCl [(g, .inr (10, [.ref kk, .ref nw, .ref im, .ref kp, .ref tx, .ref tr, .ref be, .ref sh, .ref sd, .ref rf, .int ab, .int bl])), (kk, .inl (y 5, 6, .inr (.inr (.inr (.inr fq))))), (k1, .inr (8, [])), (k2, .inr (9, [])), (k3, .inr (6, [])), (k4, .inr (2, [])), (k0, .inr (5, [])), (k5, .inr (3, []))] H := hP
                      have hD : va_D A [(g, .inr (10, [.ref kk, .ref nw, .ref im, .ref kp, .ref tx, .ref tr, .ref be, .ref sh, .ref sd, .ref rf, .int ab, .int bl])), (kk, .inl (y 5, 6, .inr (.inr (.inr (.inr fq))))), (k1, .inr (8, [])), (k2, .inr (9, [])), (k3, .inr (6, [])), (k4, .inr (2, [])), (k0, .inr (5, [])), (k5, .inr (3, []))] := hD
                      refine lv_iload hx hb dX10_mostAlike_78 (lv_at hl 2 rfl) ?_
                      refine lv_icmp_ne (tgt := 86) hx hb dX10_mostAlike_80 (by decide) (fun h1368 => ?_) (fun h1369 => ?_)
                      · skip
                        refine lv_iinc (v := (nI 6)) (lv' := [(9, .int (nI 6)), (8, .int x1304), (7, .int (if 0 < ((x3 - (2 * x2)) - x4) then ((x3 - (2 * x2)) - x4) else 0)), (6, .int (nI 0)), (5, .int x635), (0, .ref g), (1, .int x), (2, .int x2), (3, .int x3), (4, .int x4)]) hx hb dX10_mostAlike_86 hl (k := 0) rfl (nI_1 5) (by decide) rfl (fun ls hl => ?_)
                        refine lv_goto (tgt := 47) hx hb dX10_mostAlike_89 (by decide) ?_
                        exact ihj92 6 x1304 H locs ls (by omega) (by omega)  (hP.sub [0, 1, 2, 3, 4, 5, 7, 6] rfl) (hD.sub [0, 1, 2, 3, 4, 5, 7, 6] (by decide) rfl) hS (lv_sub hl [0, 1, 2, 3, 4, 5, 6, 7, 8, 9] rfl)
                      · skip
                        refine lv_iinc (v := (x1304 + 1)) (lv' := [(8, .int (x1304 + 1)), (9, .int (nI 5)), (7, .int (if 0 < ((x3 - (2 * x2)) - x4) then ((x3 - (2 * x2)) - x4) else 0)), (6, .int (nI 0)), (5, .int x635), (0, .ref g), (1, .int x), (2, .int x2), (3, .int x3), (4, .int x4)]) hx hb dX10_mostAlike_83 hl (k := 1) rfl (rfl) (by decide) rfl (fun ls hl => ?_)
                        refine lv_iinc (v := (nI 6)) (lv' := [(9, .int (nI 6)), (8, .int (x1304 + 1)), (7, .int (if 0 < ((x3 - (2 * x2)) - x4) then ((x3 - (2 * x2)) - x4) else 0)), (6, .int (nI 0)), (5, .int x635), (0, .ref g), (1, .int x), (2, .int x2), (3, .int x3), (4, .int x4)]) hx hb dX10_mostAlike_86 hl (k := 1) rfl (nI_1 5) (by decide) rfl (fun ls hl => ?_)
                        refine lv_goto (tgt := 47) hx hb dX10_mostAlike_89 (by decide) ?_
                        exact ihj92 6 (x1304 + 1) H locs ls (by omega) (by omega)  (hP.sub [0, 1, 2, 3, 4, 5, 7, 6] rfl) (hD.sub [0, 1, 2, 3, 4, 5, 7, 6] (by decide) rfl) hS (lv_sub hl [0, 1, 2, 3, 4, 5, 6, 7, 8, 9] rfl)
            exact lp1337 (6 + 1) 0 0 _ _ _ (by omega) (by omega)  hP hD hS (lv_sub hl [0, 1, 2, 3, 4, 5, 6, 7, 8, 9] rfl)
          · skip
            refine va_aldq hx hb hK hP 1 5 rfl rfl (vp_in_nI (by omega) (by decide)) dX10_mostAlike_31 ?_
            rw [nI_clamp (n := 1) (by omega), show va_rf (fq 1) = .ref k1 from congrArg va_rf hq1]
            refine lv_iload_n hx hb dX10_mostAlike_32 rfl (lv_at hl 4 rfl) ?_
            refine lv_iload_n hx hb dX10_mostAlike_33 rfl (lv_at hl 5 rfl) ?_
            refine lv_iload hx hb dX10_mostAlike_34 (lv_at hl 6 rfl) ?_
            have hs1370 : kw_Split [(g, .inr (10, [.ref kk, .ref nw, .ref im, .ref kp, .ref tx, .ref tr, .ref be, .ref sh, .ref sd, .ref rf, .int ab, .int bl])), (kk, .inl (y 5, 6, .inr (.inr (.inr (.inr fq))))), (k0, .inr (5, [])), (k1, .inr (8, [])), (k2, .inr (9, [])), (k3, .inr (6, [])), (k4, .inr (2, [])), (k5, .inr (3, []))] [(k1, .inr (8, []))] [(g, .inr (10, [.ref kk, .ref nw, .ref im, .ref kp, .ref tx, .ref tr, .ref be, .ref sh, .ref sd, .ref rf, .int ab, .int bl])), (kk, .inl (y 5, 6, .inr (.inr (.inr (.inr fq))))), (k0, .inr (5, [])), (k2, .inr (9, [])), (k3, .inr (6, [])), (k4, .inr (2, [])), (k5, .inr (3, []))] [3] [0, 1, 2, 4, 5, 6, 7] := ⟨rfl, rfl, rfl, rfl, rfl, by decide⟩
            refine kw_go_i hs1370 hP hD hS hA (va_runU (As := [.int x2, .int x3, .int x4]) (rest := []) ⟨hx, hb, hml, hown, hts⟩ (gc_West_on8 l D y k1 x2 x3 x4  _) (va_cwO 3 hts gX10_mostAlike_X8_sight_u325X8 rfl rfl rfl (List.mem_of_getElem? (i := 24) rfl) (by decide +kernel) ⟨Nat.le_of_ble_eq_true rfl, Nat.le_of_ble_eq_true rfl⟩) (kw_PreV (ci := 8) (q0 := 3) hs1370 hP hD hK hN rfl rfl) rfl rfl hl.1 rfl (lv_room (Nat.le_of_ble_eq_true rfl)) dX10_mostAlike_36 ⟨Nat.le_of_ble_eq_true rfl, Nat.le_of_ble_eq_true rfl⟩) (fun r1371 u1372 H locs hq hP hD hS => ?_)
            have hP : va_P D vwCl [(g, .inr (10, [.ref kk, .ref nw, .ref im, .ref kp, .ref tx, .ref tr, .ref be, .ref sh, .ref sd, .ref rf, .int ab, .int bl])), (kk, .inl (y 5, 6, .inr (.inr (.inr (.inr fq))))), (k0, .inr (5, [])), (k2, .inr (9, [])), (k3, .inr (6, [])), (k4, .inr (2, [])), (k5, .inr (3, [])), (k1, .inr (8, []))] H := hP
            have hD : va_D A [(g, .inr (10, [.ref kk, .ref nw, .ref im, .ref kp, .ref tx, .ref tr, .ref be, .ref sh, .ref sd, .ref rf, .int ab, .int bl])), (kk, .inl (y 5, 6, .inr (.inr (.inr (.inr fq))))), (k0, .inr (5, [])), (k2, .inr (9, [])), (k3, .inr (6, [])), (k4, .inr (2, [])), (k5, .inr (3, [])), (k1, .inr (8, []))] := hD
            refine lv_istore (lv' := [(7, .int r1371), (6, .int (nI 1)), (5, .int x635), (0, .ref g), (1, .int x), (2, .int x2), (3, .int x3), (4, .int x4)]) hx hb dX10_mostAlike_39 hl (by decide) rfl (fun ls hl => ?_)
            refine lv_iconst (v := 0) hx hb dX10_mostAlike_41 (by decide) ?_
            refine lv_istore (lv' := [(8, .int 0), (7, .int r1371), (6, .int (nI 1)), (5, .int x635), (0, .ref g), (1, .int x), (2, .int x2), (3, .int x3), (4, .int x4)]) hx hb dX10_mostAlike_42 hl (by decide) rfl (fun ls hl => ?_)
            refine lv_iconst (v := 0) hx hb dX10_mostAlike_44 (by decide) ?_
            refine lv_istore (lv' := [(9, .int 0), (8, .int 0), (7, .int r1371), (6, .int (nI 1)), (5, .int x635), (0, .ref g), (1, .int x), (2, .int x2), (3, .int x3), (4, .int x4)]) hx hb dX10_mostAlike_45 hl (by decide) rfl (fun ls hl => ?_)
            have lp1442 : ∀ (fuj92 j92 : Nat) (x1407 : Int32) (H : Heap) (locs : List Loc) (ls : Array Slot), j92 ≤ 6 → 6 - j92 < fuj92 → va_P D vwCl [(g, .inr (10, [.ref kk, .ref nw, .ref im, .ref kp, .ref tx, .ref tr, .ref be, .ref sh, .ref sd, .ref rf, .int ab, .int bl])), (kk, .inl (y 5, 6, .inr (.inr (.inr (.inr fq))))), (k0, .inr (5, [])), (k2, .inr (9, [])), (k3, .inr (6, [])), (k4, .inr (2, [])), (k5, .inr (3, [])), (k1, .inr (8, []))] H → va_D A [(g, .inr (10, [.ref kk, .ref nw, .ref im, .ref kp, .ref tx, .ref tr, .ref be, .ref sh, .ref sd, .ref rf, .int ab, .int bl])), (kk, .inl (y 5, 6, .inr (.inr (.inr (.inr fq))))), (k0, .inr (5, [])), (k2, .inr (9, [])), (k3, .inr (6, [])), (k4, .inr (2, [])), (k5, .inr (3, [])), (k1, .inr (8, []))] → va_S A s.heap H locs → lv_has ls 10 [(9, .int (nI j92)), (8, .int x1407), (7, .int r1371), (6, .int (nI 1)), (5, .int x635), (0, .ref g), (1, .int x), (2, .int x2), (3, .int x3), (4, .int x4)] → W pZ l eZ ({ frames := 4, cells := 0, slots := 0, locals := 130 }) s mZ [.ref g, .int x, .int x2, .int x3, .int x4].toArray beZ meZ cZ H locs 0 0 (MQ beZ (va_Qi (fun (r : Int32) (u : Unit) => True) (kw_B D (fun _ => [(g, .inr (10, [.ref kk, .ref nw, .ref im, .ref kp, .ref tx, .ref tr, .ref be, .ref sh, .ref sd, .ref rf, .int ab, .int bl])), (kk, .inl (y 5, 6, .inr (.inr (.inr (.inr fq))))), (k0, .inr (5, [])), (k1, .inr (8, [])), (k2, .inr (9, [])), (k3, .inr (6, [])), (k4, .inr (2, [])), (k5, .inr (3, []))]) A) A) [.ref g, .int x, .int x2, .int x3, .int x4].toArray s 0 0 A) (F0 mZ 47 ls []) := by
              intro fuj92
              induction fuj92 with
              | zero => intro j92 x1407 H locs ls hj9 hf9; exact absurd hf9 (Nat.not_lt_zero _)
              | succ fuj92 ihj92 =>
                intro j92 x1407 H locs ls hj92 hfj92  hP hD hS hl
                refine lv_iload hx hb dX10_mostAlike_47 (lv_at hl 0 rfl) ?_
                refine lv_bipush (v := 6) hx hb dX10_mostAlike_49 (by decide) ?_
                refine lv_icmp_ge (tgt := 92) hx hb dX10_mostAlike_51 (by decide) (fun h1443 => ?_) (fun h1444 => ?_)
                · skip
                  have h1443 : 6 ≤ j92 := (nI_leI (a := 6) (b := j92) (by omega) (by omega)).mp h1443
                  refine lv_iload hx hb dX10_mostAlike_92 (lv_at hl 4 rfl) ?_
                  refine lv_iload hx hb dX10_mostAlike_94 (lv_at hl 1 rfl) ?_
                  refine va_mmax hx hb (hml.trans hl.1.symm) hown fw2 fw3 fw4 fw5 (Nat.le_of_ble_eq_true rfl) (Nat.le_of_ble_eq_true rfl) (Nat.le_of_ble_eq_true rfl) (Nat.le_of_ble_eq_true rfl) dX10_mostAlike_96 ?_
                  refine lv_istore (lv' := [(5, .int (if x635 < x1407 then x1407 else x635)), (9, .int (nI j92)), (8, .int x1407), (7, .int r1371), (6, .int (nI 1)), (0, .ref g), (1, .int x), (2, .int x2), (3, .int x3), (4, .int x4)]) hx hb dX10_mostAlike_99 hl (by decide) rfl (fun ls hl => ?_)
                  refine lv_iinc (v := (nI 2)) (lv' := [(6, .int (nI 2)), (5, .int (if x635 < x1407 then x1407 else x635)), (9, .int (nI j92)), (8, .int x1407), (7, .int r1371), (0, .ref g), (1, .int x), (2, .int x2), (3, .int x3), (4, .int x4)]) hx hb dX10_mostAlike_101 hl (k := 4) rfl (nI_1 1) (by decide) rfl (fun ls hl => ?_)
                  refine lv_goto (tgt := 6) hx hb dX10_mostAlike_104 (by decide) ?_
                  exact ihj91 2 (if x635 < x1407 then x1407 else x635) H locs ls (by omega) (by omega)  (hP.sub [0, 1, 2, 7, 3, 4, 5, 6] rfl) (hD.sub [0, 1, 2, 7, 3, 4, 5, 6] (by decide) rfl) hS (lv_sub hl [0, 1, 5, 6, 7, 8, 9] rfl)
                · skip
                  have h1444 : ¬ 6 ≤ j92 := fun q9 => h1444 ((nI_leI (a := 6) (b := j92) (by omega) (by omega)).mpr q9)
                  refine lv_iload_n hx hb dX10_mostAlike_54 rfl (lv_at hl 6 rfl) ?_
                  refine lv_iload hx hb dX10_mostAlike_55 (lv_at hl 0 rfl) ?_
                  refine lv_ishr hx hb dX10_mostAlike_57 ?_
                  refine lv_iconst (v := 1) hx hb dX10_mostAlike_58 (by decide) ?_
                  refine lv_iand hx hb dX10_mostAlike_59 ?_
                  refine lv_iconst (v := 1) hx hb dX10_mostAlike_60 (by decide) ?_
                  refine lv_icmp_ne (tgt := 86) hx hb dX10_mostAlike_61 (by decide) (fun h1445 => ?_) (fun h1446 => ?_)
                  · skip
                    refine lv_iinc (v := (nI (j92 + 1))) (lv' := [(9, .int (nI (j92 + 1))), (8, .int x1407), (7, .int r1371), (6, .int (nI 1)), (5, .int x635), (0, .ref g), (1, .int x), (2, .int x2), (3, .int x3), (4, .int x4)]) hx hb dX10_mostAlike_86 hl (k := 0) rfl (nI_1 j92) (by decide) rfl (fun ls hl => ?_)
                    refine lv_goto (tgt := 47) hx hb dX10_mostAlike_89 (by decide) ?_
                    exact ihj92 (j92 + 1) x1407 H locs ls (by omega) (by omega)  (hP.sub [0, 1, 2, 3, 4, 5, 6, 7] rfl) (hD.sub [0, 1, 2, 3, 4, 5, 6, 7] (by decide) rfl) hS (lv_sub hl [0, 1, 2, 3, 4, 5, 6, 7, 8, 9] rfl)
                  · skip
                    refine lv_aload_n hx hb dX10_mostAlike_64 rfl (lv_at hl 5 rfl) ?_
                    refine va_get (D := D) (ci := 10) (v := .ref kk) (C := RX10) (T := TX10) (N := 12) hx hb hts iw10 hown hK hP 0 rfl rfl 0 (by decide) fw1 (fun _ h9 => h9) rfl dX10_mostAlike_65 ?_
                    refine lv_iload hx hb dX10_mostAlike_68 (lv_at hl 0 rfl) ?_
                    rcases (show j92 = 0 ∨ j92 = 1 ∨ j92 = 2 ∨ j92 = 3 ∨ j92 = 4 ∨ j92 = 5 by omega) with rfl | rfl | rfl | rfl | rfl | rfl
                    · skip
                      refine va_aldq hx hb hK hP 1 5 rfl rfl (vp_in_nI (by omega) (by decide)) dX10_mostAlike_70 ?_
                      rw [nI_clamp (n := 0) (by omega), show va_rf (fq 0) = .ref k0 from congrArg va_rf hq0]
                      refine lv_iload_n hx hb dX10_mostAlike_71 rfl (lv_at hl 7 rfl) ?_
                      refine lv_iload_n hx hb dX10_mostAlike_72 rfl (lv_at hl 8 rfl) ?_
                      refine lv_iload hx hb dX10_mostAlike_73 (lv_at hl 9 rfl) ?_
                      have hs1447 : kw_Split [(g, .inr (10, [.ref kk, .ref nw, .ref im, .ref kp, .ref tx, .ref tr, .ref be, .ref sh, .ref sd, .ref rf, .int ab, .int bl])), (kk, .inl (y 5, 6, .inr (.inr (.inr (.inr fq))))), (k0, .inr (5, [])), (k2, .inr (9, [])), (k3, .inr (6, [])), (k4, .inr (2, [])), (k5, .inr (3, [])), (k1, .inr (8, []))] [(k0, .inr (5, []))] [(g, .inr (10, [.ref kk, .ref nw, .ref im, .ref kp, .ref tx, .ref tr, .ref be, .ref sh, .ref sd, .ref rf, .int ab, .int bl])), (kk, .inl (y 5, 6, .inr (.inr (.inr (.inr fq))))), (k2, .inr (9, [])), (k3, .inr (6, [])), (k4, .inr (2, [])), (k5, .inr (3, [])), (k1, .inr (8, []))] [2] [0, 1, 3, 4, 5, 6, 7] := ⟨rfl, rfl, rfl, rfl, rfl, by decide⟩
                      refine kw_go_i hs1447 hP hD hS hA (va_runV (As := [.int x2, .int x3, .int x4]) (rest := []) ⟨hx, hb, hml, hown, hts⟩ (gc_Plain_on5 l D y k0 x2 x3 x4  _) (cwV 3 hts gX10_mostAlike_X5_sight rfl rfl rfl (by decide +kernel) ⟨Nat.le_of_ble_eq_true rfl, Nat.le_of_ble_eq_true rfl⟩) (kw_PreV (ci := 5) (q0 := 2) hs1447 hP hD hK hN rfl rfl) rfl rfl hl.1 rfl (lv_room (Nat.le_of_ble_eq_true rfl)) dX10_mostAlike_75 ⟨Nat.le_of_ble_eq_true rfl, Nat.le_of_ble_eq_true rfl⟩) (fun r1448 u1449 H locs hq hP hD hS => ?_)
                      obtain rfl := hq
                      have hP : va_P D vwCl [(g, .inr (10, [.ref kk, .ref nw, .ref im, .ref kp, .ref tx, .ref tr, .ref be, .ref sh, .ref sd, .ref rf, .int ab, .int bl])), (kk, .inl (y 5, 6, .inr (.inr (.inr (.inr fq))))), (k2, .inr (9, [])), (k3, .inr (6, [])), (k4, .inr (2, [])), (k5, .inr (3, [])), (k1, .inr (8, [])), (k0, .inr (5, []))] H := hP
                      have hD : va_D A [(g, .inr (10, [.ref kk, .ref nw, .ref im, .ref kp, .ref tx, .ref tr, .ref be, .ref sh, .ref sd, .ref rf, .int ab, .int bl])), (kk, .inl (y 5, 6, .inr (.inr (.inr (.inr fq))))), (k2, .inr (9, [])), (k3, .inr (6, [])), (k4, .inr (2, [])), (k5, .inr (3, [])), (k1, .inr (8, [])), (k0, .inr (5, []))] := hD
                      refine lv_iload hx hb dX10_mostAlike_78 (lv_at hl 2 rfl) ?_
                      refine lv_icmp_ne (tgt := 86) hx hb dX10_mostAlike_80 (by decide) (fun h1450 => ?_) (fun h1451 => ?_)
                      · skip
                        refine lv_iinc (v := (nI 1)) (lv' := [(9, .int (nI 1)), (8, .int x1407), (7, .int r1371), (6, .int (nI 1)), (5, .int x635), (0, .ref g), (1, .int x), (2, .int x2), (3, .int x3), (4, .int x4)]) hx hb dX10_mostAlike_86 hl (k := 0) rfl (nI_1 0) (by decide) rfl (fun ls hl => ?_)
                        refine lv_goto (tgt := 47) hx hb dX10_mostAlike_89 (by decide) ?_
                        exact ihj92 1 x1407 H locs ls (by omega) (by omega)  (hP.sub [0, 1, 7, 2, 3, 4, 5, 6] rfl) (hD.sub [0, 1, 7, 2, 3, 4, 5, 6] (by decide) rfl) hS (lv_sub hl [0, 1, 2, 3, 4, 5, 6, 7, 8, 9] rfl)
                      · skip
                        refine lv_iinc (v := (x1407 + 1)) (lv' := [(8, .int (x1407 + 1)), (9, .int (nI 0)), (7, .int r1371), (6, .int (nI 1)), (5, .int x635), (0, .ref g), (1, .int x), (2, .int x2), (3, .int x3), (4, .int x4)]) hx hb dX10_mostAlike_83 hl (k := 1) rfl (rfl) (by decide) rfl (fun ls hl => ?_)
                        refine lv_iinc (v := (nI 1)) (lv' := [(9, .int (nI 1)), (8, .int (x1407 + 1)), (7, .int r1371), (6, .int (nI 1)), (5, .int x635), (0, .ref g), (1, .int x), (2, .int x2), (3, .int x3), (4, .int x4)]) hx hb dX10_mostAlike_86 hl (k := 1) rfl (nI_1 0) (by decide) rfl (fun ls hl => ?_)
                        refine lv_goto (tgt := 47) hx hb dX10_mostAlike_89 (by decide) ?_
                        exact ihj92 1 (x1407 + 1) H locs ls (by omega) (by omega)  (hP.sub [0, 1, 7, 2, 3, 4, 5, 6] rfl) (hD.sub [0, 1, 7, 2, 3, 4, 5, 6] (by decide) rfl) hS (lv_sub hl [0, 1, 2, 3, 4, 5, 6, 7, 8, 9] rfl)
                    · skip
                      refine va_aldq hx hb hK hP 1 5 rfl rfl (vp_in_nI (by omega) (by decide)) dX10_mostAlike_70 ?_
                      rw [nI_clamp (n := 1) (by omega), show va_rf (fq 1) = .ref k1 from congrArg va_rf hq1]
                      refine lv_iload_n hx hb dX10_mostAlike_71 rfl (lv_at hl 7 rfl) ?_
                      refine lv_iload_n hx hb dX10_mostAlike_72 rfl (lv_at hl 8 rfl) ?_
                      refine lv_iload hx hb dX10_mostAlike_73 (lv_at hl 9 rfl) ?_
                      have hs1452 : kw_Split [(g, .inr (10, [.ref kk, .ref nw, .ref im, .ref kp, .ref tx, .ref tr, .ref be, .ref sh, .ref sd, .ref rf, .int ab, .int bl])), (kk, .inl (y 5, 6, .inr (.inr (.inr (.inr fq))))), (k0, .inr (5, [])), (k2, .inr (9, [])), (k3, .inr (6, [])), (k4, .inr (2, [])), (k5, .inr (3, [])), (k1, .inr (8, []))] [(k1, .inr (8, []))] [(g, .inr (10, [.ref kk, .ref nw, .ref im, .ref kp, .ref tx, .ref tr, .ref be, .ref sh, .ref sd, .ref rf, .int ab, .int bl])), (kk, .inl (y 5, 6, .inr (.inr (.inr (.inr fq))))), (k0, .inr (5, [])), (k2, .inr (9, [])), (k3, .inr (6, [])), (k4, .inr (2, [])), (k5, .inr (3, []))] [7] [0, 1, 2, 3, 4, 5, 6] := ⟨rfl, rfl, rfl, rfl, rfl, by decide⟩
                      refine kw_go_i hs1452 hP hD hS hA (va_runU (As := [.int x2, .int x3, .int x4]) (rest := []) ⟨hx, hb, hml, hown, hts⟩ (gc_West_on8 l D y k1 x2 x3 x4  _) (va_cwO 3 hts gX10_mostAlike_X8_sight_u325X8 rfl rfl rfl (List.mem_of_getElem? (i := 24) rfl) (by decide +kernel) ⟨Nat.le_of_ble_eq_true rfl, Nat.le_of_ble_eq_true rfl⟩) (kw_PreV (ci := 8) (q0 := 7) hs1452 hP hD hK hN rfl rfl) rfl rfl hl.1 rfl (lv_room (Nat.le_of_ble_eq_true rfl)) dX10_mostAlike_75 ⟨Nat.le_of_ble_eq_true rfl, Nat.le_of_ble_eq_true rfl⟩) (fun r1453 u1454 H locs hq hP hD hS => ?_)
                      have hP : va_P D vwCl [(g, .inr (10, [.ref kk, .ref nw, .ref im, .ref kp, .ref tx, .ref tr, .ref be, .ref sh, .ref sd, .ref rf, .int ab, .int bl])), (kk, .inl (y 5, 6, .inr (.inr (.inr (.inr fq))))), (k0, .inr (5, [])), (k2, .inr (9, [])), (k3, .inr (6, [])), (k4, .inr (2, [])), (k5, .inr (3, [])), (k1, .inr (8, []))] H := hP
                      have hD : va_D A [(g, .inr (10, [.ref kk, .ref nw, .ref im, .ref kp, .ref tx, .ref tr, .ref be, .ref sh, .ref sd, .ref rf, .int ab, .int bl])), (kk, .inl (y 5, 6, .inr (.inr (.inr (.inr fq))))), (k0, .inr (5, [])), (k2, .inr (9, [])), (k3, .inr (6, [])), (k4, .inr (2, [])), (k5, .inr (3, [])), (k1, .inr (8, []))] := hD
                      refine lv_iload hx hb dX10_mostAlike_78 (lv_at hl 2 rfl) ?_
                      refine lv_icmp_ne (tgt := 86) hx hb dX10_mostAlike_80 (by decide) (fun h1455 => ?_) (fun h1456 => ?_)
                      · skip
                        refine lv_iinc (v := (nI 2)) (lv' := [(9, .int (nI 2)), (8, .int x1407), (7, .int r1371), (6, .int (nI 1)), (5, .int x635), (0, .ref g), (1, .int x), (2, .int x2), (3, .int x3), (4, .int x4)]) hx hb dX10_mostAlike_86 hl (k := 0) rfl (nI_1 1) (by decide) rfl (fun ls hl => ?_)
                        refine lv_goto (tgt := 47) hx hb dX10_mostAlike_89 (by decide) ?_
                        exact ihj92 2 x1407 H locs ls (by omega) (by omega)  (hP.sub [0, 1, 2, 3, 4, 5, 6, 7] rfl) (hD.sub [0, 1, 2, 3, 4, 5, 6, 7] (by decide) rfl) hS (lv_sub hl [0, 1, 2, 3, 4, 5, 6, 7, 8, 9] rfl)
                      · skip
                        refine lv_iinc (v := (x1407 + 1)) (lv' := [(8, .int (x1407 + 1)), (9, .int (nI 1)), (7, .int r1371), (6, .int (nI 1)), (5, .int x635), (0, .ref g), (1, .int x), (2, .int x2), (3, .int x3), (4, .int x4)]) hx hb dX10_mostAlike_83 hl (k := 1) rfl (rfl) (by decide) rfl (fun ls hl => ?_)
                        refine lv_iinc (v := (nI 2)) (lv' := [(9, .int (nI 2)), (8, .int (x1407 + 1)), (7, .int r1371), (6, .int (nI 1)), (5, .int x635), (0, .ref g), (1, .int x), (2, .int x2), (3, .int x3), (4, .int x4)]) hx hb dX10_mostAlike_86 hl (k := 1) rfl (nI_1 1) (by decide) rfl (fun ls hl => ?_)
                        refine lv_goto (tgt := 47) hx hb dX10_mostAlike_89 (by decide) ?_
                        exact ihj92 2 (x1407 + 1) H locs ls (by omega) (by omega)  (hP.sub [0, 1, 2, 3, 4, 5, 6, 7] rfl) (hD.sub [0, 1, 2, 3, 4, 5, 6, 7] (by decide) rfl) hS (lv_sub hl [0, 1, 2, 3, 4, 5, 6, 7, 8, 9] rfl)
                    · skip
                      refine va_aldq hx hb hK hP 1 5 rfl rfl (vp_in_nI (by omega) (by decide)) dX10_mostAlike_70 ?_
                      rw [nI_clamp (n := 2) (by omega), show va_rf (fq 2) = .ref k2 from congrArg va_rf hq2]
                      refine lv_iload_n hx hb dX10_mostAlike_71 rfl (lv_at hl 7 rfl) ?_
                      refine lv_iload_n hx hb dX10_mostAlike_72 rfl (lv_at hl 8 rfl) ?_
                      refine lv_iload hx hb dX10_mostAlike_73 (lv_at hl 9 rfl) ?_
                      have hs1457 : kw_Split [(g, .inr (10, [.ref kk, .ref nw, .ref im, .ref kp, .ref tx, .ref tr, .ref be, .ref sh, .ref sd, .ref rf, .int ab, .int bl])), (kk, .inl (y 5, 6, .inr (.inr (.inr (.inr fq))))), (k0, .inr (5, [])), (k2, .inr (9, [])), (k3, .inr (6, [])), (k4, .inr (2, [])), (k5, .inr (3, [])), (k1, .inr (8, []))] [(k2, .inr (9, []))] [(g, .inr (10, [.ref kk, .ref nw, .ref im, .ref kp, .ref tx, .ref tr, .ref be, .ref sh, .ref sd, .ref rf, .int ab, .int bl])), (kk, .inl (y 5, 6, .inr (.inr (.inr (.inr fq))))), (k0, .inr (5, [])), (k3, .inr (6, [])), (k4, .inr (2, [])), (k5, .inr (3, [])), (k1, .inr (8, []))] [3] [0, 1, 2, 4, 5, 6, 7] := ⟨rfl, rfl, rfl, rfl, rfl, by decide⟩
                      refine kw_go_i hs1457 hP hD hS hA (va_runU (As := [.int x2, .int x3, .int x4]) (rest := []) ⟨hx, hb, hml, hown, hts⟩ (gc_Wood_on9 l D y k2 x2 x3 x4  _) (va_cwO 3 hts gX10_mostAlike_X9_sight_u325X9 rfl rfl rfl (List.mem_of_getElem? (i := 24) rfl) (by decide +kernel) ⟨Nat.le_of_ble_eq_true rfl, Nat.le_of_ble_eq_true rfl⟩) (kw_PreV (ci := 9) (q0 := 3) hs1457 hP hD hK hN rfl rfl) rfl rfl hl.1 rfl (lv_room (Nat.le_of_ble_eq_true rfl)) dX10_mostAlike_75 ⟨Nat.le_of_ble_eq_true rfl, Nat.le_of_ble_eq_true rfl⟩) (fun r1458 u1459 H locs hq hP hD hS => ?_)
                      obtain rfl := hq
                      have hP : va_P D vwCl [(g, .inr (10, [.ref kk, .ref nw, .ref im, .ref kp, .ref tx, .ref tr, .ref be, .ref sh, .ref sd, .ref rf, .int ab, .int bl])), (kk, .inl (y 5, 6, .inr (.inr (.inr (.inr fq))))), (k0, .inr (5, [])), (k3, .inr (6, [])), (k4, .inr (2, [])), (k5, .inr (3, [])), (k1, .inr (8, [])), (k2, .inr (9, []))] H := hP
                      have hD : va_D A [(g, .inr (10, [.ref kk, .ref nw, .ref im, .ref kp, .ref tx, .ref tr, .ref be, .ref sh, .ref sd, .ref rf, .int ab, .int bl])), (kk, .inl (y 5, 6, .inr (.inr (.inr (.inr fq))))), (k0, .inr (5, [])), (k3, .inr (6, [])), (k4, .inr (2, [])), (k5, .inr (3, [])), (k1, .inr (8, [])), (k2, .inr (9, []))] := hD
                      refine lv_iload hx hb dX10_mostAlike_78 (lv_at hl 2 rfl) ?_
                      refine lv_icmp_ne (tgt := 86) hx hb dX10_mostAlike_80 (by decide) (fun h1460 => ?_) (fun h1461 => ?_)
                      · skip
                        refine lv_iinc (v := (nI 3)) (lv' := [(9, .int (nI 3)), (8, .int x1407), (7, .int r1371), (6, .int (nI 1)), (5, .int x635), (0, .ref g), (1, .int x), (2, .int x2), (3, .int x3), (4, .int x4)]) hx hb dX10_mostAlike_86 hl (k := 0) rfl (nI_1 2) (by decide) rfl (fun ls hl => ?_)
                        refine lv_goto (tgt := 47) hx hb dX10_mostAlike_89 (by decide) ?_
                        exact ihj92 3 x1407 H locs ls (by omega) (by omega)  (hP.sub [0, 1, 2, 7, 3, 4, 5, 6] rfl) (hD.sub [0, 1, 2, 7, 3, 4, 5, 6] (by decide) rfl) hS (lv_sub hl [0, 1, 2, 3, 4, 5, 6, 7, 8, 9] rfl)
                      · skip
                        refine lv_iinc (v := (x1407 + 1)) (lv' := [(8, .int (x1407 + 1)), (9, .int (nI 2)), (7, .int r1371), (6, .int (nI 1)), (5, .int x635), (0, .ref g), (1, .int x), (2, .int x2), (3, .int x3), (4, .int x4)]) hx hb dX10_mostAlike_83 hl (k := 1) rfl (rfl) (by decide) rfl (fun ls hl => ?_)
                        refine lv_iinc (v := (nI 3)) (lv' := [(9, .int (nI 3)), (8, .int (x1407 + 1)), (7, .int r1371), (6, .int (nI 1)), (5, .int x635), (0, .ref g), (1, .int x), (2, .int x2), (3, .int x3), (4, .int x4)]) hx hb dX10_mostAlike_86 hl (k := 1) rfl (nI_1 2) (by decide) rfl (fun ls hl => ?_)
                        refine lv_goto (tgt := 47) hx hb dX10_mostAlike_89 (by decide) ?_
                        exact ihj92 3 (x1407 + 1) H locs ls (by omega) (by omega)  (hP.sub [0, 1, 2, 7, 3, 4, 5, 6] rfl) (hD.sub [0, 1, 2, 7, 3, 4, 5, 6] (by decide) rfl) hS (lv_sub hl [0, 1, 2, 3, 4, 5, 6, 7, 8, 9] rfl)
                    · skip
                      refine va_aldq hx hb hK hP 1 5 rfl rfl (vp_in_nI (by omega) (by decide)) dX10_mostAlike_70 ?_
                      rw [nI_clamp (n := 3) (by omega), show va_rf (fq 3) = .ref k3 from congrArg va_rf hq3]
                      refine lv_iload_n hx hb dX10_mostAlike_71 rfl (lv_at hl 7 rfl) ?_
                      refine lv_iload_n hx hb dX10_mostAlike_72 rfl (lv_at hl 8 rfl) ?_
                      refine lv_iload hx hb dX10_mostAlike_73 (lv_at hl 9 rfl) ?_
                      have hs1462 : kw_Split [(g, .inr (10, [.ref kk, .ref nw, .ref im, .ref kp, .ref tx, .ref tr, .ref be, .ref sh, .ref sd, .ref rf, .int ab, .int bl])), (kk, .inl (y 5, 6, .inr (.inr (.inr (.inr fq))))), (k0, .inr (5, [])), (k2, .inr (9, [])), (k3, .inr (6, [])), (k4, .inr (2, [])), (k5, .inr (3, [])), (k1, .inr (8, []))] [(k3, .inr (6, []))] [(g, .inr (10, [.ref kk, .ref nw, .ref im, .ref kp, .ref tx, .ref tr, .ref be, .ref sh, .ref sd, .ref rf, .int ab, .int bl])), (kk, .inl (y 5, 6, .inr (.inr (.inr (.inr fq))))), (k0, .inr (5, [])), (k2, .inr (9, [])), (k4, .inr (2, [])), (k5, .inr (3, [])), (k1, .inr (8, []))] [4] [0, 1, 2, 3, 5, 6, 7] := ⟨rfl, rfl, rfl, rfl, rfl, by decide⟩
                      refine kw_go_i hs1462 hP hD hS hA (va_runU (As := [.int x2, .int x3, .int x4]) (rest := []) ⟨hx, hb, hml, hown, hts⟩ (gc_Puddle_on6 l D y k3 x2 x3 x4  _) (va_cwO 3 hts gX10_mostAlike_X6_sight_u325X6 rfl rfl rfl (List.mem_of_getElem? (i := 24) rfl) (by decide +kernel) ⟨Nat.le_of_ble_eq_true rfl, Nat.le_of_ble_eq_true rfl⟩) (kw_PreV (ci := 6) (q0 := 4) hs1462 hP hD hK hN rfl rfl) rfl rfl hl.1 rfl (lv_room (Nat.le_of_ble_eq_true rfl)) dX10_mostAlike_75 ⟨Nat.le_of_ble_eq_true rfl, Nat.le_of_ble_eq_true rfl⟩) (fun r1463 u1464 H locs hq hP hD hS => ?_)
                      obtain rfl := hq
                      have hP : va_P D vwCl [(g, .inr (10, [.ref kk, .ref nw, .ref im, .ref kp, .ref tx, .ref tr, .ref be, .ref sh, .ref sd, .ref rf, .int ab, .int bl])), (kk, .inl (y 5, 6, .inr (.inr (.inr (.inr fq))))), (k0, .inr (5, [])), (k2, .inr (9, [])), (k4, .inr (2, [])), (k5, .inr (3, [])), (k1, .inr (8, [])), (k3, .inr (6, []))] H := hP
                      have hD : va_D A [(g, .inr (10, [.ref kk, .ref nw, .ref im, .ref kp, .ref tx, .ref tr, .ref be, .ref sh, .ref sd, .ref rf, .int ab, .int bl])), (kk, .inl (y 5, 6, .inr (.inr (.inr (.inr fq))))), (k0, .inr (5, [])), (k2, .inr (9, [])), (k4, .inr (2, [])), (k5, .inr (3, [])), (k1, .inr (8, [])), (k3, .inr (6, []))] := hD
                      refine lv_iload hx hb dX10_mostAlike_78 (lv_at hl 2 rfl) ?_
                      refine lv_icmp_ne (tgt := 86) hx hb dX10_mostAlike_80 (by decide) (fun h1465 => ?_) (fun h1466 => ?_)
                      · skip
                        refine lv_iinc (v := (nI 4)) (lv' := [(9, .int (nI 4)), (8, .int x1407), (7, .int r1371), (6, .int (nI 1)), (5, .int x635), (0, .ref g), (1, .int x), (2, .int x2), (3, .int x3), (4, .int x4)]) hx hb dX10_mostAlike_86 hl (k := 0) rfl (nI_1 3) (by decide) rfl (fun ls hl => ?_)
                        refine lv_goto (tgt := 47) hx hb dX10_mostAlike_89 (by decide) ?_
                        exact ihj92 4 x1407 H locs ls (by omega) (by omega)  (hP.sub [0, 1, 2, 3, 7, 4, 5, 6] rfl) (hD.sub [0, 1, 2, 3, 7, 4, 5, 6] (by decide) rfl) hS (lv_sub hl [0, 1, 2, 3, 4, 5, 6, 7, 8, 9] rfl)
                      · skip
                        refine lv_iinc (v := (x1407 + 1)) (lv' := [(8, .int (x1407 + 1)), (9, .int (nI 3)), (7, .int r1371), (6, .int (nI 1)), (5, .int x635), (0, .ref g), (1, .int x), (2, .int x2), (3, .int x3), (4, .int x4)]) hx hb dX10_mostAlike_83 hl (k := 1) rfl (rfl) (by decide) rfl (fun ls hl => ?_)
                        refine lv_iinc (v := (nI 4)) (lv' := [(9, .int (nI 4)), (8, .int (x1407 + 1)), (7, .int r1371), (6, .int (nI 1)), (5, .int x635), (0, .ref g), (1, .int x), (2, .int x2), (3, .int x3), (4, .int x4)]) hx hb dX10_mostAlike_86 hl (k := 1) rfl (nI_1 3) (by decide) rfl (fun ls hl => ?_)
                        refine lv_goto (tgt := 47) hx hb dX10_mostAlike_89 (by decide) ?_
                        exact ihj92 4 (x1407 + 1) H locs ls (by omega) (by omega)  (hP.sub [0, 1, 2, 3, 7, 4, 5, 6] rfl) (hD.sub [0, 1, 2, 3, 7, 4, 5, 6] (by decide) rfl) hS (lv_sub hl [0, 1, 2, 3, 4, 5, 6, 7, 8, 9] rfl)
                    · skip
                      refine va_aldq hx hb hK hP 1 5 rfl rfl (vp_in_nI (by omega) (by decide)) dX10_mostAlike_70 ?_
                      rw [nI_clamp (n := 4) (by omega), show va_rf (fq 4) = .ref k4 from congrArg va_rf hq4]
                      refine lv_iload_n hx hb dX10_mostAlike_71 rfl (lv_at hl 7 rfl) ?_
                      refine lv_iload_n hx hb dX10_mostAlike_72 rfl (lv_at hl 8 rfl) ?_
                      refine lv_iload hx hb dX10_mostAlike_73 (lv_at hl 9 rfl) ?_
                      have hs1467 : kw_Split [(g, .inr (10, [.ref kk, .ref nw, .ref im, .ref kp, .ref tx, .ref tr, .ref be, .ref sh, .ref sd, .ref rf, .int ab, .int bl])), (kk, .inl (y 5, 6, .inr (.inr (.inr (.inr fq))))), (k0, .inr (5, [])), (k2, .inr (9, [])), (k3, .inr (6, [])), (k4, .inr (2, [])), (k5, .inr (3, [])), (k1, .inr (8, []))] [(k4, .inr (2, []))] [(g, .inr (10, [.ref kk, .ref nw, .ref im, .ref kp, .ref tx, .ref tr, .ref be, .ref sh, .ref sd, .ref rf, .int ab, .int bl])), (kk, .inl (y 5, 6, .inr (.inr (.inr (.inr fq))))), (k0, .inr (5, [])), (k2, .inr (9, [])), (k3, .inr (6, [])), (k5, .inr (3, [])), (k1, .inr (8, []))] [5] [0, 1, 2, 3, 4, 6, 7] := ⟨rfl, rfl, rfl, rfl, rfl, by decide⟩
                      refine kw_go_i hs1467 hP hD hS hA (va_runU (As := [.int x2, .int x3, .int x4]) (rest := []) ⟨hx, hb, hml, hown, hts⟩ (gc_Hill_on2 l D y k4 x2 x3 x4  _) (va_cwO 3 hts gX10_mostAlike_X2_sight_u325X2 rfl rfl rfl (List.mem_of_getElem? (i := 24) rfl) (by decide +kernel) ⟨Nat.le_of_ble_eq_true rfl, Nat.le_of_ble_eq_true rfl⟩) (kw_PreV (ci := 2) (q0 := 5) hs1467 hP hD hK hN rfl rfl) rfl rfl hl.1 rfl (lv_room (Nat.le_of_ble_eq_true rfl)) dX10_mostAlike_75 ⟨Nat.le_of_ble_eq_true rfl, Nat.le_of_ble_eq_true rfl⟩) (fun r1468 u1469 H locs hq hP hD hS => ?_)
                      have hP : va_P D vwCl [(g, .inr (10, [.ref kk, .ref nw, .ref im, .ref kp, .ref tx, .ref tr, .ref be, .ref sh, .ref sd, .ref rf, .int ab, .int bl])), (kk, .inl (y 5, 6, .inr (.inr (.inr (.inr fq))))), (k0, .inr (5, [])), (k2, .inr (9, [])), (k3, .inr (6, [])), (k5, .inr (3, [])), (k1, .inr (8, [])), (k4, .inr (2, []))] H := hP
                      have hD : va_D A [(g, .inr (10, [.ref kk, .ref nw, .ref im, .ref kp, .ref tx, .ref tr, .ref be, .ref sh, .ref sd, .ref rf, .int ab, .int bl])), (kk, .inl (y 5, 6, .inr (.inr (.inr (.inr fq))))), (k0, .inr (5, [])), (k2, .inr (9, [])), (k3, .inr (6, [])), (k5, .inr (3, [])), (k1, .inr (8, [])), (k4, .inr (2, []))] := hD
                      refine lv_iload hx hb dX10_mostAlike_78 (lv_at hl 2 rfl) ?_
                      refine lv_icmp_ne (tgt := 86) hx hb dX10_mostAlike_80 (by decide) (fun h1470 => ?_) (fun h1471 => ?_)
                      · skip
                        refine lv_iinc (v := (nI 5)) (lv' := [(9, .int (nI 5)), (8, .int x1407), (7, .int r1371), (6, .int (nI 1)), (5, .int x635), (0, .ref g), (1, .int x), (2, .int x2), (3, .int x3), (4, .int x4)]) hx hb dX10_mostAlike_86 hl (k := 0) rfl (nI_1 4) (by decide) rfl (fun ls hl => ?_)
                        refine lv_goto (tgt := 47) hx hb dX10_mostAlike_89 (by decide) ?_
                        exact ihj92 5 x1407 H locs ls (by omega) (by omega)  (hP.sub [0, 1, 2, 3, 4, 7, 5, 6] rfl) (hD.sub [0, 1, 2, 3, 4, 7, 5, 6] (by decide) rfl) hS (lv_sub hl [0, 1, 2, 3, 4, 5, 6, 7, 8, 9] rfl)
                      · skip
                        refine lv_iinc (v := (x1407 + 1)) (lv' := [(8, .int (x1407 + 1)), (9, .int (nI 4)), (7, .int r1371), (6, .int (nI 1)), (5, .int x635), (0, .ref g), (1, .int x), (2, .int x2), (3, .int x3), (4, .int x4)]) hx hb dX10_mostAlike_83 hl (k := 1) rfl (rfl) (by decide) rfl (fun ls hl => ?_)
                        refine lv_iinc (v := (nI 5)) (lv' := [(9, .int (nI 5)), (8, .int (x1407 + 1)), (7, .int r1371), (6, .int (nI 1)), (5, .int x635), (0, .ref g), (1, .int x), (2, .int x2), (3, .int x3), (4, .int x4)]) hx hb dX10_mostAlike_86 hl (k := 1) rfl (nI_1 4) (by decide) rfl (fun ls hl => ?_)
                        refine lv_goto (tgt := 47) hx hb dX10_mostAlike_89 (by decide) ?_
                        exact ihj92 5 (x1407 + 1) H locs ls (by omega) (by omega)  (hP.sub [0, 1, 2, 3, 4, 7, 5, 6] rfl) (hD.sub [0, 1, 2, 3, 4, 7, 5, 6] (by decide) rfl) hS (lv_sub hl [0, 1, 2, 3, 4, 5, 6, 7, 8, 9] rfl)
                    · skip
                      refine va_aldq hx hb hK hP 1 5 rfl rfl (vp_in_nI (by omega) (by decide)) dX10_mostAlike_70 ?_
                      rw [nI_clamp (n := 5) (by omega), show va_rf (fq 5) = .ref k5 from congrArg va_rf hq5]
                      refine lv_iload_n hx hb dX10_mostAlike_71 rfl (lv_at hl 7 rfl) ?_
                      refine lv_iload_n hx hb dX10_mostAlike_72 rfl (lv_at hl 8 rfl) ?_
                      refine lv_iload hx hb dX10_mostAlike_73 (lv_at hl 9 rfl) ?_
                      have hs1472 : kw_Split [(g, .inr (10, [.ref kk, .ref nw, .ref im, .ref kp, .ref tx, .ref tr, .ref be, .ref sh, .ref sd, .ref rf, .int ab, .int bl])), (kk, .inl (y 5, 6, .inr (.inr (.inr (.inr fq))))), (k0, .inr (5, [])), (k2, .inr (9, [])), (k3, .inr (6, [])), (k4, .inr (2, [])), (k5, .inr (3, [])), (k1, .inr (8, []))] [(k5, .inr (3, []))] [(g, .inr (10, [.ref kk, .ref nw, .ref im, .ref kp, .ref tx, .ref tr, .ref be, .ref sh, .ref sd, .ref rf, .int ab, .int bl])), (kk, .inl (y 5, 6, .inr (.inr (.inr (.inr fq))))), (k0, .inr (5, [])), (k2, .inr (9, [])), (k3, .inr (6, [])), (k4, .inr (2, [])), (k1, .inr (8, []))] [6] [0, 1, 2, 3, 4, 5, 7] := ⟨rfl, rfl, rfl, rfl, rfl, by decide⟩
                      refine kw_go_i hs1472 hP hD hS hA (va_runU (As := [.int x2, .int x3, .int x4]) (rest := []) ⟨hx, hb, hml, hown, hts⟩ (gc_Lane_on3 l D y k5 x2 x3 x4  _) (va_cwO 3 hts gX10_mostAlike_X3_sight_u325X3 rfl rfl rfl (List.mem_of_getElem? (i := 24) rfl) (by decide +kernel) ⟨Nat.le_of_ble_eq_true rfl, Nat.le_of_ble_eq_true rfl⟩) (kw_PreV (ci := 3) (q0 := 6) hs1472 hP hD hK hN rfl rfl) rfl rfl hl.1 rfl (lv_room (Nat.le_of_ble_eq_true rfl)) dX10_mostAlike_75 ⟨Nat.le_of_ble_eq_true rfl, Nat.le_of_ble_eq_true rfl⟩) (fun r1473 u1474 H locs hq hP hD hS => ?_)
                      have hP : va_P D vwCl [(g, .inr (10, [.ref kk, .ref nw, .ref im, .ref kp, .ref tx, .ref tr, .ref be, .ref sh, .ref sd, .ref rf, .int ab, .int bl])), (kk, .inl (y 5, 6, .inr (.inr (.inr (.inr fq))))), (k0, .inr (5, [])), (k2, .inr (9, [])), (k3, .inr (6, [])), (k4, .inr (2, [])), (k1, .inr (8, [])), (k5, .inr (3, []))] H := hP
                      have hD : va_D A [(g, .inr (10, [.ref kk, .ref nw, .ref im, .ref kp, .ref tx, .ref tr, .ref be, .ref sh, .ref sd, .ref rf, .int ab, .int bl])), (kk, .inl (y 5, 6, .inr (.inr (.inr (.inr fq))))), (k0, .inr (5, [])), (k2, .inr (9, [])), (k3, .inr (6, [])), (k4, .inr (2, [])), (k1, .inr (8, [])), (k5, .inr (3, []))] := hD
                      refine lv_iload hx hb dX10_mostAlike_78 (lv_at hl 2 rfl) ?_
                      refine lv_icmp_ne (tgt := 86) hx hb dX10_mostAlike_80 (by decide) (fun h1475 => ?_) (fun h1476 => ?_)
                      · skip
                        refine lv_iinc (v := (nI 6)) (lv' := [(9, .int (nI 6)), (8, .int x1407), (7, .int r1371), (6, .int (nI 1)), (5, .int x635), (0, .ref g), (1, .int x), (2, .int x2), (3, .int x3), (4, .int x4)]) hx hb dX10_mostAlike_86 hl (k := 0) rfl (nI_1 5) (by decide) rfl (fun ls hl => ?_)
                        refine lv_goto (tgt := 47) hx hb dX10_mostAlike_89 (by decide) ?_
                        exact ihj92 6 x1407 H locs ls (by omega) (by omega)  (hP.sub [0, 1, 2, 3, 4, 5, 7, 6] rfl) (hD.sub [0, 1, 2, 3, 4, 5, 7, 6] (by decide) rfl) hS (lv_sub hl [0, 1, 2, 3, 4, 5, 6, 7, 8, 9] rfl)
                      · skip
                        refine lv_iinc (v := (x1407 + 1)) (lv' := [(8, .int (x1407 + 1)), (9, .int (nI 5)), (7, .int r1371), (6, .int (nI 1)), (5, .int x635), (0, .ref g), (1, .int x), (2, .int x2), (3, .int x3), (4, .int x4)]) hx hb dX10_mostAlike_83 hl (k := 1) rfl (rfl) (by decide) rfl (fun ls hl => ?_)
                        refine lv_iinc (v := (nI 6)) (lv' := [(9, .int (nI 6)), (8, .int (x1407 + 1)), (7, .int r1371), (6, .int (nI 1)), (5, .int x635), (0, .ref g), (1, .int x), (2, .int x2), (3, .int x3), (4, .int x4)]) hx hb dX10_mostAlike_86 hl (k := 1) rfl (nI_1 5) (by decide) rfl (fun ls hl => ?_)
                        refine lv_goto (tgt := 47) hx hb dX10_mostAlike_89 (by decide) ?_
                        exact ihj92 6 (x1407 + 1) H locs ls (by omega) (by omega)  (hP.sub [0, 1, 2, 3, 4, 5, 7, 6] rfl) (hD.sub [0, 1, 2, 3, 4, 5, 7, 6] (by decide) rfl) hS (lv_sub hl [0, 1, 2, 3, 4, 5, 6, 7, 8, 9] rfl)
            exact lp1442 (6 + 1) 0 0 _ _ _ (by omega) (by omega)  hP hD hS (lv_sub hl [0, 1, 2, 3, 4, 5, 6, 7, 8, 9] rfl)
          · skip
            refine va_aldq hx hb hK hP 1 5 rfl rfl (vp_in_nI (by omega) (by decide)) dX10_mostAlike_31 ?_
            rw [nI_clamp (n := 2) (by omega), show va_rf (fq 2) = .ref k2 from congrArg va_rf hq2]
            refine lv_iload_n hx hb dX10_mostAlike_32 rfl (lv_at hl 4 rfl) ?_
            refine lv_iload_n hx hb dX10_mostAlike_33 rfl (lv_at hl 5 rfl) ?_
            refine lv_iload hx hb dX10_mostAlike_34 (lv_at hl 6 rfl) ?_
            have hs1477 : kw_Split [(g, .inr (10, [.ref kk, .ref nw, .ref im, .ref kp, .ref tx, .ref tr, .ref be, .ref sh, .ref sd, .ref rf, .int ab, .int bl])), (kk, .inl (y 5, 6, .inr (.inr (.inr (.inr fq))))), (k0, .inr (5, [])), (k1, .inr (8, [])), (k2, .inr (9, [])), (k3, .inr (6, [])), (k4, .inr (2, [])), (k5, .inr (3, []))] [(k2, .inr (9, []))] [(g, .inr (10, [.ref kk, .ref nw, .ref im, .ref kp, .ref tx, .ref tr, .ref be, .ref sh, .ref sd, .ref rf, .int ab, .int bl])), (kk, .inl (y 5, 6, .inr (.inr (.inr (.inr fq))))), (k0, .inr (5, [])), (k1, .inr (8, [])), (k3, .inr (6, [])), (k4, .inr (2, [])), (k5, .inr (3, []))] [4] [0, 1, 2, 3, 5, 6, 7] := ⟨rfl, rfl, rfl, rfl, rfl, by decide⟩
            refine kw_go_i hs1477 hP hD hS hA (va_runU (As := [.int x2, .int x3, .int x4]) (rest := []) ⟨hx, hb, hml, hown, hts⟩ (gc_Wood_on9 l D y k2 x2 x3 x4  _) (va_cwO 3 hts gX10_mostAlike_X9_sight_u325X9 rfl rfl rfl (List.mem_of_getElem? (i := 24) rfl) (by decide +kernel) ⟨Nat.le_of_ble_eq_true rfl, Nat.le_of_ble_eq_true rfl⟩) (kw_PreV (ci := 9) (q0 := 4) hs1477 hP hD hK hN rfl rfl) rfl rfl hl.1 rfl (lv_room (Nat.le_of_ble_eq_true rfl)) dX10_mostAlike_36 ⟨Nat.le_of_ble_eq_true rfl, Nat.le_of_ble_eq_true rfl⟩) (fun r1478 u1479 H locs hq hP hD hS => ?_)
            obtain rfl := hq
            have hP : va_P D vwCl [(g, .inr (10, [.ref kk, .ref nw, .ref im, .ref kp, .ref tx, .ref tr, .ref be, .ref sh, .ref sd, .ref rf, .int ab, .int bl])), (kk, .inl (y 5, 6, .inr (.inr (.inr (.inr fq))))), (k0, .inr (5, [])), (k1, .inr (8, [])), (k3, .inr (6, [])), (k4, .inr (2, [])), (k5, .inr (3, [])), (k2, .inr (9, []))] H := hP
            have hD : va_D A [(g, .inr (10, [.ref kk, .ref nw, .ref im, .ref kp, .ref tx, .ref tr, .ref be, .ref sh, .ref sd, .ref rf, .int ab, .int bl])), (kk, .inl (y 5, 6, .inr (.inr (.inr (.inr fq))))), (k0, .inr (5, [])), (k1, .inr (8, [])), (k3, .inr (6, [])), (k4, .inr (2, [])), (k5, .inr (3, [])), (k2, .inr (9, []))] := hD
            refine lv_istore (lv' := [(7, .int ((if 0 < ((x3 - (2 * x2)) - x4) then ((x3 - (2 * x2)) - x4) else 0) / 2)), (6, .int (nI 2)), (5, .int x635), (0, .ref g), (1, .int x), (2, .int x2), (3, .int x3), (4, .int x4)]) hx hb dX10_mostAlike_39 hl (by decide) rfl (fun ls hl => ?_)
            refine lv_iconst (v := 0) hx hb dX10_mostAlike_41 (by decide) ?_
            refine lv_istore (lv' := [(8, .int 0), (7, .int ((if 0 < ((x3 - (2 * x2)) - x4) then ((x3 - (2 * x2)) - x4) else 0) / 2)), (6, .int (nI 2)), (5, .int x635), (0, .ref g), (1, .int x), (2, .int x2), (3, .int x3), (4, .int x4)]) hx hb dX10_mostAlike_42 hl (by decide) rfl (fun ls hl => ?_)
            refine lv_iconst (v := 0) hx hb dX10_mostAlike_44 (by decide) ?_
            refine lv_istore (lv' := [(9, .int 0), (8, .int 0), (7, .int ((if 0 < ((x3 - (2 * x2)) - x4) then ((x3 - (2 * x2)) - x4) else 0) / 2)), (6, .int (nI 2)), (5, .int x635), (0, .ref g), (1, .int x), (2, .int x2), (3, .int x3), (4, .int x4)]) hx hb dX10_mostAlike_45 hl (by decide) rfl (fun ls hl => ?_)
            have lp1545 : ∀ (fuj92 j92 : Nat) (x1512 : Int32) (H : Heap) (locs : List Loc) (ls : Array Slot), j92 ≤ 6 → 6 - j92 < fuj92 → va_P D vwCl [(g, .inr (10, [.ref kk, .ref nw, .ref im, .ref kp, .ref tx, .ref tr, .ref be, .ref sh, .ref sd, .ref rf, .int ab, .int bl])), (kk, .inl (y 5, 6, .inr (.inr (.inr (.inr fq))))), (k0, .inr (5, [])), (k1, .inr (8, [])), (k3, .inr (6, [])), (k4, .inr (2, [])), (k5, .inr (3, [])), (k2, .inr (9, []))] H → va_D A [(g, .inr (10, [.ref kk, .ref nw, .ref im, .ref kp, .ref tx, .ref tr, .ref be, .ref sh, .ref sd, .ref rf, .int ab, .int bl])), (kk, .inl (y 5, 6, .inr (.inr (.inr (.inr fq))))), (k0, .inr (5, [])), (k1, .inr (8, [])), (k3, .inr (6, [])), (k4, .inr (2, [])), (k5, .inr (3, [])), (k2, .inr (9, []))] → va_S A s.heap H locs → lv_has ls 10 [(9, .int (nI j92)), (8, .int x1512), (7, .int ((if 0 < ((x3 - (2 * x2)) - x4) then ((x3 - (2 * x2)) - x4) else 0) / 2)), (6, .int (nI 2)), (5, .int x635), (0, .ref g), (1, .int x), (2, .int x2), (3, .int x3), (4, .int x4)] → W pZ l eZ ({ frames := 4, cells := 0, slots := 0, locals := 130 }) s mZ [.ref g, .int x, .int x2, .int x3, .int x4].toArray beZ meZ cZ H locs 0 0 (MQ beZ (va_Qi (fun (r : Int32) (u : Unit) => True) (kw_B D (fun _ => [(g, .inr (10, [.ref kk, .ref nw, .ref im, .ref kp, .ref tx, .ref tr, .ref be, .ref sh, .ref sd, .ref rf, .int ab, .int bl])), (kk, .inl (y 5, 6, .inr (.inr (.inr (.inr fq))))), (k0, .inr (5, [])), (k1, .inr (8, [])), (k2, .inr (9, [])), (k3, .inr (6, [])), (k4, .inr (2, [])), (k5, .inr (3, []))]) A) A) [.ref g, .int x, .int x2, .int x3, .int x4].toArray s 0 0 A) (F0 mZ 47 ls []) := by
              intro fuj92
              induction fuj92 with
              | zero => intro j92 x1512 H locs ls hj9 hf9; exact absurd hf9 (Nat.not_lt_zero _)
              | succ fuj92 ihj92 =>
                intro j92 x1512 H locs ls hj92 hfj92  hP hD hS hl
                refine lv_iload hx hb dX10_mostAlike_47 (lv_at hl 0 rfl) ?_
                refine lv_bipush (v := 6) hx hb dX10_mostAlike_49 (by decide) ?_
                refine lv_icmp_ge (tgt := 92) hx hb dX10_mostAlike_51 (by decide) (fun h1546 => ?_) (fun h1547 => ?_)
                · skip
                  have h1546 : 6 ≤ j92 := (nI_leI (a := 6) (b := j92) (by omega) (by omega)).mp h1546
                  refine lv_iload hx hb dX10_mostAlike_92 (lv_at hl 4 rfl) ?_
                  refine lv_iload hx hb dX10_mostAlike_94 (lv_at hl 1 rfl) ?_
                  refine va_mmax hx hb (hml.trans hl.1.symm) hown fw2 fw3 fw4 fw5 (Nat.le_of_ble_eq_true rfl) (Nat.le_of_ble_eq_true rfl) (Nat.le_of_ble_eq_true rfl) (Nat.le_of_ble_eq_true rfl) dX10_mostAlike_96 ?_
                  refine lv_istore (lv' := [(5, .int (if x635 < x1512 then x1512 else x635)), (9, .int (nI j92)), (8, .int x1512), (7, .int ((if 0 < ((x3 - (2 * x2)) - x4) then ((x3 - (2 * x2)) - x4) else 0) / 2)), (6, .int (nI 2)), (0, .ref g), (1, .int x), (2, .int x2), (3, .int x3), (4, .int x4)]) hx hb dX10_mostAlike_99 hl (by decide) rfl (fun ls hl => ?_)
                  refine lv_iinc (v := (nI 3)) (lv' := [(6, .int (nI 3)), (5, .int (if x635 < x1512 then x1512 else x635)), (9, .int (nI j92)), (8, .int x1512), (7, .int ((if 0 < ((x3 - (2 * x2)) - x4) then ((x3 - (2 * x2)) - x4) else 0) / 2)), (0, .ref g), (1, .int x), (2, .int x2), (3, .int x3), (4, .int x4)]) hx hb dX10_mostAlike_101 hl (k := 4) rfl (nI_1 2) (by decide) rfl (fun ls hl => ?_)
                  refine lv_goto (tgt := 6) hx hb dX10_mostAlike_104 (by decide) ?_
                  exact ihj91 3 (if x635 < x1512 then x1512 else x635) H locs ls (by omega) (by omega)  (hP.sub [0, 1, 2, 3, 7, 4, 5, 6] rfl) (hD.sub [0, 1, 2, 3, 7, 4, 5, 6] (by decide) rfl) hS (lv_sub hl [0, 1, 5, 6, 7, 8, 9] rfl)
                · skip
                  have h1547 : ¬ 6 ≤ j92 := fun q9 => h1547 ((nI_leI (a := 6) (b := j92) (by omega) (by omega)).mpr q9)
                  refine lv_iload_n hx hb dX10_mostAlike_54 rfl (lv_at hl 6 rfl) ?_
                  refine lv_iload hx hb dX10_mostAlike_55 (lv_at hl 0 rfl) ?_
                  refine lv_ishr hx hb dX10_mostAlike_57 ?_
                  refine lv_iconst (v := 1) hx hb dX10_mostAlike_58 (by decide) ?_
                  refine lv_iand hx hb dX10_mostAlike_59 ?_
                  refine lv_iconst (v := 1) hx hb dX10_mostAlike_60 (by decide) ?_
                  refine lv_icmp_ne (tgt := 86) hx hb dX10_mostAlike_61 (by decide) (fun h1548 => ?_) (fun h1549 => ?_)
                  · skip
                    refine lv_iinc (v := (nI (j92 + 1))) (lv' := [(9, .int (nI (j92 + 1))), (8, .int x1512), (7, .int ((if 0 < ((x3 - (2 * x2)) - x4) then ((x3 - (2 * x2)) - x4) else 0) / 2)), (6, .int (nI 2)), (5, .int x635), (0, .ref g), (1, .int x), (2, .int x2), (3, .int x3), (4, .int x4)]) hx hb dX10_mostAlike_86 hl (k := 0) rfl (nI_1 j92) (by decide) rfl (fun ls hl => ?_)
                    refine lv_goto (tgt := 47) hx hb dX10_mostAlike_89 (by decide) ?_
                    exact ihj92 (j92 + 1) x1512 H locs ls (by omega) (by omega)  (hP.sub [0, 1, 2, 3, 4, 5, 6, 7] rfl) (hD.sub [0, 1, 2, 3, 4, 5, 6, 7] (by decide) rfl) hS (lv_sub hl [0, 1, 2, 3, 4, 5, 6, 7, 8, 9] rfl)
                  · skip
                    refine lv_aload_n hx hb dX10_mostAlike_64 rfl (lv_at hl 5 rfl) ?_
                    refine va_get (D := D) (ci := 10) (v := .ref kk) (C := RX10) (T := TX10) (N := 12) hx hb hts iw10 hown hK hP 0 rfl rfl 0 (by decide) fw1 (fun _ h9 => h9) rfl dX10_mostAlike_65 ?_
                    refine lv_iload hx hb dX10_mostAlike_68 (lv_at hl 0 rfl) ?_
                    rcases (show j92 = 0 ∨ j92 = 1 ∨ j92 = 2 ∨ j92 = 3 ∨ j92 = 4 ∨ j92 = 5 by omega) with rfl | rfl | rfl | rfl | rfl | rfl
                    · skip
                      refine va_aldq hx hb hK hP 1 5 rfl rfl (vp_in_nI (by omega) (by decide)) dX10_mostAlike_70 ?_
                      rw [nI_clamp (n := 0) (by omega), show va_rf (fq 0) = .ref k0 from congrArg va_rf hq0]
                      refine lv_iload_n hx hb dX10_mostAlike_71 rfl (lv_at hl 7 rfl) ?_
                      refine lv_iload_n hx hb dX10_mostAlike_72 rfl (lv_at hl 8 rfl) ?_
                      refine lv_iload hx hb dX10_mostAlike_73 (lv_at hl 9 rfl) ?_
                      have hs1550 : kw_Split [(g, .inr (10, [.ref kk, .ref nw, .ref im, .ref kp, .ref tx, .ref tr, .ref be, .ref sh, .ref sd, .ref rf, .int ab, .int bl])), (kk, .inl (y 5, 6, .inr (.inr (.inr (.inr fq))))), (k0, .inr (5, [])), (k1, .inr (8, [])), (k3, .inr (6, [])), (k4, .inr (2, [])), (k5, .inr (3, [])), (k2, .inr (9, []))] [(k0, .inr (5, []))] [(g, .inr (10, [.ref kk, .ref nw, .ref im, .ref kp, .ref tx, .ref tr, .ref be, .ref sh, .ref sd, .ref rf, .int ab, .int bl])), (kk, .inl (y 5, 6, .inr (.inr (.inr (.inr fq))))), (k1, .inr (8, [])), (k3, .inr (6, [])), (k4, .inr (2, [])), (k5, .inr (3, [])), (k2, .inr (9, []))] [2] [0, 1, 3, 4, 5, 6, 7] := ⟨rfl, rfl, rfl, rfl, rfl, by decide⟩
                      refine kw_go_i hs1550 hP hD hS hA (va_runV (As := [.int x2, .int x3, .int x4]) (rest := []) ⟨hx, hb, hml, hown, hts⟩ (gc_Plain_on5 l D y k0 x2 x3 x4  _) (cwV 3 hts gX10_mostAlike_X5_sight rfl rfl rfl (by decide +kernel) ⟨Nat.le_of_ble_eq_true rfl, Nat.le_of_ble_eq_true rfl⟩) (kw_PreV (ci := 5) (q0 := 2) hs1550 hP hD hK hN rfl rfl) rfl rfl hl.1 rfl (lv_room (Nat.le_of_ble_eq_true rfl)) dX10_mostAlike_75 ⟨Nat.le_of_ble_eq_true rfl, Nat.le_of_ble_eq_true rfl⟩) (fun r1551 u1552 H locs hq hP hD hS => ?_)
                      obtain rfl := hq
                      have hP : va_P D vwCl [(g, .inr (10, [.ref kk, .ref nw, .ref im, .ref kp, .ref tx, .ref tr, .ref be, .ref sh, .ref sd, .ref rf, .int ab, .int bl])), (kk, .inl (y 5, 6, .inr (.inr (.inr (.inr fq))))), (k1, .inr (8, [])), (k3, .inr (6, [])), (k4, .inr (2, [])), (k5, .inr (3, [])), (k2, .inr (9, [])), (k0, .inr (5, []))] H := hP
                      have hD : va_D A [(g, .inr (10, [.ref kk, .ref nw, .ref im, .ref kp, .ref tx, .ref tr, .ref be, .ref sh, .ref sd, .ref rf, .int ab, .int bl])), (kk, .inl (y 5, 6, .inr (.inr (.inr (.inr fq))))), (k1, .inr (8, [])), (k3, .inr (6, [])), (k4, .inr (2, [])), (k5, .inr (3, [])), (k2, .inr (9, [])), (k0, .inr (5, []))] := hD
                      refine lv_iload hx hb dX10_mostAlike_78 (lv_at hl 2 rfl) ?_
                      refine lv_icmp_ne (tgt := 86) hx hb dX10_mostAlike_80 (by decide) (fun h1553 => ?_) (fun h1554 => ?_)
                      · skip
                        refine lv_iinc (v := (nI 1)) (lv' := [(9, .int (nI 1)), (8, .int x1512), (7, .int ((if 0 < ((x3 - (2 * x2)) - x4) then ((x3 - (2 * x2)) - x4) else 0) / 2)), (6, .int (nI 2)), (5, .int x635), (0, .ref g), (1, .int x), (2, .int x2), (3, .int x3), (4, .int x4)]) hx hb dX10_mostAlike_86 hl (k := 0) rfl (nI_1 0) (by decide) rfl (fun ls hl => ?_)
                        refine lv_goto (tgt := 47) hx hb dX10_mostAlike_89 (by decide) ?_
                        exact ihj92 1 x1512 H locs ls (by omega) (by omega)  (hP.sub [0, 1, 7, 2, 3, 4, 5, 6] rfl) (hD.sub [0, 1, 7, 2, 3, 4, 5, 6] (by decide) rfl) hS (lv_sub hl [0, 1, 2, 3, 4, 5, 6, 7, 8, 9] rfl)
                      · skip
                        refine lv_iinc (v := (x1512 + 1)) (lv' := [(8, .int (x1512 + 1)), (9, .int (nI 0)), (7, .int ((if 0 < ((x3 - (2 * x2)) - x4) then ((x3 - (2 * x2)) - x4) else 0) / 2)), (6, .int (nI 2)), (5, .int x635), (0, .ref g), (1, .int x), (2, .int x2), (3, .int x3), (4, .int x4)]) hx hb dX10_mostAlike_83 hl (k := 1) rfl (rfl) (by decide) rfl (fun ls hl => ?_)
                        refine lv_iinc (v := (nI 1)) (lv' := [(9, .int (nI 1)), (8, .int (x1512 + 1)), (7, .int ((if 0 < ((x3 - (2 * x2)) - x4) then ((x3 - (2 * x2)) - x4) else 0) / 2)), (6, .int (nI 2)), (5, .int x635), (0, .ref g), (1, .int x), (2, .int x2), (3, .int x3), (4, .int x4)]) hx hb dX10_mostAlike_86 hl (k := 1) rfl (nI_1 0) (by decide) rfl (fun ls hl => ?_)
                        refine lv_goto (tgt := 47) hx hb dX10_mostAlike_89 (by decide) ?_
                        exact ihj92 1 (x1512 + 1) H locs ls (by omega) (by omega)  (hP.sub [0, 1, 7, 2, 3, 4, 5, 6] rfl) (hD.sub [0, 1, 7, 2, 3, 4, 5, 6] (by decide) rfl) hS (lv_sub hl [0, 1, 2, 3, 4, 5, 6, 7, 8, 9] rfl)
                    · skip
                      refine va_aldq hx hb hK hP 1 5 rfl rfl (vp_in_nI (by omega) (by decide)) dX10_mostAlike_70 ?_
                      rw [nI_clamp (n := 1) (by omega), show va_rf (fq 1) = .ref k1 from congrArg va_rf hq1]
                      refine lv_iload_n hx hb dX10_mostAlike_71 rfl (lv_at hl 7 rfl) ?_
                      refine lv_iload_n hx hb dX10_mostAlike_72 rfl (lv_at hl 8 rfl) ?_
                      refine lv_iload hx hb dX10_mostAlike_73 (lv_at hl 9 rfl) ?_
                      have hs1555 : kw_Split [(g, .inr (10, [.ref kk, .ref nw, .ref im, .ref kp, .ref tx, .ref tr, .ref be, .ref sh, .ref sd, .ref rf, .int ab, .int bl])), (kk, .inl (y 5, 6, .inr (.inr (.inr (.inr fq))))), (k0, .inr (5, [])), (k1, .inr (8, [])), (k3, .inr (6, [])), (k4, .inr (2, [])), (k5, .inr (3, [])), (k2, .inr (9, []))] [(k1, .inr (8, []))] [(g, .inr (10, [.ref kk, .ref nw, .ref im, .ref kp, .ref tx, .ref tr, .ref be, .ref sh, .ref sd, .ref rf, .int ab, .int bl])), (kk, .inl (y 5, 6, .inr (.inr (.inr (.inr fq))))), (k0, .inr (5, [])), (k3, .inr (6, [])), (k4, .inr (2, [])), (k5, .inr (3, [])), (k2, .inr (9, []))] [3] [0, 1, 2, 4, 5, 6, 7] := ⟨rfl, rfl, rfl, rfl, rfl, by decide⟩
                      refine kw_go_i hs1555 hP hD hS hA (va_runU (As := [.int x2, .int x3, .int x4]) (rest := []) ⟨hx, hb, hml, hown, hts⟩ (gc_West_on8 l D y k1 x2 x3 x4  _) (va_cwO 3 hts gX10_mostAlike_X8_sight_u325X8 rfl rfl rfl (List.mem_of_getElem? (i := 24) rfl) (by decide +kernel) ⟨Nat.le_of_ble_eq_true rfl, Nat.le_of_ble_eq_true rfl⟩) (kw_PreV (ci := 8) (q0 := 3) hs1555 hP hD hK hN rfl rfl) rfl rfl hl.1 rfl (lv_room (Nat.le_of_ble_eq_true rfl)) dX10_mostAlike_75 ⟨Nat.le_of_ble_eq_true rfl, Nat.le_of_ble_eq_true rfl⟩) (fun r1556 u1557 H locs hq hP hD hS => ?_)
                      have hP : va_P D vwCl [(g, .inr (10, [.ref kk, .ref nw, .ref im, .ref kp, .ref tx, .ref tr, .ref be, .ref sh, .ref sd, .ref rf, .int ab, .int bl])), (kk, .inl (y 5, 6, .inr (.inr (.inr (.inr fq))))), (k0, .inr (5, [])), (k3, .inr (6, [])), (k4, .inr (2, [])), (k5, .inr (3, [])), (k2, .inr (9, [])), (k1, .inr (8, []))] H := hP
                      have hD : va_D A [(g, .inr (10, [.ref kk, .ref nw, .ref im, .ref kp, .ref tx, .ref tr, .ref be, .ref sh, .ref sd, .ref rf, .int ab, .int bl])), (kk, .inl (y 5, 6, .inr (.inr (.inr (.inr fq))))), (k0, .inr (5, [])), (k3, .inr (6, [])), (k4, .inr (2, [])), (k5, .inr (3, [])), (k2, .inr (9, [])), (k1, .inr (8, []))] := hD
                      refine lv_iload hx hb dX10_mostAlike_78 (lv_at hl 2 rfl) ?_
                      refine lv_icmp_ne (tgt := 86) hx hb dX10_mostAlike_80 (by decide) (fun h1558 => ?_) (fun h1559 => ?_)
                      · skip
                        refine lv_iinc (v := (nI 2)) (lv' := [(9, .int (nI 2)), (8, .int x1512), (7, .int ((if 0 < ((x3 - (2 * x2)) - x4) then ((x3 - (2 * x2)) - x4) else 0) / 2)), (6, .int (nI 2)), (5, .int x635), (0, .ref g), (1, .int x), (2, .int x2), (3, .int x3), (4, .int x4)]) hx hb dX10_mostAlike_86 hl (k := 0) rfl (nI_1 1) (by decide) rfl (fun ls hl => ?_)
                        refine lv_goto (tgt := 47) hx hb dX10_mostAlike_89 (by decide) ?_
                        exact ihj92 2 x1512 H locs ls (by omega) (by omega)  (hP.sub [0, 1, 2, 7, 3, 4, 5, 6] rfl) (hD.sub [0, 1, 2, 7, 3, 4, 5, 6] (by decide) rfl) hS (lv_sub hl [0, 1, 2, 3, 4, 5, 6, 7, 8, 9] rfl)
                      · skip
                        refine lv_iinc (v := (x1512 + 1)) (lv' := [(8, .int (x1512 + 1)), (9, .int (nI 1)), (7, .int ((if 0 < ((x3 - (2 * x2)) - x4) then ((x3 - (2 * x2)) - x4) else 0) / 2)), (6, .int (nI 2)), (5, .int x635), (0, .ref g), (1, .int x), (2, .int x2), (3, .int x3), (4, .int x4)]) hx hb dX10_mostAlike_83 hl (k := 1) rfl (rfl) (by decide) rfl (fun ls hl => ?_)
                        refine lv_iinc (v := (nI 2)) (lv' := [(9, .int (nI 2)), (8, .int (x1512 + 1)), (7, .int ((if 0 < ((x3 - (2 * x2)) - x4) then ((x3 - (2 * x2)) - x4) else 0) / 2)), (6, .int (nI 2)), (5, .int x635), (0, .ref g), (1, .int x), (2, .int x2), (3, .int x3), (4, .int x4)]) hx hb dX10_mostAlike_86 hl (k := 1) rfl (nI_1 1) (by decide) rfl (fun ls hl => ?_)
                        refine lv_goto (tgt := 47) hx hb dX10_mostAlike_89 (by decide) ?_
                        exact ihj92 2 (x1512 + 1) H locs ls (by omega) (by omega)  (hP.sub [0, 1, 2, 7, 3, 4, 5, 6] rfl) (hD.sub [0, 1, 2, 7, 3, 4, 5, 6] (by decide) rfl) hS (lv_sub hl [0, 1, 2, 3, 4, 5, 6, 7, 8, 9] rfl)
                    · skip
                      refine va_aldq hx hb hK hP 1 5 rfl rfl (vp_in_nI (by omega) (by decide)) dX10_mostAlike_70 ?_
                      rw [nI_clamp (n := 2) (by omega), show va_rf (fq 2) = .ref k2 from congrArg va_rf hq2]
                      refine lv_iload_n hx hb dX10_mostAlike_71 rfl (lv_at hl 7 rfl) ?_
                      refine lv_iload_n hx hb dX10_mostAlike_72 rfl (lv_at hl 8 rfl) ?_
                      refine lv_iload hx hb dX10_mostAlike_73 (lv_at hl 9 rfl) ?_
                      have hs1560 : kw_Split [(g, .inr (10, [.ref kk, .ref nw, .ref im, .ref kp, .ref tx, .ref tr, .ref be, .ref sh, .ref sd, .ref rf, .int ab, .int bl])), (kk, .inl (y 5, 6, .inr (.inr (.inr (.inr fq))))), (k0, .inr (5, [])), (k1, .inr (8, [])), (k3, .inr (6, [])), (k4, .inr (2, [])), (k5, .inr (3, [])), (k2, .inr (9, []))] [(k2, .inr (9, []))] [(g, .inr (10, [.ref kk, .ref nw, .ref im, .ref kp, .ref tx, .ref tr, .ref be, .ref sh, .ref sd, .ref rf, .int ab, .int bl])), (kk, .inl (y 5, 6, .inr (.inr (.inr (.inr fq))))), (k0, .inr (5, [])), (k1, .inr (8, [])), (k3, .inr (6, [])), (k4, .inr (2, [])), (k5, .inr (3, []))] [7] [0, 1, 2, 3, 4, 5, 6] := ⟨rfl, rfl, rfl, rfl, rfl, by decide⟩
                      refine kw_go_i hs1560 hP hD hS hA (va_runU (As := [.int x2, .int x3, .int x4]) (rest := []) ⟨hx, hb, hml, hown, hts⟩ (gc_Wood_on9 l D y k2 x2 x3 x4  _) (va_cwO 3 hts gX10_mostAlike_X9_sight_u325X9 rfl rfl rfl (List.mem_of_getElem? (i := 24) rfl) (by decide +kernel) ⟨Nat.le_of_ble_eq_true rfl, Nat.le_of_ble_eq_true rfl⟩) (kw_PreV (ci := 9) (q0 := 7) hs1560 hP hD hK hN rfl rfl) rfl rfl hl.1 rfl (lv_room (Nat.le_of_ble_eq_true rfl)) dX10_mostAlike_75 ⟨Nat.le_of_ble_eq_true rfl, Nat.le_of_ble_eq_true rfl⟩) (fun r1561 u1562 H locs hq hP hD hS => ?_)
                      obtain rfl := hq
                      have hP : va_P D vwCl [(g, .inr (10, [.ref kk, .ref nw, .ref im, .ref kp, .ref tx, .ref tr, .ref be, .ref sh, .ref sd, .ref rf, .int ab, .int bl])), (kk, .inl (y 5, 6, .inr (.inr (.inr (.inr fq))))), (k0, .inr (5, [])), (k1, .inr (8, [])), (k3, .inr (6, [])), (k4, .inr (2, [])), (k5, .inr (3, [])), (k2, .inr (9, []))] H := hP
                      have hD : va_D A [(g, .inr (10, [.ref kk, .ref nw, .ref im, .ref kp, .ref tx, .ref tr, .ref be, .ref sh, .ref sd, .ref rf, .int ab, .int bl])), (kk, .inl (y 5, 6, .inr (.inr (.inr (.inr fq))))), (k0, .inr (5, [])), (k1, .inr (8, [])), (k3, .inr (6, [])), (k4, .inr (2, [])), (k5, .inr (3, [])), (k2, .inr (9, []))] := hD
                      refine lv_iload hx hb dX10_mostAlike_78 (lv_at hl 2 rfl) ?_
                      refine lv_icmp_ne (tgt := 86) hx hb dX10_mostAlike_80 (by decide) (fun h9 => absurd rfl h9) (fun _ => ?_)
                      refine lv_iinc (v := (x1512 + 1)) (lv' := [(8, .int (x1512 + 1)), (9, .int (nI 2)), (7, .int ((if 0 < ((x3 - (2 * x2)) - x4) then ((x3 - (2 * x2)) - x4) else 0) / 2)), (6, .int (nI 2)), (5, .int x635), (0, .ref g), (1, .int x), (2, .int x2), (3, .int x3), (4, .int x4)]) hx hb dX10_mostAlike_83 hl (k := 1) rfl (rfl) (by decide) rfl (fun ls hl => ?_)
                      refine lv_iinc (v := (nI 3)) (lv' := [(9, .int (nI 3)), (8, .int (x1512 + 1)), (7, .int ((if 0 < ((x3 - (2 * x2)) - x4) then ((x3 - (2 * x2)) - x4) else 0) / 2)), (6, .int (nI 2)), (5, .int x635), (0, .ref g), (1, .int x), (2, .int x2), (3, .int x3), (4, .int x4)]) hx hb dX10_mostAlike_86 hl (k := 1) rfl (nI_1 2) (by decide) rfl (fun ls hl => ?_)
                      refine lv_goto (tgt := 47) hx hb dX10_mostAlike_89 (by decide) ?_
                      exact ihj92 3 (x1512 + 1) H locs ls (by omega) (by omega)  (hP.sub [0, 1, 2, 3, 4, 5, 6, 7] rfl) (hD.sub [0, 1, 2, 3, 4, 5, 6, 7] (by decide) rfl) hS (lv_sub hl [0, 1, 2, 3, 4, 5, 6, 7, 8, 9] rfl)
                    · skip
                      refine va_aldq hx hb hK hP 1 5 rfl rfl (vp_in_nI (by omega) (by decide)) dX10_mostAlike_70 ?_
                      rw [nI_clamp (n := 3) (by omega), show va_rf (fq 3) = .ref k3 from congrArg va_rf hq3]
                      refine lv_iload_n hx hb dX10_mostAlike_71 rfl (lv_at hl 7 rfl) ?_
                      refine lv_iload_n hx hb dX10_mostAlike_72 rfl (lv_at hl 8 rfl) ?_
                      refine lv_iload hx hb dX10_mostAlike_73 (lv_at hl 9 rfl) ?_
                      have hs1563 : kw_Split [(g, .inr (10, [.ref kk, .ref nw, .ref im, .ref kp, .ref tx, .ref tr, .ref be, .ref sh, .ref sd, .ref rf, .int ab, .int bl])), (kk, .inl (y 5, 6, .inr (.inr (.inr (.inr fq))))), (k0, .inr (5, [])), (k1, .inr (8, [])), (k3, .inr (6, [])), (k4, .inr (2, [])), (k5, .inr (3, [])), (k2, .inr (9, []))] [(k3, .inr (6, []))] [(g, .inr (10, [.ref kk, .ref nw, .ref im, .ref kp, .ref tx, .ref tr, .ref be, .ref sh, .ref sd, .ref rf, .int ab, .int bl])), (kk, .inl (y 5, 6, .inr (.inr (.inr (.inr fq))))), (k0, .inr (5, [])), (k1, .inr (8, [])), (k4, .inr (2, [])), (k5, .inr (3, [])), (k2, .inr (9, []))] [4] [0, 1, 2, 3, 5, 6, 7] := ⟨rfl, rfl, rfl, rfl, rfl, by decide⟩
                      refine kw_go_i hs1563 hP hD hS hA (va_runU (As := [.int x2, .int x3, .int x4]) (rest := []) ⟨hx, hb, hml, hown, hts⟩ (gc_Puddle_on6 l D y k3 x2 x3 x4  _) (va_cwO 3 hts gX10_mostAlike_X6_sight_u325X6 rfl rfl rfl (List.mem_of_getElem? (i := 24) rfl) (by decide +kernel) ⟨Nat.le_of_ble_eq_true rfl, Nat.le_of_ble_eq_true rfl⟩) (kw_PreV (ci := 6) (q0 := 4) hs1563 hP hD hK hN rfl rfl) rfl rfl hl.1 rfl (lv_room (Nat.le_of_ble_eq_true rfl)) dX10_mostAlike_75 ⟨Nat.le_of_ble_eq_true rfl, Nat.le_of_ble_eq_true rfl⟩) (fun r1564 u1565 H locs hq hP hD hS => ?_)
                      obtain rfl := hq
                      have hP : va_P D vwCl [(g, .inr (10, [.ref kk, .ref nw, .ref im, .ref kp, .ref tx, .ref tr, .ref be, .ref sh, .ref sd, .ref rf, .int ab, .int bl])), (kk, .inl (y 5, 6, .inr (.inr (.inr (.inr fq))))), (k0, .inr (5, [])), (k1, .inr (8, [])), (k4, .inr (2, [])), (k5, .inr (3, [])), (k2, .inr (9, [])), (k3, .inr (6, []))] H := hP
                      have hD : va_D A [(g, .inr (10, [.ref kk, .ref nw, .ref im, .ref kp, .ref tx, .ref tr, .ref be, .ref sh, .ref sd, .ref rf, .int ab, .int bl])), (kk, .inl (y 5, 6, .inr (.inr (.inr (.inr fq))))), (k0, .inr (5, [])), (k1, .inr (8, [])), (k4, .inr (2, [])), (k5, .inr (3, [])), (k2, .inr (9, [])), (k3, .inr (6, []))] := hD
                      refine lv_iload hx hb dX10_mostAlike_78 (lv_at hl 2 rfl) ?_
                      refine lv_icmp_ne (tgt := 86) hx hb dX10_mostAlike_80 (by decide) (fun h1566 => ?_) (fun h1567 => ?_)
                      · skip
                        refine lv_iinc (v := (nI 4)) (lv' := [(9, .int (nI 4)), (8, .int x1512), (7, .int ((if 0 < ((x3 - (2 * x2)) - x4) then ((x3 - (2 * x2)) - x4) else 0) / 2)), (6, .int (nI 2)), (5, .int x635), (0, .ref g), (1, .int x), (2, .int x2), (3, .int x3), (4, .int x4)]) hx hb dX10_mostAlike_86 hl (k := 0) rfl (nI_1 3) (by decide) rfl (fun ls hl => ?_)
                        refine lv_goto (tgt := 47) hx hb dX10_mostAlike_89 (by decide) ?_
                        exact ihj92 4 x1512 H locs ls (by omega) (by omega)  (hP.sub [0, 1, 2, 3, 7, 4, 5, 6] rfl) (hD.sub [0, 1, 2, 3, 7, 4, 5, 6] (by decide) rfl) hS (lv_sub hl [0, 1, 2, 3, 4, 5, 6, 7, 8, 9] rfl)
                      · skip
                        refine lv_iinc (v := (x1512 + 1)) (lv' := [(8, .int (x1512 + 1)), (9, .int (nI 3)), (7, .int ((if 0 < ((x3 - (2 * x2)) - x4) then ((x3 - (2 * x2)) - x4) else 0) / 2)), (6, .int (nI 2)), (5, .int x635), (0, .ref g), (1, .int x), (2, .int x2), (3, .int x3), (4, .int x4)]) hx hb dX10_mostAlike_83 hl (k := 1) rfl (rfl) (by decide) rfl (fun ls hl => ?_)
                        refine lv_iinc (v := (nI 4)) (lv' := [(9, .int (nI 4)), (8, .int (x1512 + 1)), (7, .int ((if 0 < ((x3 - (2 * x2)) - x4) then ((x3 - (2 * x2)) - x4) else 0) / 2)), (6, .int (nI 2)), (5, .int x635), (0, .ref g), (1, .int x), (2, .int x2), (3, .int x3), (4, .int x4)]) hx hb dX10_mostAlike_86 hl (k := 1) rfl (nI_1 3) (by decide) rfl (fun ls hl => ?_)
                        refine lv_goto (tgt := 47) hx hb dX10_mostAlike_89 (by decide) ?_
                        exact ihj92 4 (x1512 + 1) H locs ls (by omega) (by omega)  (hP.sub [0, 1, 2, 3, 7, 4, 5, 6] rfl) (hD.sub [0, 1, 2, 3, 7, 4, 5, 6] (by decide) rfl) hS (lv_sub hl [0, 1, 2, 3, 4, 5, 6, 7, 8, 9] rfl)
                    · skip
                      refine va_aldq hx hb hK hP 1 5 rfl rfl (vp_in_nI (by omega) (by decide)) dX10_mostAlike_70 ?_
                      rw [nI_clamp (n := 4) (by omega), show va_rf (fq 4) = .ref k4 from congrArg va_rf hq4]
                      refine lv_iload_n hx hb dX10_mostAlike_71 rfl (lv_at hl 7 rfl) ?_
                      refine lv_iload_n hx hb dX10_mostAlike_72 rfl (lv_at hl 8 rfl) ?_
                      refine lv_iload hx hb dX10_mostAlike_73 (lv_at hl 9 rfl) ?_
                      have hs1568 : kw_Split [(g, .inr (10, [.ref kk, .ref nw, .ref im, .ref kp, .ref tx, .ref tr, .ref be, .ref sh, .ref sd, .ref rf, .int ab, .int bl])), (kk, .inl (y 5, 6, .inr (.inr (.inr (.inr fq))))), (k0, .inr (5, [])), (k1, .inr (8, [])), (k3, .inr (6, [])), (k4, .inr (2, [])), (k5, .inr (3, [])), (k2, .inr (9, []))] [(k4, .inr (2, []))] [(g, .inr (10, [.ref kk, .ref nw, .ref im, .ref kp, .ref tx, .ref tr, .ref be, .ref sh, .ref sd, .ref rf, .int ab, .int bl])), (kk, .inl (y 5, 6, .inr (.inr (.inr (.inr fq))))), (k0, .inr (5, [])), (k1, .inr (8, [])), (k3, .inr (6, [])), (k5, .inr (3, [])), (k2, .inr (9, []))] [5] [0, 1, 2, 3, 4, 6, 7] := ⟨rfl, rfl, rfl, rfl, rfl, by decide⟩
                      refine kw_go_i hs1568 hP hD hS hA (va_runU (As := [.int x2, .int x3, .int x4]) (rest := []) ⟨hx, hb, hml, hown, hts⟩ (gc_Hill_on2 l D y k4 x2 x3 x4  _) (va_cwO 3 hts gX10_mostAlike_X2_sight_u325X2 rfl rfl rfl (List.mem_of_getElem? (i := 24) rfl) (by decide +kernel) ⟨Nat.le_of_ble_eq_true rfl, Nat.le_of_ble_eq_true rfl⟩) (kw_PreV (ci := 2) (q0 := 5) hs1568 hP hD hK hN rfl rfl) rfl rfl hl.1 rfl (lv_room (Nat.le_of_ble_eq_true rfl)) dX10_mostAlike_75 ⟨Nat.le_of_ble_eq_true rfl, Nat.le_of_ble_eq_true rfl⟩) (fun r1569 u1570 H locs hq hP hD hS => ?_)
                      have hP : va_P D vwCl [(g, .inr (10, [.ref kk, .ref nw, .ref im, .ref kp, .ref tx, .ref tr, .ref be, .ref sh, .ref sd, .ref rf, .int ab, .int bl])), (kk, .inl (y 5, 6, .inr (.inr (.inr (.inr fq))))), (k0, .inr (5, [])), (k1, .inr (8, [])), (k3, .inr (6, [])), (k5, .inr (3, [])), (k2, .inr (9, [])), (k4, .inr (2, []))] H := hP
                      have hD : va_D A [(g, .inr (10, [.ref kk, .ref nw, .ref im, .ref kp, .ref tx, .ref tr, .ref be, .ref sh, .ref sd, .ref rf, .int ab, .int bl])), (kk, .inl (y 5, 6, .inr (.inr (.inr (.inr fq))))), (k0, .inr (5, [])), (k1, .inr (8, [])), (k3, .inr (6, [])), (k5, .inr (3, [])), (k2, .inr (9, [])), (k4, .inr (2, []))] := hD
                      refine lv_iload hx hb dX10_mostAlike_78 (lv_at hl 2 rfl) ?_
                      refine lv_icmp_ne (tgt := 86) hx hb dX10_mostAlike_80 (by decide) (fun h1571 => ?_) (fun h1572 => ?_)
                      · skip
                        refine lv_iinc (v := (nI 5)) (lv' := [(9, .int (nI 5)), (8, .int x1512), (7, .int ((if 0 < ((x3 - (2 * x2)) - x4) then ((x3 - (2 * x2)) - x4) else 0) / 2)), (6, .int (nI 2)), (5, .int x635), (0, .ref g), (1, .int x), (2, .int x2), (3, .int x3), (4, .int x4)]) hx hb dX10_mostAlike_86 hl (k := 0) rfl (nI_1 4) (by decide) rfl (fun ls hl => ?_)
                        refine lv_goto (tgt := 47) hx hb dX10_mostAlike_89 (by decide) ?_
                        exact ihj92 5 x1512 H locs ls (by omega) (by omega)  (hP.sub [0, 1, 2, 3, 4, 7, 5, 6] rfl) (hD.sub [0, 1, 2, 3, 4, 7, 5, 6] (by decide) rfl) hS (lv_sub hl [0, 1, 2, 3, 4, 5, 6, 7, 8, 9] rfl)
                      · skip
                        refine lv_iinc (v := (x1512 + 1)) (lv' := [(8, .int (x1512 + 1)), (9, .int (nI 4)), (7, .int ((if 0 < ((x3 - (2 * x2)) - x4) then ((x3 - (2 * x2)) - x4) else 0) / 2)), (6, .int (nI 2)), (5, .int x635), (0, .ref g), (1, .int x), (2, .int x2), (3, .int x3), (4, .int x4)]) hx hb dX10_mostAlike_83 hl (k := 1) rfl (rfl) (by decide) rfl (fun ls hl => ?_)
                        refine lv_iinc (v := (nI 5)) (lv' := [(9, .int (nI 5)), (8, .int (x1512 + 1)), (7, .int ((if 0 < ((x3 - (2 * x2)) - x4) then ((x3 - (2 * x2)) - x4) else 0) / 2)), (6, .int (nI 2)), (5, .int x635), (0, .ref g), (1, .int x), (2, .int x2), (3, .int x3), (4, .int x4)]) hx hb dX10_mostAlike_86 hl (k := 1) rfl (nI_1 4) (by decide) rfl (fun ls hl => ?_)
                        refine lv_goto (tgt := 47) hx hb dX10_mostAlike_89 (by decide) ?_
                        exact ihj92 5 (x1512 + 1) H locs ls (by omega) (by omega)  (hP.sub [0, 1, 2, 3, 4, 7, 5, 6] rfl) (hD.sub [0, 1, 2, 3, 4, 7, 5, 6] (by decide) rfl) hS (lv_sub hl [0, 1, 2, 3, 4, 5, 6, 7, 8, 9] rfl)
                    · skip
                      refine va_aldq hx hb hK hP 1 5 rfl rfl (vp_in_nI (by omega) (by decide)) dX10_mostAlike_70 ?_
                      rw [nI_clamp (n := 5) (by omega), show va_rf (fq 5) = .ref k5 from congrArg va_rf hq5]
                      refine lv_iload_n hx hb dX10_mostAlike_71 rfl (lv_at hl 7 rfl) ?_
                      refine lv_iload_n hx hb dX10_mostAlike_72 rfl (lv_at hl 8 rfl) ?_
                      refine lv_iload hx hb dX10_mostAlike_73 (lv_at hl 9 rfl) ?_
                      have hs1573 : kw_Split [(g, .inr (10, [.ref kk, .ref nw, .ref im, .ref kp, .ref tx, .ref tr, .ref be, .ref sh, .ref sd, .ref rf, .int ab, .int bl])), (kk, .inl (y 5, 6, .inr (.inr (.inr (.inr fq))))), (k0, .inr (5, [])), (k1, .inr (8, [])), (k3, .inr (6, [])), (k4, .inr (2, [])), (k5, .inr (3, [])), (k2, .inr (9, []))] [(k5, .inr (3, []))] [(g, .inr (10, [.ref kk, .ref nw, .ref im, .ref kp, .ref tx, .ref tr, .ref be, .ref sh, .ref sd, .ref rf, .int ab, .int bl])), (kk, .inl (y 5, 6, .inr (.inr (.inr (.inr fq))))), (k0, .inr (5, [])), (k1, .inr (8, [])), (k3, .inr (6, [])), (k4, .inr (2, [])), (k2, .inr (9, []))] [6] [0, 1, 2, 3, 4, 5, 7] := ⟨rfl, rfl, rfl, rfl, rfl, by decide⟩
                      refine kw_go_i hs1573 hP hD hS hA (va_runU (As := [.int x2, .int x3, .int x4]) (rest := []) ⟨hx, hb, hml, hown, hts⟩ (gc_Lane_on3 l D y k5 x2 x3 x4  _) (va_cwO 3 hts gX10_mostAlike_X3_sight_u325X3 rfl rfl rfl (List.mem_of_getElem? (i := 24) rfl) (by decide +kernel) ⟨Nat.le_of_ble_eq_true rfl, Nat.le_of_ble_eq_true rfl⟩) (kw_PreV (ci := 3) (q0 := 6) hs1573 hP hD hK hN rfl rfl) rfl rfl hl.1 rfl (lv_room (Nat.le_of_ble_eq_true rfl)) dX10_mostAlike_75 ⟨Nat.le_of_ble_eq_true rfl, Nat.le_of_ble_eq_true rfl⟩) (fun r1574 u1575 H locs hq hP hD hS => ?_)
                      have hP : va_P D vwCl [(g, .inr (10, [.ref kk, .ref nw, .ref im, .ref kp, .ref tx, .ref tr, .ref be, .ref sh, .ref sd, .ref rf, .int ab, .int bl])), (kk, .inl (y 5, 6, .inr (.inr (.inr (.inr fq))))), (k0, .inr (5, [])), (k1, .inr (8, [])), (k3, .inr (6, [])), (k4, .inr (2, [])), (k2, .inr (9, [])), (k5, .inr (3, []))] H := hP
                      have hD : va_D A [(g, .inr (10, [.ref kk, .ref nw, .ref im, .ref kp, .ref tx, .ref tr, .ref be, .ref sh, .ref sd, .ref rf, .int ab, .int bl])), (kk, .inl (y 5, 6, .inr (.inr (.inr (.inr fq))))), (k0, .inr (5, [])), (k1, .inr (8, [])), (k3, .inr (6, [])), (k4, .inr (2, [])), (k2, .inr (9, [])), (k5, .inr (3, []))] := hD
                      refine lv_iload hx hb dX10_mostAlike_78 (lv_at hl 2 rfl) ?_
                      refine lv_icmp_ne (tgt := 86) hx hb dX10_mostAlike_80 (by decide) (fun h1576 => ?_) (fun h1577 => ?_)
                      · skip
                        refine lv_iinc (v := (nI 6)) (lv' := [(9, .int (nI 6)), (8, .int x1512), (7, .int ((if 0 < ((x3 - (2 * x2)) - x4) then ((x3 - (2 * x2)) - x4) else 0) / 2)), (6, .int (nI 2)), (5, .int x635), (0, .ref g), (1, .int x), (2, .int x2), (3, .int x3), (4, .int x4)]) hx hb dX10_mostAlike_86 hl (k := 0) rfl (nI_1 5) (by decide) rfl (fun ls hl => ?_)
                        refine lv_goto (tgt := 47) hx hb dX10_mostAlike_89 (by decide) ?_
                        exact ihj92 6 x1512 H locs ls (by omega) (by omega)  (hP.sub [0, 1, 2, 3, 4, 5, 7, 6] rfl) (hD.sub [0, 1, 2, 3, 4, 5, 7, 6] (by decide) rfl) hS (lv_sub hl [0, 1, 2, 3, 4, 5, 6, 7, 8, 9] rfl)
                      · skip
                        refine lv_iinc (v := (x1512 + 1)) (lv' := [(8, .int (x1512 + 1)), (9, .int (nI 5)), (7, .int ((if 0 < ((x3 - (2 * x2)) - x4) then ((x3 - (2 * x2)) - x4) else 0) / 2)), (6, .int (nI 2)), (5, .int x635), (0, .ref g), (1, .int x), (2, .int x2), (3, .int x3), (4, .int x4)]) hx hb dX10_mostAlike_83 hl (k := 1) rfl (rfl) (by decide) rfl (fun ls hl => ?_)
                        refine lv_iinc (v := (nI 6)) (lv' := [(9, .int (nI 6)), (8, .int (x1512 + 1)), (7, .int ((if 0 < ((x3 - (2 * x2)) - x4) then ((x3 - (2 * x2)) - x4) else 0) / 2)), (6, .int (nI 2)), (5, .int x635), (0, .ref g), (1, .int x), (2, .int x2), (3, .int x3), (4, .int x4)]) hx hb dX10_mostAlike_86 hl (k := 1) rfl (nI_1 5) (by decide) rfl (fun ls hl => ?_)
                        refine lv_goto (tgt := 47) hx hb dX10_mostAlike_89 (by decide) ?_
                        exact ihj92 6 (x1512 + 1) H locs ls (by omega) (by omega)  (hP.sub [0, 1, 2, 3, 4, 5, 7, 6] rfl) (hD.sub [0, 1, 2, 3, 4, 5, 7, 6] (by decide) rfl) hS (lv_sub hl [0, 1, 2, 3, 4, 5, 6, 7, 8, 9] rfl)
            exact lp1545 (6 + 1) 0 0 _ _ _ (by omega) (by omega)  hP hD hS (lv_sub hl [0, 1, 2, 3, 4, 5, 6, 7, 8, 9] rfl)
          · skip
            refine va_aldq hx hb hK hP 1 5 rfl rfl (vp_in_nI (by omega) (by decide)) dX10_mostAlike_31 ?_
            rw [nI_clamp (n := 3) (by omega), show va_rf (fq 3) = .ref k3 from congrArg va_rf hq3]
            refine lv_iload_n hx hb dX10_mostAlike_32 rfl (lv_at hl 4 rfl) ?_
            refine lv_iload_n hx hb dX10_mostAlike_33 rfl (lv_at hl 5 rfl) ?_
            refine lv_iload hx hb dX10_mostAlike_34 (lv_at hl 6 rfl) ?_
            have hs1578 : kw_Split [(g, .inr (10, [.ref kk, .ref nw, .ref im, .ref kp, .ref tx, .ref tr, .ref be, .ref sh, .ref sd, .ref rf, .int ab, .int bl])), (kk, .inl (y 5, 6, .inr (.inr (.inr (.inr fq))))), (k0, .inr (5, [])), (k1, .inr (8, [])), (k2, .inr (9, [])), (k3, .inr (6, [])), (k4, .inr (2, [])), (k5, .inr (3, []))] [(k3, .inr (6, []))] [(g, .inr (10, [.ref kk, .ref nw, .ref im, .ref kp, .ref tx, .ref tr, .ref be, .ref sh, .ref sd, .ref rf, .int ab, .int bl])), (kk, .inl (y 5, 6, .inr (.inr (.inr (.inr fq))))), (k0, .inr (5, [])), (k1, .inr (8, [])), (k2, .inr (9, [])), (k4, .inr (2, [])), (k5, .inr (3, []))] [5] [0, 1, 2, 3, 4, 6, 7] := ⟨rfl, rfl, rfl, rfl, rfl, by decide⟩
            refine kw_go_i hs1578 hP hD hS hA (va_runU (As := [.int x2, .int x3, .int x4]) (rest := []) ⟨hx, hb, hml, hown, hts⟩ (gc_Puddle_on6 l D y k3 x2 x3 x4  _) (va_cwO 3 hts gX10_mostAlike_X6_sight_u325X6 rfl rfl rfl (List.mem_of_getElem? (i := 24) rfl) (by decide +kernel) ⟨Nat.le_of_ble_eq_true rfl, Nat.le_of_ble_eq_true rfl⟩) (kw_PreV (ci := 6) (q0 := 5) hs1578 hP hD hK hN rfl rfl) rfl rfl hl.1 rfl (lv_room (Nat.le_of_ble_eq_true rfl)) dX10_mostAlike_36 ⟨Nat.le_of_ble_eq_true rfl, Nat.le_of_ble_eq_true rfl⟩) (fun r1579 u1580 H locs hq hP hD hS => ?_)
            obtain rfl := hq
            have hP : va_P D vwCl [(g, .inr (10, [.ref kk, .ref nw, .ref im, .ref kp, .ref tx, .ref tr, .ref be, .ref sh, .ref sd, .ref rf, .int ab, .int bl])), (kk, .inl (y 5, 6, .inr (.inr (.inr (.inr fq))))), (k0, .inr (5, [])), (k1, .inr (8, [])), (k2, .inr (9, [])), (k4, .inr (2, [])), (k5, .inr (3, [])), (k3, .inr (6, []))] H := hP
            have hD : va_D A [(g, .inr (10, [.ref kk, .ref nw, .ref im, .ref kp, .ref tx, .ref tr, .ref be, .ref sh, .ref sd, .ref rf, .int ab, .int bl])), (kk, .inl (y 5, 6, .inr (.inr (.inr (.inr fq))))), (k0, .inr (5, [])), (k1, .inr (8, [])), (k2, .inr (9, [])), (k4, .inr (2, [])), (k5, .inr (3, [])), (k3, .inr (6, []))] := hD
            refine lv_istore (lv' := [(7, .int (if ((if 0 < ((x3 - (2 * x2)) - x4) then ((x3 - (2 * x2)) - x4) else 0) + x4) < x3 then ((if 0 < ((x3 - (2 * x2)) - x4) then ((x3 - (2 * x2)) - x4) else 0) + x4) else x3)), (6, .int (nI 3)), (5, .int x635), (0, .ref g), (1, .int x), (2, .int x2), (3, .int x3), (4, .int x4)]) hx hb dX10_mostAlike_39 hl (by decide) rfl (fun ls hl => ?_)
            refine lv_iconst (v := 0) hx hb dX10_mostAlike_41 (by decide) ?_
            refine lv_istore (lv' := [(8, .int 0), (7, .int (if ((if 0 < ((x3 - (2 * x2)) - x4) then ((x3 - (2 * x2)) - x4) else 0) + x4) < x3 then ((if 0 < ((x3 - (2 * x2)) - x4) then ((x3 - (2 * x2)) - x4) else 0) + x4) else x3)), (6, .int (nI 3)), (5, .int x635), (0, .ref g), (1, .int x), (2, .int x2), (3, .int x3), (4, .int x4)]) hx hb dX10_mostAlike_42 hl (by decide) rfl (fun ls hl => ?_)
            refine lv_iconst (v := 0) hx hb dX10_mostAlike_44 (by decide) ?_
            refine lv_istore (lv' := [(9, .int 0), (8, .int 0), (7, .int (if ((if 0 < ((x3 - (2 * x2)) - x4) then ((x3 - (2 * x2)) - x4) else 0) + x4) < x3 then ((if 0 < ((x3 - (2 * x2)) - x4) then ((x3 - (2 * x2)) - x4) else 0) + x4) else x3)), (6, .int (nI 3)), (5, .int x635), (0, .ref g), (1, .int x), (2, .int x2), (3, .int x3), (4, .int x4)]) hx hb dX10_mostAlike_45 hl (by decide) rfl (fun ls hl => ?_)
            have lp1646 : ∀ (fuj92 j92 : Nat) (x1613 : Int32) (H : Heap) (locs : List Loc) (ls : Array Slot), j92 ≤ 6 → 6 - j92 < fuj92 → va_P D vwCl [(g, .inr (10, [.ref kk, .ref nw, .ref im, .ref kp, .ref tx, .ref tr, .ref be, .ref sh, .ref sd, .ref rf, .int ab, .int bl])), (kk, .inl (y 5, 6, .inr (.inr (.inr (.inr fq))))), (k0, .inr (5, [])), (k1, .inr (8, [])), (k2, .inr (9, [])), (k4, .inr (2, [])), (k5, .inr (3, [])), (k3, .inr (6, []))] H → va_D A [(g, .inr (10, [.ref kk, .ref nw, .ref im, .ref kp, .ref tx, .ref tr, .ref be, .ref sh, .ref sd, .ref rf, .int ab, .int bl])), (kk, .inl (y 5, 6, .inr (.inr (.inr (.inr fq))))), (k0, .inr (5, [])), (k1, .inr (8, [])), (k2, .inr (9, [])), (k4, .inr (2, [])), (k5, .inr (3, [])), (k3, .inr (6, []))] → va_S A s.heap H locs → lv_has ls 10 [(9, .int (nI j92)), (8, .int x1613), (7, .int (if ((if 0 < ((x3 - (2 * x2)) - x4) then ((x3 - (2 * x2)) - x4) else 0) + x4) < x3 then ((if 0 < ((x3 - (2 * x2)) - x4) then ((x3 - (2 * x2)) - x4) else 0) + x4) else x3)), (6, .int (nI 3)), (5, .int x635), (0, .ref g), (1, .int x), (2, .int x2), (3, .int x3), (4, .int x4)] → W pZ l eZ ({ frames := 4, cells := 0, slots := 0, locals := 130 }) s mZ [.ref g, .int x, .int x2, .int x3, .int x4].toArray beZ meZ cZ H locs 0 0 (MQ beZ (va_Qi (fun (r : Int32) (u : Unit) => True) (kw_B D (fun _ => [(g, .inr (10, [.ref kk, .ref nw, .ref im, .ref kp, .ref tx, .ref tr, .ref be, .ref sh, .ref sd, .ref rf, .int ab, .int bl])), (kk, .inl (y 5, 6, .inr (.inr (.inr (.inr fq))))), (k0, .inr (5, [])), (k1, .inr (8, [])), (k2, .inr (9, [])), (k3, .inr (6, [])), (k4, .inr (2, [])), (k5, .inr (3, []))]) A) A) [.ref g, .int x, .int x2, .int x3, .int x4].toArray s 0 0 A) (F0 mZ 47 ls []) := by
              intro fuj92
              induction fuj92 with
              | zero => intro j92 x1613 H locs ls hj9 hf9; exact absurd hf9 (Nat.not_lt_zero _)
              | succ fuj92 ihj92 =>
                intro j92 x1613 H locs ls hj92 hfj92  hP hD hS hl
                refine lv_iload hx hb dX10_mostAlike_47 (lv_at hl 0 rfl) ?_
                refine lv_bipush (v := 6) hx hb dX10_mostAlike_49 (by decide) ?_
                refine lv_icmp_ge (tgt := 92) hx hb dX10_mostAlike_51 (by decide) (fun h1647 => ?_) (fun h1648 => ?_)
                · skip
                  have h1647 : 6 ≤ j92 := (nI_leI (a := 6) (b := j92) (by omega) (by omega)).mp h1647
                  refine lv_iload hx hb dX10_mostAlike_92 (lv_at hl 4 rfl) ?_
                  refine lv_iload hx hb dX10_mostAlike_94 (lv_at hl 1 rfl) ?_
                  refine va_mmax hx hb (hml.trans hl.1.symm) hown fw2 fw3 fw4 fw5 (Nat.le_of_ble_eq_true rfl) (Nat.le_of_ble_eq_true rfl) (Nat.le_of_ble_eq_true rfl) (Nat.le_of_ble_eq_true rfl) dX10_mostAlike_96 ?_
                  refine lv_istore (lv' := [(5, .int (if x635 < x1613 then x1613 else x635)), (9, .int (nI j92)), (8, .int x1613), (7, .int (if ((if 0 < ((x3 - (2 * x2)) - x4) then ((x3 - (2 * x2)) - x4) else 0) + x4) < x3 then ((if 0 < ((x3 - (2 * x2)) - x4) then ((x3 - (2 * x2)) - x4) else 0) + x4) else x3)), (6, .int (nI 3)), (0, .ref g), (1, .int x), (2, .int x2), (3, .int x3), (4, .int x4)]) hx hb dX10_mostAlike_99 hl (by decide) rfl (fun ls hl => ?_)
                  refine lv_iinc (v := (nI 4)) (lv' := [(6, .int (nI 4)), (5, .int (if x635 < x1613 then x1613 else x635)), (9, .int (nI j92)), (8, .int x1613), (7, .int (if ((if 0 < ((x3 - (2 * x2)) - x4) then ((x3 - (2 * x2)) - x4) else 0) + x4) < x3 then ((if 0 < ((x3 - (2 * x2)) - x4) then ((x3 - (2 * x2)) - x4) else 0) + x4) else x3)), (0, .ref g), (1, .int x), (2, .int x2), (3, .int x3), (4, .int x4)]) hx hb dX10_mostAlike_101 hl (k := 4) rfl (nI_1 3) (by decide) rfl (fun ls hl => ?_)
                  refine lv_goto (tgt := 6) hx hb dX10_mostAlike_104 (by decide) ?_
                  exact ihj91 4 (if x635 < x1613 then x1613 else x635) H locs ls (by omega) (by omega)  (hP.sub [0, 1, 2, 3, 4, 7, 5, 6] rfl) (hD.sub [0, 1, 2, 3, 4, 7, 5, 6] (by decide) rfl) hS (lv_sub hl [0, 1, 5, 6, 7, 8, 9] rfl)
                · skip
                  have h1648 : ¬ 6 ≤ j92 := fun q9 => h1648 ((nI_leI (a := 6) (b := j92) (by omega) (by omega)).mpr q9)
                  refine lv_iload_n hx hb dX10_mostAlike_54 rfl (lv_at hl 6 rfl) ?_
                  refine lv_iload hx hb dX10_mostAlike_55 (lv_at hl 0 rfl) ?_
                  refine lv_ishr hx hb dX10_mostAlike_57 ?_
                  refine lv_iconst (v := 1) hx hb dX10_mostAlike_58 (by decide) ?_
                  refine lv_iand hx hb dX10_mostAlike_59 ?_
                  refine lv_iconst (v := 1) hx hb dX10_mostAlike_60 (by decide) ?_
                  refine lv_icmp_ne (tgt := 86) hx hb dX10_mostAlike_61 (by decide) (fun h1649 => ?_) (fun h1650 => ?_)
                  · skip
                    refine lv_iinc (v := (nI (j92 + 1))) (lv' := [(9, .int (nI (j92 + 1))), (8, .int x1613), (7, .int (if ((if 0 < ((x3 - (2 * x2)) - x4) then ((x3 - (2 * x2)) - x4) else 0) + x4) < x3 then ((if 0 < ((x3 - (2 * x2)) - x4) then ((x3 - (2 * x2)) - x4) else 0) + x4) else x3)), (6, .int (nI 3)), (5, .int x635), (0, .ref g), (1, .int x), (2, .int x2), (3, .int x3), (4, .int x4)]) hx hb dX10_mostAlike_86 hl (k := 0) rfl (nI_1 j92) (by decide) rfl (fun ls hl => ?_)
                    refine lv_goto (tgt := 47) hx hb dX10_mostAlike_89 (by decide) ?_
                    exact ihj92 (j92 + 1) x1613 H locs ls (by omega) (by omega)  (hP.sub [0, 1, 2, 3, 4, 5, 6, 7] rfl) (hD.sub [0, 1, 2, 3, 4, 5, 6, 7] (by decide) rfl) hS (lv_sub hl [0, 1, 2, 3, 4, 5, 6, 7, 8, 9] rfl)
                  · skip
                    refine lv_aload_n hx hb dX10_mostAlike_64 rfl (lv_at hl 5 rfl) ?_
                    refine va_get (D := D) (ci := 10) (v := .ref kk) (C := RX10) (T := TX10) (N := 12) hx hb hts iw10 hown hK hP 0 rfl rfl 0 (by decide) fw1 (fun _ h9 => h9) rfl dX10_mostAlike_65 ?_
                    refine lv_iload hx hb dX10_mostAlike_68 (lv_at hl 0 rfl) ?_
                    rcases (show j92 = 0 ∨ j92 = 1 ∨ j92 = 2 ∨ j92 = 3 ∨ j92 = 4 ∨ j92 = 5 by omega) with rfl | rfl | rfl | rfl | rfl | rfl
                    · skip
                      refine va_aldq hx hb hK hP 1 5 rfl rfl (vp_in_nI (by omega) (by decide)) dX10_mostAlike_70 ?_
                      rw [nI_clamp (n := 0) (by omega), show va_rf (fq 0) = .ref k0 from congrArg va_rf hq0]
                      refine lv_iload_n hx hb dX10_mostAlike_71 rfl (lv_at hl 7 rfl) ?_
                      refine lv_iload_n hx hb dX10_mostAlike_72 rfl (lv_at hl 8 rfl) ?_
                      refine lv_iload hx hb dX10_mostAlike_73 (lv_at hl 9 rfl) ?_
                      have hs1651 : kw_Split [(g, .inr (10, [.ref kk, .ref nw, .ref im, .ref kp, .ref tx, .ref tr, .ref be, .ref sh, .ref sd, .ref rf, .int ab, .int bl])), (kk, .inl (y 5, 6, .inr (.inr (.inr (.inr fq))))), (k0, .inr (5, [])), (k1, .inr (8, [])), (k2, .inr (9, [])), (k4, .inr (2, [])), (k5, .inr (3, [])), (k3, .inr (6, []))] [(k0, .inr (5, []))] [(g, .inr (10, [.ref kk, .ref nw, .ref im, .ref kp, .ref tx, .ref tr, .ref be, .ref sh, .ref sd, .ref rf, .int ab, .int bl])), (kk, .inl (y 5, 6, .inr (.inr (.inr (.inr fq))))), (k1, .inr (8, [])), (k2, .inr (9, [])), (k4, .inr (2, [])), (k5, .inr (3, [])), (k3, .inr (6, []))] [2] [0, 1, 3, 4, 5, 6, 7] := ⟨rfl, rfl, rfl, rfl, rfl, by decide⟩
                      refine kw_go_i hs1651 hP hD hS hA (va_runV (As := [.int x2, .int x3, .int x4]) (rest := []) ⟨hx, hb, hml, hown, hts⟩ (gc_Plain_on5 l D y k0 x2 x3 x4  _) (cwV 3 hts gX10_mostAlike_X5_sight rfl rfl rfl (by decide +kernel) ⟨Nat.le_of_ble_eq_true rfl, Nat.le_of_ble_eq_true rfl⟩) (kw_PreV (ci := 5) (q0 := 2) hs1651 hP hD hK hN rfl rfl) rfl rfl hl.1 rfl (lv_room (Nat.le_of_ble_eq_true rfl)) dX10_mostAlike_75 ⟨Nat.le_of_ble_eq_true rfl, Nat.le_of_ble_eq_true rfl⟩) (fun r1652 u1653 H locs hq hP hD hS => ?_)
                      obtain rfl := hq
                      have hP : va_P D vwCl [(g, .inr (10, [.ref kk, .ref nw, .ref im, .ref kp, .ref tx, .ref tr, .ref be, .ref sh, .ref sd, .ref rf, .int ab, .int bl])), (kk, .inl (y 5, 6, .inr (.inr (.inr (.inr fq))))), (k1, .inr (8, [])), (k2, .inr (9, [])), (k4, .inr (2, [])), (k5, .inr (3, [])), (k3, .inr (6, [])), (k0, .inr (5, []))] H := hP
                      have hD : va_D A [(g, .inr (10, [.ref kk, .ref nw, .ref im, .ref kp, .ref tx, .ref tr, .ref be, .ref sh, .ref sd, .ref rf, .int ab, .int bl])), (kk, .inl (y 5, 6, .inr (.inr (.inr (.inr fq))))), (k1, .inr (8, [])), (k2, .inr (9, [])), (k4, .inr (2, [])), (k5, .inr (3, [])), (k3, .inr (6, [])), (k0, .inr (5, []))] := hD
                      refine lv_iload hx hb dX10_mostAlike_78 (lv_at hl 2 rfl) ?_
                      refine lv_icmp_ne (tgt := 86) hx hb dX10_mostAlike_80 (by decide) (fun h1654 => ?_) (fun h1655 => ?_)
                      · skip
                        refine lv_iinc (v := (nI 1)) (lv' := [(9, .int (nI 1)), (8, .int x1613), (7, .int (if ((if 0 < ((x3 - (2 * x2)) - x4) then ((x3 - (2 * x2)) - x4) else 0) + x4) < x3 then ((if 0 < ((x3 - (2 * x2)) - x4) then ((x3 - (2 * x2)) - x4) else 0) + x4) else x3)), (6, .int (nI 3)), (5, .int x635), (0, .ref g), (1, .int x), (2, .int x2), (3, .int x3), (4, .int x4)]) hx hb dX10_mostAlike_86 hl (k := 0) rfl (nI_1 0) (by decide) rfl (fun ls hl => ?_)
                        refine lv_goto (tgt := 47) hx hb dX10_mostAlike_89 (by decide) ?_
                        exact ihj92 1 x1613 H locs ls (by omega) (by omega)  (hP.sub [0, 1, 7, 2, 3, 4, 5, 6] rfl) (hD.sub [0, 1, 7, 2, 3, 4, 5, 6] (by decide) rfl) hS (lv_sub hl [0, 1, 2, 3, 4, 5, 6, 7, 8, 9] rfl)
                      · skip
                        refine lv_iinc (v := (x1613 + 1)) (lv' := [(8, .int (x1613 + 1)), (9, .int (nI 0)), (7, .int (if ((if 0 < ((x3 - (2 * x2)) - x4) then ((x3 - (2 * x2)) - x4) else 0) + x4) < x3 then ((if 0 < ((x3 - (2 * x2)) - x4) then ((x3 - (2 * x2)) - x4) else 0) + x4) else x3)), (6, .int (nI 3)), (5, .int x635), (0, .ref g), (1, .int x), (2, .int x2), (3, .int x3), (4, .int x4)]) hx hb dX10_mostAlike_83 hl (k := 1) rfl (rfl) (by decide) rfl (fun ls hl => ?_)
                        refine lv_iinc (v := (nI 1)) (lv' := [(9, .int (nI 1)), (8, .int (x1613 + 1)), (7, .int (if ((if 0 < ((x3 - (2 * x2)) - x4) then ((x3 - (2 * x2)) - x4) else 0) + x4) < x3 then ((if 0 < ((x3 - (2 * x2)) - x4) then ((x3 - (2 * x2)) - x4) else 0) + x4) else x3)), (6, .int (nI 3)), (5, .int x635), (0, .ref g), (1, .int x), (2, .int x2), (3, .int x3), (4, .int x4)]) hx hb dX10_mostAlike_86 hl (k := 1) rfl (nI_1 0) (by decide) rfl (fun ls hl => ?_)
                        refine lv_goto (tgt := 47) hx hb dX10_mostAlike_89 (by decide) ?_
                        exact ihj92 1 (x1613 + 1) H locs ls (by omega) (by omega)  (hP.sub [0, 1, 7, 2, 3, 4, 5, 6] rfl) (hD.sub [0, 1, 7, 2, 3, 4, 5, 6] (by decide) rfl) hS (lv_sub hl [0, 1, 2, 3, 4, 5, 6, 7, 8, 9] rfl)
                    · skip
                      refine va_aldq hx hb hK hP 1 5 rfl rfl (vp_in_nI (by omega) (by decide)) dX10_mostAlike_70 ?_
                      rw [nI_clamp (n := 1) (by omega), show va_rf (fq 1) = .ref k1 from congrArg va_rf hq1]
                      refine lv_iload_n hx hb dX10_mostAlike_71 rfl (lv_at hl 7 rfl) ?_
                      refine lv_iload_n hx hb dX10_mostAlike_72 rfl (lv_at hl 8 rfl) ?_
                      refine lv_iload hx hb dX10_mostAlike_73 (lv_at hl 9 rfl) ?_
                      have hs1656 : kw_Split [(g, .inr (10, [.ref kk, .ref nw, .ref im, .ref kp, .ref tx, .ref tr, .ref be, .ref sh, .ref sd, .ref rf, .int ab, .int bl])), (kk, .inl (y 5, 6, .inr (.inr (.inr (.inr fq))))), (k0, .inr (5, [])), (k1, .inr (8, [])), (k2, .inr (9, [])), (k4, .inr (2, [])), (k5, .inr (3, [])), (k3, .inr (6, []))] [(k1, .inr (8, []))] [(g, .inr (10, [.ref kk, .ref nw, .ref im, .ref kp, .ref tx, .ref tr, .ref be, .ref sh, .ref sd, .ref rf, .int ab, .int bl])), (kk, .inl (y 5, 6, .inr (.inr (.inr (.inr fq))))), (k0, .inr (5, [])), (k2, .inr (9, [])), (k4, .inr (2, [])), (k5, .inr (3, [])), (k3, .inr (6, []))] [3] [0, 1, 2, 4, 5, 6, 7] := ⟨rfl, rfl, rfl, rfl, rfl, by decide⟩
                      refine kw_go_i hs1656 hP hD hS hA (va_runU (As := [.int x2, .int x3, .int x4]) (rest := []) ⟨hx, hb, hml, hown, hts⟩ (gc_West_on8 l D y k1 x2 x3 x4  _) (va_cwO 3 hts gX10_mostAlike_X8_sight_u325X8 rfl rfl rfl (List.mem_of_getElem? (i := 24) rfl) (by decide +kernel) ⟨Nat.le_of_ble_eq_true rfl, Nat.le_of_ble_eq_true rfl⟩) (kw_PreV (ci := 8) (q0 := 3) hs1656 hP hD hK hN rfl rfl) rfl rfl hl.1 rfl (lv_room (Nat.le_of_ble_eq_true rfl)) dX10_mostAlike_75 ⟨Nat.le_of_ble_eq_true rfl, Nat.le_of_ble_eq_true rfl⟩) (fun r1657 u1658 H locs hq hP hD hS => ?_)
                      have hP : va_P D vwCl [(g, .inr (10, [.ref kk, .ref nw, .ref im, .ref kp, .ref tx, .ref tr, .ref be, .ref sh, .ref sd, .ref rf, .int ab, .int bl])), (kk, .inl (y 5, 6, .inr (.inr (.inr (.inr fq))))), (k0, .inr (5, [])), (k2, .inr (9, [])), (k4, .inr (2, [])), (k5, .inr (3, [])), (k3, .inr (6, [])), (k1, .inr (8, []))] H := hP
                      have hD : va_D A [(g, .inr (10, [.ref kk, .ref nw, .ref im, .ref kp, .ref tx, .ref tr, .ref be, .ref sh, .ref sd, .ref rf, .int ab, .int bl])), (kk, .inl (y 5, 6, .inr (.inr (.inr (.inr fq))))), (k0, .inr (5, [])), (k2, .inr (9, [])), (k4, .inr (2, [])), (k5, .inr (3, [])), (k3, .inr (6, [])), (k1, .inr (8, []))] := hD
                      refine lv_iload hx hb dX10_mostAlike_78 (lv_at hl 2 rfl) ?_
                      refine lv_icmp_ne (tgt := 86) hx hb dX10_mostAlike_80 (by decide) (fun h1659 => ?_) (fun h1660 => ?_)
                      · skip
                        refine lv_iinc (v := (nI 2)) (lv' := [(9, .int (nI 2)), (8, .int x1613), (7, .int (if ((if 0 < ((x3 - (2 * x2)) - x4) then ((x3 - (2 * x2)) - x4) else 0) + x4) < x3 then ((if 0 < ((x3 - (2 * x2)) - x4) then ((x3 - (2 * x2)) - x4) else 0) + x4) else x3)), (6, .int (nI 3)), (5, .int x635), (0, .ref g), (1, .int x), (2, .int x2), (3, .int x3), (4, .int x4)]) hx hb dX10_mostAlike_86 hl (k := 0) rfl (nI_1 1) (by decide) rfl (fun ls hl => ?_)
                        refine lv_goto (tgt := 47) hx hb dX10_mostAlike_89 (by decide) ?_
                        exact ihj92 2 x1613 H locs ls (by omega) (by omega)  (hP.sub [0, 1, 2, 7, 3, 4, 5, 6] rfl) (hD.sub [0, 1, 2, 7, 3, 4, 5, 6] (by decide) rfl) hS (lv_sub hl [0, 1, 2, 3, 4, 5, 6, 7, 8, 9] rfl)
                      · skip
                        refine lv_iinc (v := (x1613 + 1)) (lv' := [(8, .int (x1613 + 1)), (9, .int (nI 1)), (7, .int (if ((if 0 < ((x3 - (2 * x2)) - x4) then ((x3 - (2 * x2)) - x4) else 0) + x4) < x3 then ((if 0 < ((x3 - (2 * x2)) - x4) then ((x3 - (2 * x2)) - x4) else 0) + x4) else x3)), (6, .int (nI 3)), (5, .int x635), (0, .ref g), (1, .int x), (2, .int x2), (3, .int x3), (4, .int x4)]) hx hb dX10_mostAlike_83 hl (k := 1) rfl (rfl) (by decide) rfl (fun ls hl => ?_)
                        refine lv_iinc (v := (nI 2)) (lv' := [(9, .int (nI 2)), (8, .int (x1613 + 1)), (7, .int (if ((if 0 < ((x3 - (2 * x2)) - x4) then ((x3 - (2 * x2)) - x4) else 0) + x4) < x3 then ((if 0 < ((x3 - (2 * x2)) - x4) then ((x3 - (2 * x2)) - x4) else 0) + x4) else x3)), (6, .int (nI 3)), (5, .int x635), (0, .ref g), (1, .int x), (2, .int x2), (3, .int x3), (4, .int x4)]) hx hb dX10_mostAlike_86 hl (k := 1) rfl (nI_1 1) (by decide) rfl (fun ls hl => ?_)
                        refine lv_goto (tgt := 47) hx hb dX10_mostAlike_89 (by decide) ?_
                        exact ihj92 2 (x1613 + 1) H locs ls (by omega) (by omega)  (hP.sub [0, 1, 2, 7, 3, 4, 5, 6] rfl) (hD.sub [0, 1, 2, 7, 3, 4, 5, 6] (by decide) rfl) hS (lv_sub hl [0, 1, 2, 3, 4, 5, 6, 7, 8, 9] rfl)
                    · skip
                      refine va_aldq hx hb hK hP 1 5 rfl rfl (vp_in_nI (by omega) (by decide)) dX10_mostAlike_70 ?_
                      rw [nI_clamp (n := 2) (by omega), show va_rf (fq 2) = .ref k2 from congrArg va_rf hq2]
                      refine lv_iload_n hx hb dX10_mostAlike_71 rfl (lv_at hl 7 rfl) ?_
                      refine lv_iload_n hx hb dX10_mostAlike_72 rfl (lv_at hl 8 rfl) ?_
                      refine lv_iload hx hb dX10_mostAlike_73 (lv_at hl 9 rfl) ?_
                      have hs1661 : kw_Split [(g, .inr (10, [.ref kk, .ref nw, .ref im, .ref kp, .ref tx, .ref tr, .ref be, .ref sh, .ref sd, .ref rf, .int ab, .int bl])), (kk, .inl (y 5, 6, .inr (.inr (.inr (.inr fq))))), (k0, .inr (5, [])), (k1, .inr (8, [])), (k2, .inr (9, [])), (k4, .inr (2, [])), (k5, .inr (3, [])), (k3, .inr (6, []))] [(k2, .inr (9, []))] [(g, .inr (10, [.ref kk, .ref nw, .ref im, .ref kp, .ref tx, .ref tr, .ref be, .ref sh, .ref sd, .ref rf, .int ab, .int bl])), (kk, .inl (y 5, 6, .inr (.inr (.inr (.inr fq))))), (k0, .inr (5, [])), (k1, .inr (8, [])), (k4, .inr (2, [])), (k5, .inr (3, [])), (k3, .inr (6, []))] [4] [0, 1, 2, 3, 5, 6, 7] := ⟨rfl, rfl, rfl, rfl, rfl, by decide⟩
                      refine kw_go_i hs1661 hP hD hS hA (va_runU (As := [.int x2, .int x3, .int x4]) (rest := []) ⟨hx, hb, hml, hown, hts⟩ (gc_Wood_on9 l D y k2 x2 x3 x4  _) (va_cwO 3 hts gX10_mostAlike_X9_sight_u325X9 rfl rfl rfl (List.mem_of_getElem? (i := 24) rfl) (by decide +kernel) ⟨Nat.le_of_ble_eq_true rfl, Nat.le_of_ble_eq_true rfl⟩) (kw_PreV (ci := 9) (q0 := 4) hs1661 hP hD hK hN rfl rfl) rfl rfl hl.1 rfl (lv_room (Nat.le_of_ble_eq_true rfl)) dX10_mostAlike_75 ⟨Nat.le_of_ble_eq_true rfl, Nat.le_of_ble_eq_true rfl⟩) (fun r1662 u1663 H locs hq hP hD hS => ?_)
                      obtain rfl := hq
                      have hP : va_P D vwCl [(g, .inr (10, [.ref kk, .ref nw, .ref im, .ref kp, .ref tx, .ref tr, .ref be, .ref sh, .ref sd, .ref rf, .int ab, .int bl])), (kk, .inl (y 5, 6, .inr (.inr (.inr (.inr fq))))), (k0, .inr (5, [])), (k1, .inr (8, [])), (k4, .inr (2, [])), (k5, .inr (3, [])), (k3, .inr (6, [])), (k2, .inr (9, []))] H := hP
                      have hD : va_D A [(g, .inr (10, [.ref kk, .ref nw, .ref im, .ref kp, .ref tx, .ref tr, .ref be, .ref sh, .ref sd, .ref rf, .int ab, .int bl])), (kk, .inl (y 5, 6, .inr (.inr (.inr (.inr fq))))), (k0, .inr (5, [])), (k1, .inr (8, [])), (k4, .inr (2, [])), (k5, .inr (3, [])), (k3, .inr (6, [])), (k2, .inr (9, []))] := hD
                      refine lv_iload hx hb dX10_mostAlike_78 (lv_at hl 2 rfl) ?_
                      refine lv_icmp_ne (tgt := 86) hx hb dX10_mostAlike_80 (by decide) (fun h1664 => ?_) (fun h1665 => ?_)
                      · skip
                        refine lv_iinc (v := (nI 3)) (lv' := [(9, .int (nI 3)), (8, .int x1613), (7, .int (if ((if 0 < ((x3 - (2 * x2)) - x4) then ((x3 - (2 * x2)) - x4) else 0) + x4) < x3 then ((if 0 < ((x3 - (2 * x2)) - x4) then ((x3 - (2 * x2)) - x4) else 0) + x4) else x3)), (6, .int (nI 3)), (5, .int x635), (0, .ref g), (1, .int x), (2, .int x2), (3, .int x3), (4, .int x4)]) hx hb dX10_mostAlike_86 hl (k := 0) rfl (nI_1 2) (by decide) rfl (fun ls hl => ?_)
                        refine lv_goto (tgt := 47) hx hb dX10_mostAlike_89 (by decide) ?_
                        exact ihj92 3 x1613 H locs ls (by omega) (by omega)  (hP.sub [0, 1, 2, 3, 7, 4, 5, 6] rfl) (hD.sub [0, 1, 2, 3, 7, 4, 5, 6] (by decide) rfl) hS (lv_sub hl [0, 1, 2, 3, 4, 5, 6, 7, 8, 9] rfl)
                      · skip
                        refine lv_iinc (v := (x1613 + 1)) (lv' := [(8, .int (x1613 + 1)), (9, .int (nI 2)), (7, .int (if ((if 0 < ((x3 - (2 * x2)) - x4) then ((x3 - (2 * x2)) - x4) else 0) + x4) < x3 then ((if 0 < ((x3 - (2 * x2)) - x4) then ((x3 - (2 * x2)) - x4) else 0) + x4) else x3)), (6, .int (nI 3)), (5, .int x635), (0, .ref g), (1, .int x), (2, .int x2), (3, .int x3), (4, .int x4)]) hx hb dX10_mostAlike_83 hl (k := 1) rfl (rfl) (by decide) rfl (fun ls hl => ?_)
                        refine lv_iinc (v := (nI 3)) (lv' := [(9, .int (nI 3)), (8, .int (x1613 + 1)), (7, .int (if ((if 0 < ((x3 - (2 * x2)) - x4) then ((x3 - (2 * x2)) - x4) else 0) + x4) < x3 then ((if 0 < ((x3 - (2 * x2)) - x4) then ((x3 - (2 * x2)) - x4) else 0) + x4) else x3)), (6, .int (nI 3)), (5, .int x635), (0, .ref g), (1, .int x), (2, .int x2), (3, .int x3), (4, .int x4)]) hx hb dX10_mostAlike_86 hl (k := 1) rfl (nI_1 2) (by decide) rfl (fun ls hl => ?_)
                        refine lv_goto (tgt := 47) hx hb dX10_mostAlike_89 (by decide) ?_
                        exact ihj92 3 (x1613 + 1) H locs ls (by omega) (by omega)  (hP.sub [0, 1, 2, 3, 7, 4, 5, 6] rfl) (hD.sub [0, 1, 2, 3, 7, 4, 5, 6] (by decide) rfl) hS (lv_sub hl [0, 1, 2, 3, 4, 5, 6, 7, 8, 9] rfl)
                    · skip
                      refine va_aldq hx hb hK hP 1 5 rfl rfl (vp_in_nI (by omega) (by decide)) dX10_mostAlike_70 ?_
                      rw [nI_clamp (n := 3) (by omega), show va_rf (fq 3) = .ref k3 from congrArg va_rf hq3]
                      refine lv_iload_n hx hb dX10_mostAlike_71 rfl (lv_at hl 7 rfl) ?_
                      refine lv_iload_n hx hb dX10_mostAlike_72 rfl (lv_at hl 8 rfl) ?_
                      refine lv_iload hx hb dX10_mostAlike_73 (lv_at hl 9 rfl) ?_
                      have hs1666 : kw_Split [(g, .inr (10, [.ref kk, .ref nw, .ref im, .ref kp, .ref tx, .ref tr, .ref be, .ref sh, .ref sd, .ref rf, .int ab, .int bl])), (kk, .inl (y 5, 6, .inr (.inr (.inr (.inr fq))))), (k0, .inr (5, [])), (k1, .inr (8, [])), (k2, .inr (9, [])), (k4, .inr (2, [])), (k5, .inr (3, [])), (k3, .inr (6, []))] [(k3, .inr (6, []))] [(g, .inr (10, [.ref kk, .ref nw, .ref im, .ref kp, .ref tx, .ref tr, .ref be, .ref sh, .ref sd, .ref rf, .int ab, .int bl])), (kk, .inl (y 5, 6, .inr (.inr (.inr (.inr fq))))), (k0, .inr (5, [])), (k1, .inr (8, [])), (k2, .inr (9, [])), (k4, .inr (2, [])), (k5, .inr (3, []))] [7] [0, 1, 2, 3, 4, 5, 6] := ⟨rfl, rfl, rfl, rfl, rfl, by decide⟩
                      refine kw_go_i hs1666 hP hD hS hA (va_runU (As := [.int x2, .int x3, .int x4]) (rest := []) ⟨hx, hb, hml, hown, hts⟩ (gc_Puddle_on6 l D y k3 x2 x3 x4  _) (va_cwO 3 hts gX10_mostAlike_X6_sight_u325X6 rfl rfl rfl (List.mem_of_getElem? (i := 24) rfl) (by decide +kernel) ⟨Nat.le_of_ble_eq_true rfl, Nat.le_of_ble_eq_true rfl⟩) (kw_PreV (ci := 6) (q0 := 7) hs1666 hP hD hK hN rfl rfl) rfl rfl hl.1 rfl (lv_room (Nat.le_of_ble_eq_true rfl)) dX10_mostAlike_75 ⟨Nat.le_of_ble_eq_true rfl, Nat.le_of_ble_eq_true rfl⟩) (fun r1667 u1668 H locs hq hP hD hS => ?_)
                      obtain rfl := hq
                      have hP : va_P D vwCl [(g, .inr (10, [.ref kk, .ref nw, .ref im, .ref kp, .ref tx, .ref tr, .ref be, .ref sh, .ref sd, .ref rf, .int ab, .int bl])), (kk, .inl (y 5, 6, .inr (.inr (.inr (.inr fq))))), (k0, .inr (5, [])), (k1, .inr (8, [])), (k2, .inr (9, [])), (k4, .inr (2, [])), (k5, .inr (3, [])), (k3, .inr (6, []))] H := hP
                      have hD : va_D A [(g, .inr (10, [.ref kk, .ref nw, .ref im, .ref kp, .ref tx, .ref tr, .ref be, .ref sh, .ref sd, .ref rf, .int ab, .int bl])), (kk, .inl (y 5, 6, .inr (.inr (.inr (.inr fq))))), (k0, .inr (5, [])), (k1, .inr (8, [])), (k2, .inr (9, [])), (k4, .inr (2, [])), (k5, .inr (3, [])), (k3, .inr (6, []))] := hD
                      refine lv_iload hx hb dX10_mostAlike_78 (lv_at hl 2 rfl) ?_
                      refine lv_icmp_ne (tgt := 86) hx hb dX10_mostAlike_80 (by decide) (fun h9 => absurd rfl h9) (fun _ => ?_)
                      refine lv_iinc (v := (x1613 + 1)) (lv' := [(8, .int (x1613 + 1)), (9, .int (nI 3)), (7, .int (if ((if 0 < ((x3 - (2 * x2)) - x4) then ((x3 - (2 * x2)) - x4) else 0) + x4) < x3 then ((if 0 < ((x3 - (2 * x2)) - x4) then ((x3 - (2 * x2)) - x4) else 0) + x4) else x3)), (6, .int (nI 3)), (5, .int x635), (0, .ref g), (1, .int x), (2, .int x2), (3, .int x3), (4, .int x4)]) hx hb dX10_mostAlike_83 hl (k := 1) rfl (rfl) (by decide) rfl (fun ls hl => ?_)
                      refine lv_iinc (v := (nI 4)) (lv' := [(9, .int (nI 4)), (8, .int (x1613 + 1)), (7, .int (if ((if 0 < ((x3 - (2 * x2)) - x4) then ((x3 - (2 * x2)) - x4) else 0) + x4) < x3 then ((if 0 < ((x3 - (2 * x2)) - x4) then ((x3 - (2 * x2)) - x4) else 0) + x4) else x3)), (6, .int (nI 3)), (5, .int x635), (0, .ref g), (1, .int x), (2, .int x2), (3, .int x3), (4, .int x4)]) hx hb dX10_mostAlike_86 hl (k := 1) rfl (nI_1 3) (by decide) rfl (fun ls hl => ?_)
                      refine lv_goto (tgt := 47) hx hb dX10_mostAlike_89 (by decide) ?_
                      exact ihj92 4 (x1613 + 1) H locs ls (by omega) (by omega)  (hP.sub [0, 1, 2, 3, 4, 5, 6, 7] rfl) (hD.sub [0, 1, 2, 3, 4, 5, 6, 7] (by decide) rfl) hS (lv_sub hl [0, 1, 2, 3, 4, 5, 6, 7, 8, 9] rfl)
                    · skip
                      refine va_aldq hx hb hK hP 1 5 rfl rfl (vp_in_nI (by omega) (by decide)) dX10_mostAlike_70 ?_
                      rw [nI_clamp (n := 4) (by omega), show va_rf (fq 4) = .ref k4 from congrArg va_rf hq4]
                      refine lv_iload_n hx hb dX10_mostAlike_71 rfl (lv_at hl 7 rfl) ?_
                      refine lv_iload_n hx hb dX10_mostAlike_72 rfl (lv_at hl 8 rfl) ?_
                      refine lv_iload hx hb dX10_mostAlike_73 (lv_at hl 9 rfl) ?_
                      have hs1669 : kw_Split [(g, .inr (10, [.ref kk, .ref nw, .ref im, .ref kp, .ref tx, .ref tr, .ref be, .ref sh, .ref sd, .ref rf, .int ab, .int bl])), (kk, .inl (y 5, 6, .inr (.inr (.inr (.inr fq))))), (k0, .inr (5, [])), (k1, .inr (8, [])), (k2, .inr (9, [])), (k4, .inr (2, [])), (k5, .inr (3, [])), (k3, .inr (6, []))] [(k4, .inr (2, []))] [(g, .inr (10, [.ref kk, .ref nw, .ref im, .ref kp, .ref tx, .ref tr, .ref be, .ref sh, .ref sd, .ref rf, .int ab, .int bl])), (kk, .inl (y 5, 6, .inr (.inr (.inr (.inr fq))))), (k0, .inr (5, [])), (k1, .inr (8, [])), (k2, .inr (9, [])), (k5, .inr (3, [])), (k3, .inr (6, []))] [5] [0, 1, 2, 3, 4, 6, 7] := ⟨rfl, rfl, rfl, rfl, rfl, by decide⟩
                      refine kw_go_i hs1669 hP hD hS hA (va_runU (As := [.int x2, .int x3, .int x4]) (rest := []) ⟨hx, hb, hml, hown, hts⟩ (gc_Hill_on2 l D y k4 x2 x3 x4  _) (va_cwO 3 hts gX10_mostAlike_X2_sight_u325X2 rfl rfl rfl (List.mem_of_getElem? (i := 24) rfl) (by decide +kernel) ⟨Nat.le_of_ble_eq_true rfl, Nat.le_of_ble_eq_true rfl⟩) (kw_PreV (ci := 2) (q0 := 5) hs1669 hP hD hK hN rfl rfl) rfl rfl hl.1 rfl (lv_room (Nat.le_of_ble_eq_true rfl)) dX10_mostAlike_75 ⟨Nat.le_of_ble_eq_true rfl, Nat.le_of_ble_eq_true rfl⟩) (fun r1670 u1671 H locs hq hP hD hS => ?_)
                      have hP : va_P D vwCl [(g, .inr (10, [.ref kk, .ref nw, .ref im, .ref kp, .ref tx, .ref tr, .ref be, .ref sh, .ref sd, .ref rf, .int ab, .int bl])), (kk, .inl (y 5, 6, .inr (.inr (.inr (.inr fq))))), (k0, .inr (5, [])), (k1, .inr (8, [])), (k2, .inr (9, [])), (k5, .inr (3, [])), (k3, .inr (6, [])), (k4, .inr (2, []))] H := hP
                      have hD : va_D A [(g, .inr (10, [.ref kk, .ref nw, .ref im, .ref kp, .ref tx, .ref tr, .ref be, .ref sh, .ref sd, .ref rf, .int ab, .int bl])), (kk, .inl (y 5, 6, .inr (.inr (.inr (.inr fq))))), (k0, .inr (5, [])), (k1, .inr (8, [])), (k2, .inr (9, [])), (k5, .inr (3, [])), (k3, .inr (6, [])), (k4, .inr (2, []))] := hD
                      refine lv_iload hx hb dX10_mostAlike_78 (lv_at hl 2 rfl) ?_
                      refine lv_icmp_ne (tgt := 86) hx hb dX10_mostAlike_80 (by decide) (fun h1672 => ?_) (fun h1673 => ?_)
                      · skip
                        refine lv_iinc (v := (nI 5)) (lv' := [(9, .int (nI 5)), (8, .int x1613), (7, .int (if ((if 0 < ((x3 - (2 * x2)) - x4) then ((x3 - (2 * x2)) - x4) else 0) + x4) < x3 then ((if 0 < ((x3 - (2 * x2)) - x4) then ((x3 - (2 * x2)) - x4) else 0) + x4) else x3)), (6, .int (nI 3)), (5, .int x635), (0, .ref g), (1, .int x), (2, .int x2), (3, .int x3), (4, .int x4)]) hx hb dX10_mostAlike_86 hl (k := 0) rfl (nI_1 4) (by decide) rfl (fun ls hl => ?_)
                        refine lv_goto (tgt := 47) hx hb dX10_mostAlike_89 (by decide) ?_
                        exact ihj92 5 x1613 H locs ls (by omega) (by omega)  (hP.sub [0, 1, 2, 3, 4, 7, 5, 6] rfl) (hD.sub [0, 1, 2, 3, 4, 7, 5, 6] (by decide) rfl) hS (lv_sub hl [0, 1, 2, 3, 4, 5, 6, 7, 8, 9] rfl)
                      · skip
                        refine lv_iinc (v := (x1613 + 1)) (lv' := [(8, .int (x1613 + 1)), (9, .int (nI 4)), (7, .int (if ((if 0 < ((x3 - (2 * x2)) - x4) then ((x3 - (2 * x2)) - x4) else 0) + x4) < x3 then ((if 0 < ((x3 - (2 * x2)) - x4) then ((x3 - (2 * x2)) - x4) else 0) + x4) else x3)), (6, .int (nI 3)), (5, .int x635), (0, .ref g), (1, .int x), (2, .int x2), (3, .int x3), (4, .int x4)]) hx hb dX10_mostAlike_83 hl (k := 1) rfl (rfl) (by decide) rfl (fun ls hl => ?_)
                        refine lv_iinc (v := (nI 5)) (lv' := [(9, .int (nI 5)), (8, .int (x1613 + 1)), (7, .int (if ((if 0 < ((x3 - (2 * x2)) - x4) then ((x3 - (2 * x2)) - x4) else 0) + x4) < x3 then ((if 0 < ((x3 - (2 * x2)) - x4) then ((x3 - (2 * x2)) - x4) else 0) + x4) else x3)), (6, .int (nI 3)), (5, .int x635), (0, .ref g), (1, .int x), (2, .int x2), (3, .int x3), (4, .int x4)]) hx hb dX10_mostAlike_86 hl (k := 1) rfl (nI_1 4) (by decide) rfl (fun ls hl => ?_)
                        refine lv_goto (tgt := 47) hx hb dX10_mostAlike_89 (by decide) ?_
                        exact ihj92 5 (x1613 + 1) H locs ls (by omega) (by omega)  (hP.sub [0, 1, 2, 3, 4, 7, 5, 6] rfl) (hD.sub [0, 1, 2, 3, 4, 7, 5, 6] (by decide) rfl) hS (lv_sub hl [0, 1, 2, 3, 4, 5, 6, 7, 8, 9] rfl)
                    · skip
                      refine va_aldq hx hb hK hP 1 5 rfl rfl (vp_in_nI (by omega) (by decide)) dX10_mostAlike_70 ?_
                      rw [nI_clamp (n := 5) (by omega), show va_rf (fq 5) = .ref k5 from congrArg va_rf hq5]
                      refine lv_iload_n hx hb dX10_mostAlike_71 rfl (lv_at hl 7 rfl) ?_
                      refine lv_iload_n hx hb dX10_mostAlike_72 rfl (lv_at hl 8 rfl) ?_
                      refine lv_iload hx hb dX10_mostAlike_73 (lv_at hl 9 rfl) ?_
                      have hs1674 : kw_Split [(g, .inr (10, [.ref kk, .ref nw, .ref im, .ref kp, .ref tx, .ref tr, .ref be, .ref sh, .ref sd, .ref rf, .int ab, .int bl])), (kk, .inl (y 5, 6, .inr (.inr (.inr (.inr fq))))), (k0, .inr (5, [])), (k1, .inr (8, [])), (k2, .inr (9, [])), (k4, .inr (2, [])), (k5, .inr (3, [])), (k3, .inr (6, []))] [(k5, .inr (3, []))] [(g, .inr (10, [.ref kk, .ref nw, .ref im, .ref kp, .ref tx, .ref tr, .ref be, .ref sh, .ref sd, .ref rf, .int ab, .int bl])), (kk, .inl (y 5, 6, .inr (.inr (.inr (.inr fq))))), (k0, .inr (5, [])), (k1, .inr (8, [])), (k2, .inr (9, [])), (k4, .inr (2, [])), (k3, .inr (6, []))] [6] [0, 1, 2, 3, 4, 5, 7] := ⟨rfl, rfl, rfl, rfl, rfl, by decide⟩
                      refine kw_go_i hs1674 hP hD hS hA (va_runU (As := [.int x2, .int x3, .int x4]) (rest := []) ⟨hx, hb, hml, hown, hts⟩ (gc_Lane_on3 l D y k5 x2 x3 x4  _) (va_cwO 3 hts gX10_mostAlike_X3_sight_u325X3 rfl rfl rfl (List.mem_of_getElem? (i := 24) rfl) (by decide +kernel) ⟨Nat.le_of_ble_eq_true rfl, Nat.le_of_ble_eq_true rfl⟩) (kw_PreV (ci := 3) (q0 := 6) hs1674 hP hD hK hN rfl rfl) rfl rfl hl.1 rfl (lv_room (Nat.le_of_ble_eq_true rfl)) dX10_mostAlike_75 ⟨Nat.le_of_ble_eq_true rfl, Nat.le_of_ble_eq_true rfl⟩) (fun r1675 u1676 H locs hq hP hD hS => ?_)
                      have hP : va_P D vwCl [(g, .inr (10, [.ref kk, .ref nw, .ref im, .ref kp, .ref tx, .ref tr, .ref be, .ref sh, .ref sd, .ref rf, .int ab, .int bl])), (kk, .inl (y 5, 6, .inr (.inr (.inr (.inr fq))))), (k0, .inr (5, [])), (k1, .inr (8, [])), (k2, .inr (9, [])), (k4, .inr (2, [])), (k3, .inr (6, [])), (k5, .inr (3, []))] H := hP
                      have hD : va_D A [(g, .inr (10, [.ref kk, .ref nw, .ref im, .ref kp, .ref tx, .ref tr, .ref be, .ref sh, .ref sd, .ref rf, .int ab, .int bl])), (kk, .inl (y 5, 6, .inr (.inr (.inr (.inr fq))))), (k0, .inr (5, [])), (k1, .inr (8, [])), (k2, .inr (9, [])), (k4, .inr (2, [])), (k3, .inr (6, [])), (k5, .inr (3, []))] := hD
                      refine lv_iload hx hb dX10_mostAlike_78 (lv_at hl 2 rfl) ?_
                      refine lv_icmp_ne (tgt := 86) hx hb dX10_mostAlike_80 (by decide) (fun h1677 => ?_) (fun h1678 => ?_)
                      · skip
                        refine lv_iinc (v := (nI 6)) (lv' := [(9, .int (nI 6)), (8, .int x1613), (7, .int (if ((if 0 < ((x3 - (2 * x2)) - x4) then ((x3 - (2 * x2)) - x4) else 0) + x4) < x3 then ((if 0 < ((x3 - (2 * x2)) - x4) then ((x3 - (2 * x2)) - x4) else 0) + x4) else x3)), (6, .int (nI 3)), (5, .int x635), (0, .ref g), (1, .int x), (2, .int x2), (3, .int x3), (4, .int x4)]) hx hb dX10_mostAlike_86 hl (k := 0) rfl (nI_1 5) (by decide) rfl (fun ls hl => ?_)
                        refine lv_goto (tgt := 47) hx hb dX10_mostAlike_89 (by decide) ?_
                        exact ihj92 6 x1613 H locs ls (by omega) (by omega)  (hP.sub [0, 1, 2, 3, 4, 5, 7, 6] rfl) (hD.sub [0, 1, 2, 3, 4, 5, 7, 6] (by decide) rfl) hS (lv_sub hl [0, 1, 2, 3, 4, 5, 6, 7, 8, 9] rfl)
                      · skip
                        refine lv_iinc (v := (x1613 + 1)) (lv' := [(8, .int (x1613 + 1)), (9, .int (nI 5)), (7, .int (if ((if 0 < ((x3 - (2 * x2)) - x4) then ((x3 - (2 * x2)) - x4) else 0) + x4) < x3 then ((if 0 < ((x3 - (2 * x2)) - x4) then ((x3 - (2 * x2)) - x4) else 0) + x4) else x3)), (6, .int (nI 3)), (5, .int x635), (0, .ref g), (1, .int x), (2, .int x2), (3, .int x3), (4, .int x4)]) hx hb dX10_mostAlike_83 hl (k := 1) rfl (rfl) (by decide) rfl (fun ls hl => ?_)
                        refine lv_iinc (v := (nI 6)) (lv' := [(9, .int (nI 6)), (8, .int (x1613 + 1)), (7, .int (if ((if 0 < ((x3 - (2 * x2)) - x4) then ((x3 - (2 * x2)) - x4) else 0) + x4) < x3 then ((if 0 < ((x3 - (2 * x2)) - x4) then ((x3 - (2 * x2)) - x4) else 0) + x4) else x3)), (6, .int (nI 3)), (5, .int x635), (0, .ref g), (1, .int x), (2, .int x2), (3, .int x3), (4, .int x4)]) hx hb dX10_mostAlike_86 hl (k := 1) rfl (nI_1 5) (by decide) rfl (fun ls hl => ?_)
                        refine lv_goto (tgt := 47) hx hb dX10_mostAlike_89 (by decide) ?_
                        exact ihj92 6 (x1613 + 1) H locs ls (by omega) (by omega)  (hP.sub [0, 1, 2, 3, 4, 5, 7, 6] rfl) (hD.sub [0, 1, 2, 3, 4, 5, 7, 6] (by decide) rfl) hS (lv_sub hl [0, 1, 2, 3, 4, 5, 6, 7, 8, 9] rfl)
            exact lp1646 (6 + 1) 0 0 _ _ _ (by omega) (by omega)  hP hD hS (lv_sub hl [0, 1, 2, 3, 4, 5, 6, 7, 8, 9] rfl)
          · skip
            refine va_aldq hx hb hK hP 1 5 rfl rfl (vp_in_nI (by omega) (by decide)) dX10_mostAlike_31 ?_
            rw [nI_clamp (n := 4) (by omega), show va_rf (fq 4) = .ref k4 from congrArg va_rf hq4]
            refine lv_iload_n hx hb dX10_mostAlike_32 rfl (lv_at hl 4 rfl) ?_
            refine lv_iload_n hx hb dX10_mostAlike_33 rfl (lv_at hl 5 rfl) ?_
            refine lv_iload hx hb dX10_mostAlike_34 (lv_at hl 6 rfl) ?_
            have hs1679 : kw_Split [(g, .inr (10, [.ref kk, .ref nw, .ref im, .ref kp, .ref tx, .ref tr, .ref be, .ref sh, .ref sd, .ref rf, .int ab, .int bl])), (kk, .inl (y 5, 6, .inr (.inr (.inr (.inr fq))))), (k0, .inr (5, [])), (k1, .inr (8, [])), (k2, .inr (9, [])), (k3, .inr (6, [])), (k4, .inr (2, [])), (k5, .inr (3, []))] [(k4, .inr (2, []))] [(g, .inr (10, [.ref kk, .ref nw, .ref im, .ref kp, .ref tx, .ref tr, .ref be, .ref sh, .ref sd, .ref rf, .int ab, .int bl])), (kk, .inl (y 5, 6, .inr (.inr (.inr (.inr fq))))), (k0, .inr (5, [])), (k1, .inr (8, [])), (k2, .inr (9, [])), (k3, .inr (6, [])), (k5, .inr (3, []))] [6] [0, 1, 2, 3, 4, 5, 7] := ⟨rfl, rfl, rfl, rfl, rfl, by decide⟩
            refine kw_go_i hs1679 hP hD hS hA (va_runU (As := [.int x2, .int x3, .int x4]) (rest := []) ⟨hx, hb, hml, hown, hts⟩ (gc_Hill_on2 l D y k4 x2 x3 x4  _) (va_cwO 3 hts gX10_mostAlike_X2_sight_u325X2 rfl rfl rfl (List.mem_of_getElem? (i := 24) rfl) (by decide +kernel) ⟨Nat.le_of_ble_eq_true rfl, Nat.le_of_ble_eq_true rfl⟩) (kw_PreV (ci := 2) (q0 := 6) hs1679 hP hD hK hN rfl rfl) rfl rfl hl.1 rfl (lv_room (Nat.le_of_ble_eq_true rfl)) dX10_mostAlike_36 ⟨Nat.le_of_ble_eq_true rfl, Nat.le_of_ble_eq_true rfl⟩) (fun r1680 u1681 H locs hq hP hD hS => ?_)
            have hP : va_P D vwCl [(g, .inr (10, [.ref kk, .ref nw, .ref im, .ref kp, .ref tx, .ref tr, .ref be, .ref sh, .ref sd, .ref rf, .int ab, .int bl])), (kk, .inl (y 5, 6, .inr (.inr (.inr (.inr fq))))), (k0, .inr (5, [])), (k1, .inr (8, [])), (k2, .inr (9, [])), (k3, .inr (6, [])), (k5, .inr (3, [])), (k4, .inr (2, []))] H := hP
            have hD : va_D A [(g, .inr (10, [.ref kk, .ref nw, .ref im, .ref kp, .ref tx, .ref tr, .ref be, .ref sh, .ref sd, .ref rf, .int ab, .int bl])), (kk, .inl (y 5, 6, .inr (.inr (.inr (.inr fq))))), (k0, .inr (5, [])), (k1, .inr (8, [])), (k2, .inr (9, [])), (k3, .inr (6, [])), (k5, .inr (3, [])), (k4, .inr (2, []))] := hD
            refine lv_istore (lv' := [(7, .int r1680), (6, .int (nI 4)), (5, .int x635), (0, .ref g), (1, .int x), (2, .int x2), (3, .int x3), (4, .int x4)]) hx hb dX10_mostAlike_39 hl (by decide) rfl (fun ls hl => ?_)
            refine lv_iconst (v := 0) hx hb dX10_mostAlike_41 (by decide) ?_
            refine lv_istore (lv' := [(8, .int 0), (7, .int r1680), (6, .int (nI 4)), (5, .int x635), (0, .ref g), (1, .int x), (2, .int x2), (3, .int x3), (4, .int x4)]) hx hb dX10_mostAlike_42 hl (by decide) rfl (fun ls hl => ?_)
            refine lv_iconst (v := 0) hx hb dX10_mostAlike_44 (by decide) ?_
            refine lv_istore (lv' := [(9, .int 0), (8, .int 0), (7, .int r1680), (6, .int (nI 4)), (5, .int x635), (0, .ref g), (1, .int x), (2, .int x2), (3, .int x3), (4, .int x4)]) hx hb dX10_mostAlike_45 hl (by decide) rfl (fun ls hl => ?_)
            have lp1751 : ∀ (fuj92 j92 : Nat) (x1716 : Int32) (H : Heap) (locs : List Loc) (ls : Array Slot), j92 ≤ 6 → 6 - j92 < fuj92 → va_P D vwCl [(g, .inr (10, [.ref kk, .ref nw, .ref im, .ref kp, .ref tx, .ref tr, .ref be, .ref sh, .ref sd, .ref rf, .int ab, .int bl])), (kk, .inl (y 5, 6, .inr (.inr (.inr (.inr fq))))), (k0, .inr (5, [])), (k1, .inr (8, [])), (k2, .inr (9, [])), (k3, .inr (6, [])), (k5, .inr (3, [])), (k4, .inr (2, []))] H → va_D A [(g, .inr (10, [.ref kk, .ref nw, .ref im, .ref kp, .ref tx, .ref tr, .ref be, .ref sh, .ref sd, .ref rf, .int ab, .int bl])), (kk, .inl (y 5, 6, .inr (.inr (.inr (.inr fq))))), (k0, .inr (5, [])), (k1, .inr (8, [])), (k2, .inr (9, [])), (k3, .inr (6, [])), (k5, .inr (3, [])), (k4, .inr (2, []))] → va_S A s.heap H locs → lv_has ls 10 [(9, .int (nI j92)), (8, .int x1716), (7, .int r1680), (6, .int (nI 4)), (5, .int x635), (0, .ref g), (1, .int x), (2, .int x2), (3, .int x3), (4, .int x4)] → W pZ l eZ ({ frames := 4, cells := 0, slots := 0, locals := 130 }) s mZ [.ref g, .int x, .int x2, .int x3, .int x4].toArray beZ meZ cZ H locs 0 0 (MQ beZ (va_Qi (fun (r : Int32) (u : Unit) => True) (kw_B D (fun _ => [(g, .inr (10, [.ref kk, .ref nw, .ref im, .ref kp, .ref tx, .ref tr, .ref be, .ref sh, .ref sd, .ref rf, .int ab, .int bl])), (kk, .inl (y 5, 6, .inr (.inr (.inr (.inr fq))))), (k0, .inr (5, [])), (k1, .inr (8, [])), (k2, .inr (9, [])), (k3, .inr (6, [])), (k4, .inr (2, [])), (k5, .inr (3, []))]) A) A) [.ref g, .int x, .int x2, .int x3, .int x4].toArray s 0 0 A) (F0 mZ 47 ls []) := by
              intro fuj92
              induction fuj92 with
              | zero => intro j92 x1716 H locs ls hj9 hf9; exact absurd hf9 (Nat.not_lt_zero _)
              | succ fuj92 ihj92 =>
                intro j92 x1716 H locs ls hj92 hfj92  hP hD hS hl
                refine lv_iload hx hb dX10_mostAlike_47 (lv_at hl 0 rfl) ?_
                refine lv_bipush (v := 6) hx hb dX10_mostAlike_49 (by decide) ?_
                refine lv_icmp_ge (tgt := 92) hx hb dX10_mostAlike_51 (by decide) (fun h1752 => ?_) (fun h1753 => ?_)
                · skip
                  have h1752 : 6 ≤ j92 := (nI_leI (a := 6) (b := j92) (by omega) (by omega)).mp h1752
                  refine lv_iload hx hb dX10_mostAlike_92 (lv_at hl 4 rfl) ?_
                  refine lv_iload hx hb dX10_mostAlike_94 (lv_at hl 1 rfl) ?_
                  refine va_mmax hx hb (hml.trans hl.1.symm) hown fw2 fw3 fw4 fw5 (Nat.le_of_ble_eq_true rfl) (Nat.le_of_ble_eq_true rfl) (Nat.le_of_ble_eq_true rfl) (Nat.le_of_ble_eq_true rfl) dX10_mostAlike_96 ?_
                  refine lv_istore (lv' := [(5, .int (if x635 < x1716 then x1716 else x635)), (9, .int (nI j92)), (8, .int x1716), (7, .int r1680), (6, .int (nI 4)), (0, .ref g), (1, .int x), (2, .int x2), (3, .int x3), (4, .int x4)]) hx hb dX10_mostAlike_99 hl (by decide) rfl (fun ls hl => ?_)
                  refine lv_iinc (v := (nI 5)) (lv' := [(6, .int (nI 5)), (5, .int (if x635 < x1716 then x1716 else x635)), (9, .int (nI j92)), (8, .int x1716), (7, .int r1680), (0, .ref g), (1, .int x), (2, .int x2), (3, .int x3), (4, .int x4)]) hx hb dX10_mostAlike_101 hl (k := 4) rfl (nI_1 4) (by decide) rfl (fun ls hl => ?_)
                  refine lv_goto (tgt := 6) hx hb dX10_mostAlike_104 (by decide) ?_
                  exact ihj91 5 (if x635 < x1716 then x1716 else x635) H locs ls (by omega) (by omega)  (hP.sub [0, 1, 2, 3, 4, 5, 7, 6] rfl) (hD.sub [0, 1, 2, 3, 4, 5, 7, 6] (by decide) rfl) hS (lv_sub hl [0, 1, 5, 6, 7, 8, 9] rfl)
                · skip
                  have h1753 : ¬ 6 ≤ j92 := fun q9 => h1753 ((nI_leI (a := 6) (b := j92) (by omega) (by omega)).mpr q9)
                  refine lv_iload_n hx hb dX10_mostAlike_54 rfl (lv_at hl 6 rfl) ?_
                  refine lv_iload hx hb dX10_mostAlike_55 (lv_at hl 0 rfl) ?_
                  refine lv_ishr hx hb dX10_mostAlike_57 ?_
                  refine lv_iconst (v := 1) hx hb dX10_mostAlike_58 (by decide) ?_
                  refine lv_iand hx hb dX10_mostAlike_59 ?_
                  refine lv_iconst (v := 1) hx hb dX10_mostAlike_60 (by decide) ?_
                  refine lv_icmp_ne (tgt := 86) hx hb dX10_mostAlike_61 (by decide) (fun h1754 => ?_) (fun h1755 => ?_)
                  · skip
                    refine lv_iinc (v := (nI (j92 + 1))) (lv' := [(9, .int (nI (j92 + 1))), (8, .int x1716), (7, .int r1680), (6, .int (nI 4)), (5, .int x635), (0, .ref g), (1, .int x), (2, .int x2), (3, .int x3), (4, .int x4)]) hx hb dX10_mostAlike_86 hl (k := 0) rfl (nI_1 j92) (by decide) rfl (fun ls hl => ?_)
                    refine lv_goto (tgt := 47) hx hb dX10_mostAlike_89 (by decide) ?_
                    exact ihj92 (j92 + 1) x1716 H locs ls (by omega) (by omega)  (hP.sub [0, 1, 2, 3, 4, 5, 6, 7] rfl) (hD.sub [0, 1, 2, 3, 4, 5, 6, 7] (by decide) rfl) hS (lv_sub hl [0, 1, 2, 3, 4, 5, 6, 7, 8, 9] rfl)
                  · skip
                    refine lv_aload_n hx hb dX10_mostAlike_64 rfl (lv_at hl 5 rfl) ?_
                    refine va_get (D := D) (ci := 10) (v := .ref kk) (C := RX10) (T := TX10) (N := 12) hx hb hts iw10 hown hK hP 0 rfl rfl 0 (by decide) fw1 (fun _ h9 => h9) rfl dX10_mostAlike_65 ?_
                    refine lv_iload hx hb dX10_mostAlike_68 (lv_at hl 0 rfl) ?_
                    rcases (show j92 = 0 ∨ j92 = 1 ∨ j92 = 2 ∨ j92 = 3 ∨ j92 = 4 ∨ j92 = 5 by omega) with rfl | rfl | rfl | rfl | rfl | rfl
                    · skip
                      refine va_aldq hx hb hK hP 1 5 rfl rfl (vp_in_nI (by omega) (by decide)) dX10_mostAlike_70 ?_
                      rw [nI_clamp (n := 0) (by omega), show va_rf (fq 0) = .ref k0 from congrArg va_rf hq0]
                      refine lv_iload_n hx hb dX10_mostAlike_71 rfl (lv_at hl 7 rfl) ?_
                      refine lv_iload_n hx hb dX10_mostAlike_72 rfl (lv_at hl 8 rfl) ?_
                      refine lv_iload hx hb dX10_mostAlike_73 (lv_at hl 9 rfl) ?_
                      have hs1756 : kw_Split [(g, .inr (10, [.ref kk, .ref nw, .ref im, .ref kp, .ref tx, .ref tr, .ref be, .ref sh, .ref sd, .ref rf, .int ab, .int bl])), (kk, .inl (y 5, 6, .inr (.inr (.inr (.inr fq))))), (k0, .inr (5, [])), (k1, .inr (8, [])), (k2, .inr (9, [])), (k3, .inr (6, [])), (k5, .inr (3, [])), (k4, .inr (2, []))] [(k0, .inr (5, []))] [(g, .inr (10, [.ref kk, .ref nw, .ref im, .ref kp, .ref tx, .ref tr, .ref be, .ref sh, .ref sd, .ref rf, .int ab, .int bl])), (kk, .inl (y 5, 6, .inr (.inr (.inr (.inr fq))))), (k1, .inr (8, [])), (k2, .inr (9, [])), (k3, .inr (6, [])), (k5, .inr (3, [])), (k4, .inr (2, []))] [2] [0, 1, 3, 4, 5, 6, 7] := ⟨rfl, rfl, rfl, rfl, rfl, by decide⟩
                      refine kw_go_i hs1756 hP hD hS hA (va_runV (As := [.int x2, .int x3, .int x4]) (rest := []) ⟨hx, hb, hml, hown, hts⟩ (gc_Plain_on5 l D y k0 x2 x3 x4  _) (cwV 3 hts gX10_mostAlike_X5_sight rfl rfl rfl (by decide +kernel) ⟨Nat.le_of_ble_eq_true rfl, Nat.le_of_ble_eq_true rfl⟩) (kw_PreV (ci := 5) (q0 := 2) hs1756 hP hD hK hN rfl rfl) rfl rfl hl.1 rfl (lv_room (Nat.le_of_ble_eq_true rfl)) dX10_mostAlike_75 ⟨Nat.le_of_ble_eq_true rfl, Nat.le_of_ble_eq_true rfl⟩) (fun r1757 u1758 H locs hq hP hD hS => ?_)
                      obtain rfl := hq
                      have hP : va_P D vwCl [(g, .inr (10, [.ref kk, .ref nw, .ref im, .ref kp, .ref tx, .ref tr, .ref be, .ref sh, .ref sd, .ref rf, .int ab, .int bl])), (kk, .inl (y 5, 6, .inr (.inr (.inr (.inr fq))))), (k1, .inr (8, [])), (k2, .inr (9, [])), (k3, .inr (6, [])), (k5, .inr (3, [])), (k4, .inr (2, [])), (k0, .inr (5, []))] H := hP
                      have hD : va_D A [(g, .inr (10, [.ref kk, .ref nw, .ref im, .ref kp, .ref tx, .ref tr, .ref be, .ref sh, .ref sd, .ref rf, .int ab, .int bl])), (kk, .inl (y 5, 6, .inr (.inr (.inr (.inr fq))))), (k1, .inr (8, [])), (k2, .inr (9, [])), (k3, .inr (6, [])), (k5, .inr (3, [])), (k4, .inr (2, [])), (k0, .inr (5, []))] := hD
                      refine lv_iload hx hb dX10_mostAlike_78 (lv_at hl 2 rfl) ?_
                      refine lv_icmp_ne (tgt := 86) hx hb dX10_mostAlike_80 (by decide) (fun h1759 => ?_) (fun h1760 => ?_)
                      · skip
                        refine lv_iinc (v := (nI 1)) (lv' := [(9, .int (nI 1)), (8, .int x1716), (7, .int r1680), (6, .int (nI 4)), (5, .int x635), (0, .ref g), (1, .int x), (2, .int x2), (3, .int x3), (4, .int x4)]) hx hb dX10_mostAlike_86 hl (k := 0) rfl (nI_1 0) (by decide) rfl (fun ls hl => ?_)
                        refine lv_goto (tgt := 47) hx hb dX10_mostAlike_89 (by decide) ?_
                        exact ihj92 1 x1716 H locs ls (by omega) (by omega)  (hP.sub [0, 1, 7, 2, 3, 4, 5, 6] rfl) (hD.sub [0, 1, 7, 2, 3, 4, 5, 6] (by decide) rfl) hS (lv_sub hl [0, 1, 2, 3, 4, 5, 6, 7, 8, 9] rfl)
                      · skip
                        refine lv_iinc (v := (x1716 + 1)) (lv' := [(8, .int (x1716 + 1)), (9, .int (nI 0)), (7, .int r1680), (6, .int (nI 4)), (5, .int x635), (0, .ref g), (1, .int x), (2, .int x2), (3, .int x3), (4, .int x4)]) hx hb dX10_mostAlike_83 hl (k := 1) rfl (rfl) (by decide) rfl (fun ls hl => ?_)
                        refine lv_iinc (v := (nI 1)) (lv' := [(9, .int (nI 1)), (8, .int (x1716 + 1)), (7, .int r1680), (6, .int (nI 4)), (5, .int x635), (0, .ref g), (1, .int x), (2, .int x2), (3, .int x3), (4, .int x4)]) hx hb dX10_mostAlike_86 hl (k := 1) rfl (nI_1 0) (by decide) rfl (fun ls hl => ?_)
                        refine lv_goto (tgt := 47) hx hb dX10_mostAlike_89 (by decide) ?_
                        exact ihj92 1 (x1716 + 1) H locs ls (by omega) (by omega)  (hP.sub [0, 1, 7, 2, 3, 4, 5, 6] rfl) (hD.sub [0, 1, 7, 2, 3, 4, 5, 6] (by decide) rfl) hS (lv_sub hl [0, 1, 2, 3, 4, 5, 6, 7, 8, 9] rfl)
                    · skip
                      refine va_aldq hx hb hK hP 1 5 rfl rfl (vp_in_nI (by omega) (by decide)) dX10_mostAlike_70 ?_
                      rw [nI_clamp (n := 1) (by omega), show va_rf (fq 1) = .ref k1 from congrArg va_rf hq1]
                      refine lv_iload_n hx hb dX10_mostAlike_71 rfl (lv_at hl 7 rfl) ?_
                      refine lv_iload_n hx hb dX10_mostAlike_72 rfl (lv_at hl 8 rfl) ?_
                      refine lv_iload hx hb dX10_mostAlike_73 (lv_at hl 9 rfl) ?_
                      have hs1761 : kw_Split [(g, .inr (10, [.ref kk, .ref nw, .ref im, .ref kp, .ref tx, .ref tr, .ref be, .ref sh, .ref sd, .ref rf, .int ab, .int bl])), (kk, .inl (y 5, 6, .inr (.inr (.inr (.inr fq))))), (k0, .inr (5, [])), (k1, .inr (8, [])), (k2, .inr (9, [])), (k3, .inr (6, [])), (k5, .inr (3, [])), (k4, .inr (2, []))] [(k1, .inr (8, []))] [(g, .inr (10, [.ref kk, .ref nw, .ref im, .ref kp, .ref tx, .ref tr, .ref be, .ref sh, .ref sd, .ref rf, .int ab, .int bl])), (kk, .inl (y 5, 6, .inr (.inr (.inr (.inr fq))))), (k0, .inr (5, [])), (k2, .inr (9, [])), (k3, .inr (6, [])), (k5, .inr (3, [])), (k4, .inr (2, []))] [3] [0, 1, 2, 4, 5, 6, 7] := ⟨rfl, rfl, rfl, rfl, rfl, by decide⟩
                      refine kw_go_i hs1761 hP hD hS hA (va_runU (As := [.int x2, .int x3, .int x4]) (rest := []) ⟨hx, hb, hml, hown, hts⟩ (gc_West_on8 l D y k1 x2 x3 x4  _) (va_cwO 3 hts gX10_mostAlike_X8_sight_u325X8 rfl rfl rfl (List.mem_of_getElem? (i := 24) rfl) (by decide +kernel) ⟨Nat.le_of_ble_eq_true rfl, Nat.le_of_ble_eq_true rfl⟩) (kw_PreV (ci := 8) (q0 := 3) hs1761 hP hD hK hN rfl rfl) rfl rfl hl.1 rfl (lv_room (Nat.le_of_ble_eq_true rfl)) dX10_mostAlike_75 ⟨Nat.le_of_ble_eq_true rfl, Nat.le_of_ble_eq_true rfl⟩) (fun r1762 u1763 H locs hq hP hD hS => ?_)
                      have hP : va_P D vwCl [(g, .inr (10, [.ref kk, .ref nw, .ref im, .ref kp, .ref tx, .ref tr, .ref be, .ref sh, .ref sd, .ref rf, .int ab, .int bl])), (kk, .inl (y 5, 6, .inr (.inr (.inr (.inr fq))))), (k0, .inr (5, [])), (k2, .inr (9, [])), (k3, .inr (6, [])), (k5, .inr (3, [])), (k4, .inr (2, [])), (k1, .inr (8, []))] H := hP
                      have hD : va_D A [(g, .inr (10, [.ref kk, .ref nw, .ref im, .ref kp, .ref tx, .ref tr, .ref be, .ref sh, .ref sd, .ref rf, .int ab, .int bl])), (kk, .inl (y 5, 6, .inr (.inr (.inr (.inr fq))))), (k0, .inr (5, [])), (k2, .inr (9, [])), (k3, .inr (6, [])), (k5, .inr (3, [])), (k4, .inr (2, [])), (k1, .inr (8, []))] := hD
                      refine lv_iload hx hb dX10_mostAlike_78 (lv_at hl 2 rfl) ?_
                      refine lv_icmp_ne (tgt := 86) hx hb dX10_mostAlike_80 (by decide) (fun h1764 => ?_) (fun h1765 => ?_)
                      · skip
                        refine lv_iinc (v := (nI 2)) (lv' := [(9, .int (nI 2)), (8, .int x1716), (7, .int r1680), (6, .int (nI 4)), (5, .int x635), (0, .ref g), (1, .int x), (2, .int x2), (3, .int x3), (4, .int x4)]) hx hb dX10_mostAlike_86 hl (k := 0) rfl (nI_1 1) (by decide) rfl (fun ls hl => ?_)
                        refine lv_goto (tgt := 47) hx hb dX10_mostAlike_89 (by decide) ?_
                        exact ihj92 2 x1716 H locs ls (by omega) (by omega)  (hP.sub [0, 1, 2, 7, 3, 4, 5, 6] rfl) (hD.sub [0, 1, 2, 7, 3, 4, 5, 6] (by decide) rfl) hS (lv_sub hl [0, 1, 2, 3, 4, 5, 6, 7, 8, 9] rfl)
                      · skip
                        refine lv_iinc (v := (x1716 + 1)) (lv' := [(8, .int (x1716 + 1)), (9, .int (nI 1)), (7, .int r1680), (6, .int (nI 4)), (5, .int x635), (0, .ref g), (1, .int x), (2, .int x2), (3, .int x3), (4, .int x4)]) hx hb dX10_mostAlike_83 hl (k := 1) rfl (rfl) (by decide) rfl (fun ls hl => ?_)
                        refine lv_iinc (v := (nI 2)) (lv' := [(9, .int (nI 2)), (8, .int (x1716 + 1)), (7, .int r1680), (6, .int (nI 4)), (5, .int x635), (0, .ref g), (1, .int x), (2, .int x2), (3, .int x3), (4, .int x4)]) hx hb dX10_mostAlike_86 hl (k := 1) rfl (nI_1 1) (by decide) rfl (fun ls hl => ?_)
                        refine lv_goto (tgt := 47) hx hb dX10_mostAlike_89 (by decide) ?_
                        exact ihj92 2 (x1716 + 1) H locs ls (by omega) (by omega)  (hP.sub [0, 1, 2, 7, 3, 4, 5, 6] rfl) (hD.sub [0, 1, 2, 7, 3, 4, 5, 6] (by decide) rfl) hS (lv_sub hl [0, 1, 2, 3, 4, 5, 6, 7, 8, 9] rfl)
                    · skip
                      refine va_aldq hx hb hK hP 1 5 rfl rfl (vp_in_nI (by omega) (by decide)) dX10_mostAlike_70 ?_
                      rw [nI_clamp (n := 2) (by omega), show va_rf (fq 2) = .ref k2 from congrArg va_rf hq2]
                      refine lv_iload_n hx hb dX10_mostAlike_71 rfl (lv_at hl 7 rfl) ?_
                      refine lv_iload_n hx hb dX10_mostAlike_72 rfl (lv_at hl 8 rfl) ?_
                      refine lv_iload hx hb dX10_mostAlike_73 (lv_at hl 9 rfl) ?_
                      have hs1766 : kw_Split [(g, .inr (10, [.ref kk, .ref nw, .ref im, .ref kp, .ref tx, .ref tr, .ref be, .ref sh, .ref sd, .ref rf, .int ab, .int bl])), (kk, .inl (y 5, 6, .inr (.inr (.inr (.inr fq))))), (k0, .inr (5, [])), (k1, .inr (8, [])), (k2, .inr (9, [])), (k3, .inr (6, [])), (k5, .inr (3, [])), (k4, .inr (2, []))] [(k2, .inr (9, []))] [(g, .inr (10, [.ref kk, .ref nw, .ref im, .ref kp, .ref tx, .ref tr, .ref be, .ref sh, .ref sd, .ref rf, .int ab, .int bl])), (kk, .inl (y 5, 6, .inr (.inr (.inr (.inr fq))))), (k0, .inr (5, [])), (k1, .inr (8, [])), (k3, .inr (6, [])), (k5, .inr (3, [])), (k4, .inr (2, []))] [4] [0, 1, 2, 3, 5, 6, 7] := ⟨rfl, rfl, rfl, rfl, rfl, by decide⟩
                      refine kw_go_i hs1766 hP hD hS hA (va_runU (As := [.int x2, .int x3, .int x4]) (rest := []) ⟨hx, hb, hml, hown, hts⟩ (gc_Wood_on9 l D y k2 x2 x3 x4  _) (va_cwO 3 hts gX10_mostAlike_X9_sight_u325X9 rfl rfl rfl (List.mem_of_getElem? (i := 24) rfl) (by decide +kernel) ⟨Nat.le_of_ble_eq_true rfl, Nat.le_of_ble_eq_true rfl⟩) (kw_PreV (ci := 9) (q0 := 4) hs1766 hP hD hK hN rfl rfl) rfl rfl hl.1 rfl (lv_room (Nat.le_of_ble_eq_true rfl)) dX10_mostAlike_75 ⟨Nat.le_of_ble_eq_true rfl, Nat.le_of_ble_eq_true rfl⟩) (fun r1767 u1768 H locs hq hP hD hS => ?_)
                      obtain rfl := hq
                      have hP : va_P D vwCl [(g, .inr (10, [.ref kk, .ref nw, .ref im, .ref kp, .ref tx, .ref tr, .ref be, .ref sh, .ref sd, .ref rf, .int ab, .int bl])), (kk, .inl (y 5, 6, .inr (.inr (.inr (.inr fq))))), (k0, .inr (5, [])), (k1, .inr (8, [])), (k3, .inr (6, [])), (k5, .inr (3, [])), (k4, .inr (2, [])), (k2, .inr (9, []))] H := hP
                      have hD : va_D A [(g, .inr (10, [.ref kk, .ref nw, .ref im, .ref kp, .ref tx, .ref tr, .ref be, .ref sh, .ref sd, .ref rf, .int ab, .int bl])), (kk, .inl (y 5, 6, .inr (.inr (.inr (.inr fq))))), (k0, .inr (5, [])), (k1, .inr (8, [])), (k3, .inr (6, [])), (k5, .inr (3, [])), (k4, .inr (2, [])), (k2, .inr (9, []))] := hD
                      refine lv_iload hx hb dX10_mostAlike_78 (lv_at hl 2 rfl) ?_
                      refine lv_icmp_ne (tgt := 86) hx hb dX10_mostAlike_80 (by decide) (fun h1769 => ?_) (fun h1770 => ?_)
                      · skip
                        refine lv_iinc (v := (nI 3)) (lv' := [(9, .int (nI 3)), (8, .int x1716), (7, .int r1680), (6, .int (nI 4)), (5, .int x635), (0, .ref g), (1, .int x), (2, .int x2), (3, .int x3), (4, .int x4)]) hx hb dX10_mostAlike_86 hl (k := 0) rfl (nI_1 2) (by decide) rfl (fun ls hl => ?_)
                        refine lv_goto (tgt := 47) hx hb dX10_mostAlike_89 (by decide) ?_
                        exact ihj92 3 x1716 H locs ls (by omega) (by omega)  (hP.sub [0, 1, 2, 3, 7, 4, 5, 6] rfl) (hD.sub [0, 1, 2, 3, 7, 4, 5, 6] (by decide) rfl) hS (lv_sub hl [0, 1, 2, 3, 4, 5, 6, 7, 8, 9] rfl)
                      · skip
                        refine lv_iinc (v := (x1716 + 1)) (lv' := [(8, .int (x1716 + 1)), (9, .int (nI 2)), (7, .int r1680), (6, .int (nI 4)), (5, .int x635), (0, .ref g), (1, .int x), (2, .int x2), (3, .int x3), (4, .int x4)]) hx hb dX10_mostAlike_83 hl (k := 1) rfl (rfl) (by decide) rfl (fun ls hl => ?_)
                        refine lv_iinc (v := (nI 3)) (lv' := [(9, .int (nI 3)), (8, .int (x1716 + 1)), (7, .int r1680), (6, .int (nI 4)), (5, .int x635), (0, .ref g), (1, .int x), (2, .int x2), (3, .int x3), (4, .int x4)]) hx hb dX10_mostAlike_86 hl (k := 1) rfl (nI_1 2) (by decide) rfl (fun ls hl => ?_)
                        refine lv_goto (tgt := 47) hx hb dX10_mostAlike_89 (by decide) ?_
                        exact ihj92 3 (x1716 + 1) H locs ls (by omega) (by omega)  (hP.sub [0, 1, 2, 3, 7, 4, 5, 6] rfl) (hD.sub [0, 1, 2, 3, 7, 4, 5, 6] (by decide) rfl) hS (lv_sub hl [0, 1, 2, 3, 4, 5, 6, 7, 8, 9] rfl)
                    · skip
                      refine va_aldq hx hb hK hP 1 5 rfl rfl (vp_in_nI (by omega) (by decide)) dX10_mostAlike_70 ?_
                      rw [nI_clamp (n := 3) (by omega), show va_rf (fq 3) = .ref k3 from congrArg va_rf hq3]
                      refine lv_iload_n hx hb dX10_mostAlike_71 rfl (lv_at hl 7 rfl) ?_
                      refine lv_iload_n hx hb dX10_mostAlike_72 rfl (lv_at hl 8 rfl) ?_
                      refine lv_iload hx hb dX10_mostAlike_73 (lv_at hl 9 rfl) ?_
                      have hs1771 : kw_Split [(g, .inr (10, [.ref kk, .ref nw, .ref im, .ref kp, .ref tx, .ref tr, .ref be, .ref sh, .ref sd, .ref rf, .int ab, .int bl])), (kk, .inl (y 5, 6, .inr (.inr (.inr (.inr fq))))), (k0, .inr (5, [])), (k1, .inr (8, [])), (k2, .inr (9, [])), (k3, .inr (6, [])), (k5, .inr (3, [])), (k4, .inr (2, []))] [(k3, .inr (6, []))] [(g, .inr (10, [.ref kk, .ref nw, .ref im, .ref kp, .ref tx, .ref tr, .ref be, .ref sh, .ref sd, .ref rf, .int ab, .int bl])), (kk, .inl (y 5, 6, .inr (.inr (.inr (.inr fq))))), (k0, .inr (5, [])), (k1, .inr (8, [])), (k2, .inr (9, [])), (k5, .inr (3, [])), (k4, .inr (2, []))] [5] [0, 1, 2, 3, 4, 6, 7] := ⟨rfl, rfl, rfl, rfl, rfl, by decide⟩
                      refine kw_go_i hs1771 hP hD hS hA (va_runU (As := [.int x2, .int x3, .int x4]) (rest := []) ⟨hx, hb, hml, hown, hts⟩ (gc_Puddle_on6 l D y k3 x2 x3 x4  _) (va_cwO 3 hts gX10_mostAlike_X6_sight_u325X6 rfl rfl rfl (List.mem_of_getElem? (i := 24) rfl) (by decide +kernel) ⟨Nat.le_of_ble_eq_true rfl, Nat.le_of_ble_eq_true rfl⟩) (kw_PreV (ci := 6) (q0 := 5) hs1771 hP hD hK hN rfl rfl) rfl rfl hl.1 rfl (lv_room (Nat.le_of_ble_eq_true rfl)) dX10_mostAlike_75 ⟨Nat.le_of_ble_eq_true rfl, Nat.le_of_ble_eq_true rfl⟩) (fun r1772 u1773 H locs hq hP hD hS => ?_)
                      obtain rfl := hq
                      have hP : va_P D vwCl [(g, .inr (10, [.ref kk, .ref nw, .ref im, .ref kp, .ref tx, .ref tr, .ref be, .ref sh, .ref sd, .ref rf, .int ab, .int bl])), (kk, .inl (y 5, 6, .inr (.inr (.inr (.inr fq))))), (k0, .inr (5, [])), (k1, .inr (8, [])), (k2, .inr (9, [])), (k5, .inr (3, [])), (k4, .inr (2, [])), (k3, .inr (6, []))] H := hP
                      have hD : va_D A [(g, .inr (10, [.ref kk, .ref nw, .ref im, .ref kp, .ref tx, .ref tr, .ref be, .ref sh, .ref sd, .ref rf, .int ab, .int bl])), (kk, .inl (y 5, 6, .inr (.inr (.inr (.inr fq))))), (k0, .inr (5, [])), (k1, .inr (8, [])), (k2, .inr (9, [])), (k5, .inr (3, [])), (k4, .inr (2, [])), (k3, .inr (6, []))] := hD
                      refine lv_iload hx hb dX10_mostAlike_78 (lv_at hl 2 rfl) ?_
                      refine lv_icmp_ne (tgt := 86) hx hb dX10_mostAlike_80 (by decide) (fun h1774 => ?_) (fun h1775 => ?_)
                      · skip
                        refine lv_iinc (v := (nI 4)) (lv' := [(9, .int (nI 4)), (8, .int x1716), (7, .int r1680), (6, .int (nI 4)), (5, .int x635), (0, .ref g), (1, .int x), (2, .int x2), (3, .int x3), (4, .int x4)]) hx hb dX10_mostAlike_86 hl (k := 0) rfl (nI_1 3) (by decide) rfl (fun ls hl => ?_)
                        refine lv_goto (tgt := 47) hx hb dX10_mostAlike_89 (by decide) ?_
                        exact ihj92 4 x1716 H locs ls (by omega) (by omega)  (hP.sub [0, 1, 2, 3, 4, 7, 5, 6] rfl) (hD.sub [0, 1, 2, 3, 4, 7, 5, 6] (by decide) rfl) hS (lv_sub hl [0, 1, 2, 3, 4, 5, 6, 7, 8, 9] rfl)
                      · skip
                        refine lv_iinc (v := (x1716 + 1)) (lv' := [(8, .int (x1716 + 1)), (9, .int (nI 3)), (7, .int r1680), (6, .int (nI 4)), (5, .int x635), (0, .ref g), (1, .int x), (2, .int x2), (3, .int x3), (4, .int x4)]) hx hb dX10_mostAlike_83 hl (k := 1) rfl (rfl) (by decide) rfl (fun ls hl => ?_)
                        refine lv_iinc (v := (nI 4)) (lv' := [(9, .int (nI 4)), (8, .int (x1716 + 1)), (7, .int r1680), (6, .int (nI 4)), (5, .int x635), (0, .ref g), (1, .int x), (2, .int x2), (3, .int x3), (4, .int x4)]) hx hb dX10_mostAlike_86 hl (k := 1) rfl (nI_1 3) (by decide) rfl (fun ls hl => ?_)
                        refine lv_goto (tgt := 47) hx hb dX10_mostAlike_89 (by decide) ?_
                        exact ihj92 4 (x1716 + 1) H locs ls (by omega) (by omega)  (hP.sub [0, 1, 2, 3, 4, 7, 5, 6] rfl) (hD.sub [0, 1, 2, 3, 4, 7, 5, 6] (by decide) rfl) hS (lv_sub hl [0, 1, 2, 3, 4, 5, 6, 7, 8, 9] rfl)
                    · skip
                      refine va_aldq hx hb hK hP 1 5 rfl rfl (vp_in_nI (by omega) (by decide)) dX10_mostAlike_70 ?_
                      rw [nI_clamp (n := 4) (by omega), show va_rf (fq 4) = .ref k4 from congrArg va_rf hq4]
                      refine lv_iload_n hx hb dX10_mostAlike_71 rfl (lv_at hl 7 rfl) ?_
                      refine lv_iload_n hx hb dX10_mostAlike_72 rfl (lv_at hl 8 rfl) ?_
                      refine lv_iload hx hb dX10_mostAlike_73 (lv_at hl 9 rfl) ?_
                      have hs1776 : kw_Split [(g, .inr (10, [.ref kk, .ref nw, .ref im, .ref kp, .ref tx, .ref tr, .ref be, .ref sh, .ref sd, .ref rf, .int ab, .int bl])), (kk, .inl (y 5, 6, .inr (.inr (.inr (.inr fq))))), (k0, .inr (5, [])), (k1, .inr (8, [])), (k2, .inr (9, [])), (k3, .inr (6, [])), (k5, .inr (3, [])), (k4, .inr (2, []))] [(k4, .inr (2, []))] [(g, .inr (10, [.ref kk, .ref nw, .ref im, .ref kp, .ref tx, .ref tr, .ref be, .ref sh, .ref sd, .ref rf, .int ab, .int bl])), (kk, .inl (y 5, 6, .inr (.inr (.inr (.inr fq))))), (k0, .inr (5, [])), (k1, .inr (8, [])), (k2, .inr (9, [])), (k3, .inr (6, [])), (k5, .inr (3, []))] [7] [0, 1, 2, 3, 4, 5, 6] := ⟨rfl, rfl, rfl, rfl, rfl, by decide⟩
                      refine kw_go_i hs1776 hP hD hS hA (va_runU (As := [.int x2, .int x3, .int x4]) (rest := []) ⟨hx, hb, hml, hown, hts⟩ (gc_Hill_on2 l D y k4 x2 x3 x4  _) (va_cwO 3 hts gX10_mostAlike_X2_sight_u325X2 rfl rfl rfl (List.mem_of_getElem? (i := 24) rfl) (by decide +kernel) ⟨Nat.le_of_ble_eq_true rfl, Nat.le_of_ble_eq_true rfl⟩) (kw_PreV (ci := 2) (q0 := 7) hs1776 hP hD hK hN rfl rfl) rfl rfl hl.1 rfl (lv_room (Nat.le_of_ble_eq_true rfl)) dX10_mostAlike_75 ⟨Nat.le_of_ble_eq_true rfl, Nat.le_of_ble_eq_true rfl⟩) (fun r1777 u1778 H locs hq hP hD hS => ?_)
                      have hP : va_P D vwCl [(g, .inr (10, [.ref kk, .ref nw, .ref im, .ref kp, .ref tx, .ref tr, .ref be, .ref sh, .ref sd, .ref rf, .int ab, .int bl])), (kk, .inl (y 5, 6, .inr (.inr (.inr (.inr fq))))), (k0, .inr (5, [])), (k1, .inr (8, [])), (k2, .inr (9, [])), (k3, .inr (6, [])), (k5, .inr (3, [])), (k4, .inr (2, []))] H := hP
                      have hD : va_D A [(g, .inr (10, [.ref kk, .ref nw, .ref im, .ref kp, .ref tx, .ref tr, .ref be, .ref sh, .ref sd, .ref rf, .int ab, .int bl])), (kk, .inl (y 5, 6, .inr (.inr (.inr (.inr fq))))), (k0, .inr (5, [])), (k1, .inr (8, [])), (k2, .inr (9, [])), (k3, .inr (6, [])), (k5, .inr (3, [])), (k4, .inr (2, []))] := hD
                      refine lv_iload hx hb dX10_mostAlike_78 (lv_at hl 2 rfl) ?_
                      refine lv_icmp_ne (tgt := 86) hx hb dX10_mostAlike_80 (by decide) (fun h1779 => ?_) (fun h1780 => ?_)
                      · skip
                        refine lv_iinc (v := (nI 5)) (lv' := [(9, .int (nI 5)), (8, .int x1716), (7, .int r1680), (6, .int (nI 4)), (5, .int x635), (0, .ref g), (1, .int x), (2, .int x2), (3, .int x3), (4, .int x4)]) hx hb dX10_mostAlike_86 hl (k := 0) rfl (nI_1 4) (by decide) rfl (fun ls hl => ?_)
                        refine lv_goto (tgt := 47) hx hb dX10_mostAlike_89 (by decide) ?_
                        exact ihj92 5 x1716 H locs ls (by omega) (by omega)  (hP.sub [0, 1, 2, 3, 4, 5, 6, 7] rfl) (hD.sub [0, 1, 2, 3, 4, 5, 6, 7] (by decide) rfl) hS (lv_sub hl [0, 1, 2, 3, 4, 5, 6, 7, 8, 9] rfl)
                      · skip
                        refine lv_iinc (v := (x1716 + 1)) (lv' := [(8, .int (x1716 + 1)), (9, .int (nI 4)), (7, .int r1680), (6, .int (nI 4)), (5, .int x635), (0, .ref g), (1, .int x), (2, .int x2), (3, .int x3), (4, .int x4)]) hx hb dX10_mostAlike_83 hl (k := 1) rfl (rfl) (by decide) rfl (fun ls hl => ?_)
                        refine lv_iinc (v := (nI 5)) (lv' := [(9, .int (nI 5)), (8, .int (x1716 + 1)), (7, .int r1680), (6, .int (nI 4)), (5, .int x635), (0, .ref g), (1, .int x), (2, .int x2), (3, .int x3), (4, .int x4)]) hx hb dX10_mostAlike_86 hl (k := 1) rfl (nI_1 4) (by decide) rfl (fun ls hl => ?_)
                        refine lv_goto (tgt := 47) hx hb dX10_mostAlike_89 (by decide) ?_
                        exact ihj92 5 (x1716 + 1) H locs ls (by omega) (by omega)  (hP.sub [0, 1, 2, 3, 4, 5, 6, 7] rfl) (hD.sub [0, 1, 2, 3, 4, 5, 6, 7] (by decide) rfl) hS (lv_sub hl [0, 1, 2, 3, 4, 5, 6, 7, 8, 9] rfl)
                    · skip
                      refine va_aldq hx hb hK hP 1 5 rfl rfl (vp_in_nI (by omega) (by decide)) dX10_mostAlike_70 ?_
                      rw [nI_clamp (n := 5) (by omega), show va_rf (fq 5) = .ref k5 from congrArg va_rf hq5]
                      refine lv_iload_n hx hb dX10_mostAlike_71 rfl (lv_at hl 7 rfl) ?_
                      refine lv_iload_n hx hb dX10_mostAlike_72 rfl (lv_at hl 8 rfl) ?_
                      refine lv_iload hx hb dX10_mostAlike_73 (lv_at hl 9 rfl) ?_
                      have hs1781 : kw_Split [(g, .inr (10, [.ref kk, .ref nw, .ref im, .ref kp, .ref tx, .ref tr, .ref be, .ref sh, .ref sd, .ref rf, .int ab, .int bl])), (kk, .inl (y 5, 6, .inr (.inr (.inr (.inr fq))))), (k0, .inr (5, [])), (k1, .inr (8, [])), (k2, .inr (9, [])), (k3, .inr (6, [])), (k5, .inr (3, [])), (k4, .inr (2, []))] [(k5, .inr (3, []))] [(g, .inr (10, [.ref kk, .ref nw, .ref im, .ref kp, .ref tx, .ref tr, .ref be, .ref sh, .ref sd, .ref rf, .int ab, .int bl])), (kk, .inl (y 5, 6, .inr (.inr (.inr (.inr fq))))), (k0, .inr (5, [])), (k1, .inr (8, [])), (k2, .inr (9, [])), (k3, .inr (6, [])), (k4, .inr (2, []))] [6] [0, 1, 2, 3, 4, 5, 7] := ⟨rfl, rfl, rfl, rfl, rfl, by decide⟩
                      refine kw_go_i hs1781 hP hD hS hA (va_runU (As := [.int x2, .int x3, .int x4]) (rest := []) ⟨hx, hb, hml, hown, hts⟩ (gc_Lane_on3 l D y k5 x2 x3 x4  _) (va_cwO 3 hts gX10_mostAlike_X3_sight_u325X3 rfl rfl rfl (List.mem_of_getElem? (i := 24) rfl) (by decide +kernel) ⟨Nat.le_of_ble_eq_true rfl, Nat.le_of_ble_eq_true rfl⟩) (kw_PreV (ci := 3) (q0 := 6) hs1781 hP hD hK hN rfl rfl) rfl rfl hl.1 rfl (lv_room (Nat.le_of_ble_eq_true rfl)) dX10_mostAlike_75 ⟨Nat.le_of_ble_eq_true rfl, Nat.le_of_ble_eq_true rfl⟩) (fun r1782 u1783 H locs hq hP hD hS => ?_)
                      have hP : va_P D vwCl [(g, .inr (10, [.ref kk, .ref nw, .ref im, .ref kp, .ref tx, .ref tr, .ref be, .ref sh, .ref sd, .ref rf, .int ab, .int bl])), (kk, .inl (y 5, 6, .inr (.inr (.inr (.inr fq))))), (k0, .inr (5, [])), (k1, .inr (8, [])), (k2, .inr (9, [])), (k3, .inr (6, [])), (k4, .inr (2, [])), (k5, .inr (3, []))] H := hP
                      have hD : va_D A [(g, .inr (10, [.ref kk, .ref nw, .ref im, .ref kp, .ref tx, .ref tr, .ref be, .ref sh, .ref sd, .ref rf, .int ab, .int bl])), (kk, .inl (y 5, 6, .inr (.inr (.inr (.inr fq))))), (k0, .inr (5, [])), (k1, .inr (8, [])), (k2, .inr (9, [])), (k3, .inr (6, [])), (k4, .inr (2, [])), (k5, .inr (3, []))] := hD
                      refine lv_iload hx hb dX10_mostAlike_78 (lv_at hl 2 rfl) ?_
                      refine lv_icmp_ne (tgt := 86) hx hb dX10_mostAlike_80 (by decide) (fun h1784 => ?_) (fun h1785 => ?_)
                      · skip
                        refine lv_iinc (v := (nI 6)) (lv' := [(9, .int (nI 6)), (8, .int x1716), (7, .int r1680), (6, .int (nI 4)), (5, .int x635), (0, .ref g), (1, .int x), (2, .int x2), (3, .int x3), (4, .int x4)]) hx hb dX10_mostAlike_86 hl (k := 0) rfl (nI_1 5) (by decide) rfl (fun ls hl => ?_)
                        refine lv_goto (tgt := 47) hx hb dX10_mostAlike_89 (by decide) ?_
                        exact ihj92 6 x1716 H locs ls (by omega) (by omega)  (hP.sub [0, 1, 2, 3, 4, 5, 7, 6] rfl) (hD.sub [0, 1, 2, 3, 4, 5, 7, 6] (by decide) rfl) hS (lv_sub hl [0, 1, 2, 3, 4, 5, 6, 7, 8, 9] rfl)
                      · skip
                        refine lv_iinc (v := (x1716 + 1)) (lv' := [(8, .int (x1716 + 1)), (9, .int (nI 5)), (7, .int r1680), (6, .int (nI 4)), (5, .int x635), (0, .ref g), (1, .int x), (2, .int x2), (3, .int x3), (4, .int x4)]) hx hb dX10_mostAlike_83 hl (k := 1) rfl (rfl) (by decide) rfl (fun ls hl => ?_)
                        refine lv_iinc (v := (nI 6)) (lv' := [(9, .int (nI 6)), (8, .int (x1716 + 1)), (7, .int r1680), (6, .int (nI 4)), (5, .int x635), (0, .ref g), (1, .int x), (2, .int x2), (3, .int x3), (4, .int x4)]) hx hb dX10_mostAlike_86 hl (k := 1) rfl (nI_1 5) (by decide) rfl (fun ls hl => ?_)
                        refine lv_goto (tgt := 47) hx hb dX10_mostAlike_89 (by decide) ?_
                        exact ihj92 6 (x1716 + 1) H locs ls (by omega) (by omega)  (hP.sub [0, 1, 2, 3, 4, 5, 7, 6] rfl) (hD.sub [0, 1, 2, 3, 4, 5, 7, 6] (by decide) rfl) hS (lv_sub hl [0, 1, 2, 3, 4, 5, 6, 7, 8, 9] rfl)
            exact lp1751 (6 + 1) 0 0 _ _ _ (by omega) (by omega)  hP hD hS (lv_sub hl [0, 1, 2, 3, 4, 5, 6, 7, 8, 9] rfl)
          · skip
            refine va_aldq hx hb hK hP 1 5 rfl rfl (vp_in_nI (by omega) (by decide)) dX10_mostAlike_31 ?_
            rw [nI_clamp (n := 5) (by omega), show va_rf (fq 5) = .ref k5 from congrArg va_rf hq5]
            refine lv_iload_n hx hb dX10_mostAlike_32 rfl (lv_at hl 4 rfl) ?_
            refine lv_iload_n hx hb dX10_mostAlike_33 rfl (lv_at hl 5 rfl) ?_
            refine lv_iload hx hb dX10_mostAlike_34 (lv_at hl 6 rfl) ?_
            have hs1786 : kw_Split [(g, .inr (10, [.ref kk, .ref nw, .ref im, .ref kp, .ref tx, .ref tr, .ref be, .ref sh, .ref sd, .ref rf, .int ab, .int bl])), (kk, .inl (y 5, 6, .inr (.inr (.inr (.inr fq))))), (k0, .inr (5, [])), (k1, .inr (8, [])), (k2, .inr (9, [])), (k3, .inr (6, [])), (k4, .inr (2, [])), (k5, .inr (3, []))] [(k5, .inr (3, []))] [(g, .inr (10, [.ref kk, .ref nw, .ref im, .ref kp, .ref tx, .ref tr, .ref be, .ref sh, .ref sd, .ref rf, .int ab, .int bl])), (kk, .inl (y 5, 6, .inr (.inr (.inr (.inr fq))))), (k0, .inr (5, [])), (k1, .inr (8, [])), (k2, .inr (9, [])), (k3, .inr (6, [])), (k4, .inr (2, []))] [7] [0, 1, 2, 3, 4, 5, 6] := ⟨rfl, rfl, rfl, rfl, rfl, by decide⟩
            refine kw_go_i hs1786 hP hD hS hA (va_runU (As := [.int x2, .int x3, .int x4]) (rest := []) ⟨hx, hb, hml, hown, hts⟩ (gc_Lane_on3 l D y k5 x2 x3 x4  _) (va_cwO 3 hts gX10_mostAlike_X3_sight_u325X3 rfl rfl rfl (List.mem_of_getElem? (i := 24) rfl) (by decide +kernel) ⟨Nat.le_of_ble_eq_true rfl, Nat.le_of_ble_eq_true rfl⟩) (kw_PreV (ci := 3) (q0 := 7) hs1786 hP hD hK hN rfl rfl) rfl rfl hl.1 rfl (lv_room (Nat.le_of_ble_eq_true rfl)) dX10_mostAlike_36 ⟨Nat.le_of_ble_eq_true rfl, Nat.le_of_ble_eq_true rfl⟩) (fun r1787 u1788 H locs hq hP hD hS => ?_)
            have hP : va_P D vwCl [(g, .inr (10, [.ref kk, .ref nw, .ref im, .ref kp, .ref tx, .ref tr, .ref be, .ref sh, .ref sd, .ref rf, .int ab, .int bl])), (kk, .inl (y 5, 6, .inr (.inr (.inr (.inr fq))))), (k0, .inr (5, [])), (k1, .inr (8, [])), (k2, .inr (9, [])), (k3, .inr (6, [])), (k4, .inr (2, [])), (k5, .inr (3, []))] H := hP
            have hD : va_D A [(g, .inr (10, [.ref kk, .ref nw, .ref im, .ref kp, .ref tx, .ref tr, .ref be, .ref sh, .ref sd, .ref rf, .int ab, .int bl])), (kk, .inl (y 5, 6, .inr (.inr (.inr (.inr fq))))), (k0, .inr (5, [])), (k1, .inr (8, [])), (k2, .inr (9, [])), (k3, .inr (6, [])), (k4, .inr (2, [])), (k5, .inr (3, []))] := hD
            refine lv_istore (lv' := [(7, .int r1787), (6, .int (nI 5)), (5, .int x635), (0, .ref g), (1, .int x), (2, .int x2), (3, .int x3), (4, .int x4)]) hx hb dX10_mostAlike_39 hl (by decide) rfl (fun ls hl => ?_)
            refine lv_iconst (v := 0) hx hb dX10_mostAlike_41 (by decide) ?_
            refine lv_istore (lv' := [(8, .int 0), (7, .int r1787), (6, .int (nI 5)), (5, .int x635), (0, .ref g), (1, .int x), (2, .int x2), (3, .int x3), (4, .int x4)]) hx hb dX10_mostAlike_42 hl (by decide) rfl (fun ls hl => ?_)
            refine lv_iconst (v := 0) hx hb dX10_mostAlike_44 (by decide) ?_
            refine lv_istore (lv' := [(9, .int 0), (8, .int 0), (7, .int r1787), (6, .int (nI 5)), (5, .int x635), (0, .ref g), (1, .int x), (2, .int x2), (3, .int x3), (4, .int x4)]) hx hb dX10_mostAlike_45 hl (by decide) rfl (fun ls hl => ?_)
            have lp1858 : ∀ (fuj92 j92 : Nat) (x1823 : Int32) (H : Heap) (locs : List Loc) (ls : Array Slot), j92 ≤ 6 → 6 - j92 < fuj92 → va_P D vwCl [(g, .inr (10, [.ref kk, .ref nw, .ref im, .ref kp, .ref tx, .ref tr, .ref be, .ref sh, .ref sd, .ref rf, .int ab, .int bl])), (kk, .inl (y 5, 6, .inr (.inr (.inr (.inr fq))))), (k0, .inr (5, [])), (k1, .inr (8, [])), (k2, .inr (9, [])), (k3, .inr (6, [])), (k4, .inr (2, [])), (k5, .inr (3, []))] H → va_D A [(g, .inr (10, [.ref kk, .ref nw, .ref im, .ref kp, .ref tx, .ref tr, .ref be, .ref sh, .ref sd, .ref rf, .int ab, .int bl])), (kk, .inl (y 5, 6, .inr (.inr (.inr (.inr fq))))), (k0, .inr (5, [])), (k1, .inr (8, [])), (k2, .inr (9, [])), (k3, .inr (6, [])), (k4, .inr (2, [])), (k5, .inr (3, []))] → va_S A s.heap H locs → lv_has ls 10 [(9, .int (nI j92)), (8, .int x1823), (7, .int r1787), (6, .int (nI 5)), (5, .int x635), (0, .ref g), (1, .int x), (2, .int x2), (3, .int x3), (4, .int x4)] → W pZ l eZ ({ frames := 4, cells := 0, slots := 0, locals := 130 }) s mZ [.ref g, .int x, .int x2, .int x3, .int x4].toArray beZ meZ cZ H locs 0 0 (MQ beZ (va_Qi (fun (r : Int32) (u : Unit) => True) (kw_B D (fun _ => [(g, .inr (10, [.ref kk, .ref nw, .ref im, .ref kp, .ref tx, .ref tr, .ref be, .ref sh, .ref sd, .ref rf, .int ab, .int bl])), (kk, .inl (y 5, 6, .inr (.inr (.inr (.inr fq))))), (k0, .inr (5, [])), (k1, .inr (8, [])), (k2, .inr (9, [])), (k3, .inr (6, [])), (k4, .inr (2, [])), (k5, .inr (3, []))]) A) A) [.ref g, .int x, .int x2, .int x3, .int x4].toArray s 0 0 A) (F0 mZ 47 ls []) := by
              intro fuj92
              induction fuj92 with
              | zero => intro j92 x1823 H locs ls hj9 hf9; exact absurd hf9 (Nat.not_lt_zero _)
              | succ fuj92 ihj92 =>
                intro j92 x1823 H locs ls hj92 hfj92  hP hD hS hl
                refine lv_iload hx hb dX10_mostAlike_47 (lv_at hl 0 rfl) ?_
                refine lv_bipush (v := 6) hx hb dX10_mostAlike_49 (by decide) ?_
                refine lv_icmp_ge (tgt := 92) hx hb dX10_mostAlike_51 (by decide) (fun h1859 => ?_) (fun h1860 => ?_)
                · skip
                  have h1859 : 6 ≤ j92 := (nI_leI (a := 6) (b := j92) (by omega) (by omega)).mp h1859
                  refine lv_iload hx hb dX10_mostAlike_92 (lv_at hl 4 rfl) ?_
                  refine lv_iload hx hb dX10_mostAlike_94 (lv_at hl 1 rfl) ?_
                  refine va_mmax hx hb (hml.trans hl.1.symm) hown fw2 fw3 fw4 fw5 (Nat.le_of_ble_eq_true rfl) (Nat.le_of_ble_eq_true rfl) (Nat.le_of_ble_eq_true rfl) (Nat.le_of_ble_eq_true rfl) dX10_mostAlike_96 ?_
                  refine lv_istore (lv' := [(5, .int (if x635 < x1823 then x1823 else x635)), (9, .int (nI j92)), (8, .int x1823), (7, .int r1787), (6, .int (nI 5)), (0, .ref g), (1, .int x), (2, .int x2), (3, .int x3), (4, .int x4)]) hx hb dX10_mostAlike_99 hl (by decide) rfl (fun ls hl => ?_)
                  refine lv_iinc (v := (nI 6)) (lv' := [(6, .int (nI 6)), (5, .int (if x635 < x1823 then x1823 else x635)), (9, .int (nI j92)), (8, .int x1823), (7, .int r1787), (0, .ref g), (1, .int x), (2, .int x2), (3, .int x3), (4, .int x4)]) hx hb dX10_mostAlike_101 hl (k := 4) rfl (nI_1 5) (by decide) rfl (fun ls hl => ?_)
                  refine lv_goto (tgt := 6) hx hb dX10_mostAlike_104 (by decide) ?_
                  exact ihj91 6 (if x635 < x1823 then x1823 else x635) H locs ls (by omega) (by omega)  (hP.sub [0, 1, 2, 3, 4, 5, 6, 7] rfl) (hD.sub [0, 1, 2, 3, 4, 5, 6, 7] (by decide) rfl) hS (lv_sub hl [0, 1, 5, 6, 7, 8, 9] rfl)
                · skip
                  have h1860 : ¬ 6 ≤ j92 := fun q9 => h1860 ((nI_leI (a := 6) (b := j92) (by omega) (by omega)).mpr q9)
                  refine lv_iload_n hx hb dX10_mostAlike_54 rfl (lv_at hl 6 rfl) ?_
                  refine lv_iload hx hb dX10_mostAlike_55 (lv_at hl 0 rfl) ?_
                  refine lv_ishr hx hb dX10_mostAlike_57 ?_
                  refine lv_iconst (v := 1) hx hb dX10_mostAlike_58 (by decide) ?_
                  refine lv_iand hx hb dX10_mostAlike_59 ?_
                  refine lv_iconst (v := 1) hx hb dX10_mostAlike_60 (by decide) ?_
                  refine lv_icmp_ne (tgt := 86) hx hb dX10_mostAlike_61 (by decide) (fun h1861 => ?_) (fun h1862 => ?_)
                  · skip
                    refine lv_iinc (v := (nI (j92 + 1))) (lv' := [(9, .int (nI (j92 + 1))), (8, .int x1823), (7, .int r1787), (6, .int (nI 5)), (5, .int x635), (0, .ref g), (1, .int x), (2, .int x2), (3, .int x3), (4, .int x4)]) hx hb dX10_mostAlike_86 hl (k := 0) rfl (nI_1 j92) (by decide) rfl (fun ls hl => ?_)
                    refine lv_goto (tgt := 47) hx hb dX10_mostAlike_89 (by decide) ?_
                    exact ihj92 (j92 + 1) x1823 H locs ls (by omega) (by omega)  (hP.sub [0, 1, 2, 3, 4, 5, 6, 7] rfl) (hD.sub [0, 1, 2, 3, 4, 5, 6, 7] (by decide) rfl) hS (lv_sub hl [0, 1, 2, 3, 4, 5, 6, 7, 8, 9] rfl)
                  · skip
                    refine lv_aload_n hx hb dX10_mostAlike_64 rfl (lv_at hl 5 rfl) ?_
                    refine va_get (D := D) (ci := 10) (v := .ref kk) (C := RX10) (T := TX10) (N := 12) hx hb hts iw10 hown hK hP 0 rfl rfl 0 (by decide) fw1 (fun _ h9 => h9) rfl dX10_mostAlike_65 ?_
                    refine lv_iload hx hb dX10_mostAlike_68 (lv_at hl 0 rfl) ?_
                    rcases (show j92 = 0 ∨ j92 = 1 ∨ j92 = 2 ∨ j92 = 3 ∨ j92 = 4 ∨ j92 = 5 by omega) with rfl | rfl | rfl | rfl | rfl | rfl
                    · skip
                      refine va_aldq hx hb hK hP 1 5 rfl rfl (vp_in_nI (by omega) (by decide)) dX10_mostAlike_70 ?_
                      rw [nI_clamp (n := 0) (by omega), show va_rf (fq 0) = .ref k0 from congrArg va_rf hq0]
                      refine lv_iload_n hx hb dX10_mostAlike_71 rfl (lv_at hl 7 rfl) ?_
                      refine lv_iload_n hx hb dX10_mostAlike_72 rfl (lv_at hl 8 rfl) ?_
                      refine lv_iload hx hb dX10_mostAlike_73 (lv_at hl 9 rfl) ?_
                      have hs1863 : kw_Split [(g, .inr (10, [.ref kk, .ref nw, .ref im, .ref kp, .ref tx, .ref tr, .ref be, .ref sh, .ref sd, .ref rf, .int ab, .int bl])), (kk, .inl (y 5, 6, .inr (.inr (.inr (.inr fq))))), (k0, .inr (5, [])), (k1, .inr (8, [])), (k2, .inr (9, [])), (k3, .inr (6, [])), (k4, .inr (2, [])), (k5, .inr (3, []))] [(k0, .inr (5, []))] [(g, .inr (10, [.ref kk, .ref nw, .ref im, .ref kp, .ref tx, .ref tr, .ref be, .ref sh, .ref sd, .ref rf, .int ab, .int bl])), (kk, .inl (y 5, 6, .inr (.inr (.inr (.inr fq))))), (k1, .inr (8, [])), (k2, .inr (9, [])), (k3, .inr (6, [])), (k4, .inr (2, [])), (k5, .inr (3, []))] [2] [0, 1, 3, 4, 5, 6, 7] := ⟨rfl, rfl, rfl, rfl, rfl, by decide⟩
                      refine kw_go_i hs1863 hP hD hS hA (va_runV (As := [.int x2, .int x3, .int x4]) (rest := []) ⟨hx, hb, hml, hown, hts⟩ (gc_Plain_on5 l D y k0 x2 x3 x4  _) (cwV 3 hts gX10_mostAlike_X5_sight rfl rfl rfl (by decide +kernel) ⟨Nat.le_of_ble_eq_true rfl, Nat.le_of_ble_eq_true rfl⟩) (kw_PreV (ci := 5) (q0 := 2) hs1863 hP hD hK hN rfl rfl) rfl rfl hl.1 rfl (lv_room (Nat.le_of_ble_eq_true rfl)) dX10_mostAlike_75 ⟨Nat.le_of_ble_eq_true rfl, Nat.le_of_ble_eq_true rfl⟩) (fun r1864 u1865 H locs hq hP hD hS => ?_)
                      obtain rfl := hq
                      have hP : va_P D vwCl [(g, .inr (10, [.ref kk, .ref nw, .ref im, .ref kp, .ref tx, .ref tr, .ref be, .ref sh, .ref sd, .ref rf, .int ab, .int bl])), (kk, .inl (y 5, 6, .inr (.inr (.inr (.inr fq))))), (k1, .inr (8, [])), (k2, .inr (9, [])), (k3, .inr (6, [])), (k4, .inr (2, [])), (k5, .inr (3, [])), (k0, .inr (5, []))] H := hP
                      have hD : va_D A [(g, .inr (10, [.ref kk, .ref nw, .ref im, .ref kp, .ref tx, .ref tr, .ref be, .ref sh, .ref sd, .ref rf, .int ab, .int bl])), (kk, .inl (y 5, 6, .inr (.inr (.inr (.inr fq))))), (k1, .inr (8, [])), (k2, .inr (9, [])), (k3, .inr (6, [])), (k4, .inr (2, [])), (k5, .inr (3, [])), (k0, .inr (5, []))] := hD
                      refine lv_iload hx hb dX10_mostAlike_78 (lv_at hl 2 rfl) ?_
                      refine lv_icmp_ne (tgt := 86) hx hb dX10_mostAlike_80 (by decide) (fun h1866 => ?_) (fun h1867 => ?_)
                      · skip
                        refine lv_iinc (v := (nI 1)) (lv' := [(9, .int (nI 1)), (8, .int x1823), (7, .int r1787), (6, .int (nI 5)), (5, .int x635), (0, .ref g), (1, .int x), (2, .int x2), (3, .int x3), (4, .int x4)]) hx hb dX10_mostAlike_86 hl (k := 0) rfl (nI_1 0) (by decide) rfl (fun ls hl => ?_)
                        refine lv_goto (tgt := 47) hx hb dX10_mostAlike_89 (by decide) ?_
                        exact ihj92 1 x1823 H locs ls (by omega) (by omega)  (hP.sub [0, 1, 7, 2, 3, 4, 5, 6] rfl) (hD.sub [0, 1, 7, 2, 3, 4, 5, 6] (by decide) rfl) hS (lv_sub hl [0, 1, 2, 3, 4, 5, 6, 7, 8, 9] rfl)
                      · skip
                        refine lv_iinc (v := (x1823 + 1)) (lv' := [(8, .int (x1823 + 1)), (9, .int (nI 0)), (7, .int r1787), (6, .int (nI 5)), (5, .int x635), (0, .ref g), (1, .int x), (2, .int x2), (3, .int x3), (4, .int x4)]) hx hb dX10_mostAlike_83 hl (k := 1) rfl (rfl) (by decide) rfl (fun ls hl => ?_)
                        refine lv_iinc (v := (nI 1)) (lv' := [(9, .int (nI 1)), (8, .int (x1823 + 1)), (7, .int r1787), (6, .int (nI 5)), (5, .int x635), (0, .ref g), (1, .int x), (2, .int x2), (3, .int x3), (4, .int x4)]) hx hb dX10_mostAlike_86 hl (k := 1) rfl (nI_1 0) (by decide) rfl (fun ls hl => ?_)
                        refine lv_goto (tgt := 47) hx hb dX10_mostAlike_89 (by decide) ?_
                        exact ihj92 1 (x1823 + 1) H locs ls (by omega) (by omega)  (hP.sub [0, 1, 7, 2, 3, 4, 5, 6] rfl) (hD.sub [0, 1, 7, 2, 3, 4, 5, 6] (by decide) rfl) hS (lv_sub hl [0, 1, 2, 3, 4, 5, 6, 7, 8, 9] rfl)
                    · skip
                      refine va_aldq hx hb hK hP 1 5 rfl rfl (vp_in_nI (by omega) (by decide)) dX10_mostAlike_70 ?_
                      rw [nI_clamp (n := 1) (by omega), show va_rf (fq 1) = .ref k1 from congrArg va_rf hq1]
                      refine lv_iload_n hx hb dX10_mostAlike_71 rfl (lv_at hl 7 rfl) ?_
                      refine lv_iload_n hx hb dX10_mostAlike_72 rfl (lv_at hl 8 rfl) ?_
                      refine lv_iload hx hb dX10_mostAlike_73 (lv_at hl 9 rfl) ?_
                      have hs1868 : kw_Split [(g, .inr (10, [.ref kk, .ref nw, .ref im, .ref kp, .ref tx, .ref tr, .ref be, .ref sh, .ref sd, .ref rf, .int ab, .int bl])), (kk, .inl (y 5, 6, .inr (.inr (.inr (.inr fq))))), (k0, .inr (5, [])), (k1, .inr (8, [])), (k2, .inr (9, [])), (k3, .inr (6, [])), (k4, .inr (2, [])), (k5, .inr (3, []))] [(k1, .inr (8, []))] [(g, .inr (10, [.ref kk, .ref nw, .ref im, .ref kp, .ref tx, .ref tr, .ref be, .ref sh, .ref sd, .ref rf, .int ab, .int bl])), (kk, .inl (y 5, 6, .inr (.inr (.inr (.inr fq))))), (k0, .inr (5, [])), (k2, .inr (9, [])), (k3, .inr (6, [])), (k4, .inr (2, [])), (k5, .inr (3, []))] [3] [0, 1, 2, 4, 5, 6, 7] := ⟨rfl, rfl, rfl, rfl, rfl, by decide⟩
                      refine kw_go_i hs1868 hP hD hS hA (va_runU (As := [.int x2, .int x3, .int x4]) (rest := []) ⟨hx, hb, hml, hown, hts⟩ (gc_West_on8 l D y k1 x2 x3 x4  _) (va_cwO 3 hts gX10_mostAlike_X8_sight_u325X8 rfl rfl rfl (List.mem_of_getElem? (i := 24) rfl) (by decide +kernel) ⟨Nat.le_of_ble_eq_true rfl, Nat.le_of_ble_eq_true rfl⟩) (kw_PreV (ci := 8) (q0 := 3) hs1868 hP hD hK hN rfl rfl) rfl rfl hl.1 rfl (lv_room (Nat.le_of_ble_eq_true rfl)) dX10_mostAlike_75 ⟨Nat.le_of_ble_eq_true rfl, Nat.le_of_ble_eq_true rfl⟩) (fun r1869 u1870 H locs hq hP hD hS => ?_)
                      have hP : va_P D vwCl [(g, .inr (10, [.ref kk, .ref nw, .ref im, .ref kp, .ref tx, .ref tr, .ref be, .ref sh, .ref sd, .ref rf, .int ab, .int bl])), (kk, .inl (y 5, 6, .inr (.inr (.inr (.inr fq))))), (k0, .inr (5, [])), (k2, .inr (9, [])), (k3, .inr (6, [])), (k4, .inr (2, [])), (k5, .inr (3, [])), (k1, .inr (8, []))] H := hP
                      have hD : va_D A [(g, .inr (10, [.ref kk, .ref nw, .ref im, .ref kp, .ref tx, .ref tr, .ref be, .ref sh, .ref sd, .ref rf, .int ab, .int bl])), (kk, .inl (y 5, 6, .inr (.inr (.inr (.inr fq))))), (k0, .inr (5, [])), (k2, .inr (9, [])), (k3, .inr (6, [])), (k4, .inr (2, [])), (k5, .inr (3, [])), (k1, .inr (8, []))] := hD
                      refine lv_iload hx hb dX10_mostAlike_78 (lv_at hl 2 rfl) ?_
                      refine lv_icmp_ne (tgt := 86) hx hb dX10_mostAlike_80 (by decide) (fun h1871 => ?_) (fun h1872 => ?_)
                      · skip
                        refine lv_iinc (v := (nI 2)) (lv' := [(9, .int (nI 2)), (8, .int x1823), (7, .int r1787), (6, .int (nI 5)), (5, .int x635), (0, .ref g), (1, .int x), (2, .int x2), (3, .int x3), (4, .int x4)]) hx hb dX10_mostAlike_86 hl (k := 0) rfl (nI_1 1) (by decide) rfl (fun ls hl => ?_)
                        refine lv_goto (tgt := 47) hx hb dX10_mostAlike_89 (by decide) ?_
                        exact ihj92 2 x1823 H locs ls (by omega) (by omega)  (hP.sub [0, 1, 2, 7, 3, 4, 5, 6] rfl) (hD.sub [0, 1, 2, 7, 3, 4, 5, 6] (by decide) rfl) hS (lv_sub hl [0, 1, 2, 3, 4, 5, 6, 7, 8, 9] rfl)
                      · skip
                        refine lv_iinc (v := (x1823 + 1)) (lv' := [(8, .int (x1823 + 1)), (9, .int (nI 1)), (7, .int r1787), (6, .int (nI 5)), (5, .int x635), (0, .ref g), (1, .int x), (2, .int x2), (3, .int x3), (4, .int x4)]) hx hb dX10_mostAlike_83 hl (k := 1) rfl (rfl) (by decide) rfl (fun ls hl => ?_)
                        refine lv_iinc (v := (nI 2)) (lv' := [(9, .int (nI 2)), (8, .int (x1823 + 1)), (7, .int r1787), (6, .int (nI 5)), (5, .int x635), (0, .ref g), (1, .int x), (2, .int x2), (3, .int x3), (4, .int x4)]) hx hb dX10_mostAlike_86 hl (k := 1) rfl (nI_1 1) (by decide) rfl (fun ls hl => ?_)
                        refine lv_goto (tgt := 47) hx hb dX10_mostAlike_89 (by decide) ?_
                        exact ihj92 2 (x1823 + 1) H locs ls (by omega) (by omega)  (hP.sub [0, 1, 2, 7, 3, 4, 5, 6] rfl) (hD.sub [0, 1, 2, 7, 3, 4, 5, 6] (by decide) rfl) hS (lv_sub hl [0, 1, 2, 3, 4, 5, 6, 7, 8, 9] rfl)
                    · skip
                      refine va_aldq hx hb hK hP 1 5 rfl rfl (vp_in_nI (by omega) (by decide)) dX10_mostAlike_70 ?_
                      rw [nI_clamp (n := 2) (by omega), show va_rf (fq 2) = .ref k2 from congrArg va_rf hq2]
                      refine lv_iload_n hx hb dX10_mostAlike_71 rfl (lv_at hl 7 rfl) ?_
                      refine lv_iload_n hx hb dX10_mostAlike_72 rfl (lv_at hl 8 rfl) ?_
                      refine lv_iload hx hb dX10_mostAlike_73 (lv_at hl 9 rfl) ?_
                      have hs1873 : kw_Split [(g, .inr (10, [.ref kk, .ref nw, .ref im, .ref kp, .ref tx, .ref tr, .ref be, .ref sh, .ref sd, .ref rf, .int ab, .int bl])), (kk, .inl (y 5, 6, .inr (.inr (.inr (.inr fq))))), (k0, .inr (5, [])), (k1, .inr (8, [])), (k2, .inr (9, [])), (k3, .inr (6, [])), (k4, .inr (2, [])), (k5, .inr (3, []))] [(k2, .inr (9, []))] [(g, .inr (10, [.ref kk, .ref nw, .ref im, .ref kp, .ref tx, .ref tr, .ref be, .ref sh, .ref sd, .ref rf, .int ab, .int bl])), (kk, .inl (y 5, 6, .inr (.inr (.inr (.inr fq))))), (k0, .inr (5, [])), (k1, .inr (8, [])), (k3, .inr (6, [])), (k4, .inr (2, [])), (k5, .inr (3, []))] [4] [0, 1, 2, 3, 5, 6, 7] := ⟨rfl, rfl, rfl, rfl, rfl, by decide⟩
                      refine kw_go_i hs1873 hP hD hS hA (va_runU (As := [.int x2, .int x3, .int x4]) (rest := []) ⟨hx, hb, hml, hown, hts⟩ (gc_Wood_on9 l D y k2 x2 x3 x4  _) (va_cwO 3 hts gX10_mostAlike_X9_sight_u325X9 rfl rfl rfl (List.mem_of_getElem? (i := 24) rfl) (by decide +kernel) ⟨Nat.le_of_ble_eq_true rfl, Nat.le_of_ble_eq_true rfl⟩) (kw_PreV (ci := 9) (q0 := 4) hs1873 hP hD hK hN rfl rfl) rfl rfl hl.1 rfl (lv_room (Nat.le_of_ble_eq_true rfl)) dX10_mostAlike_75 ⟨Nat.le_of_ble_eq_true rfl, Nat.le_of_ble_eq_true rfl⟩) (fun r1874 u1875 H locs hq hP hD hS => ?_)
                      obtain rfl := hq
                      have hP : va_P D vwCl [(g, .inr (10, [.ref kk, .ref nw, .ref im, .ref kp, .ref tx, .ref tr, .ref be, .ref sh, .ref sd, .ref rf, .int ab, .int bl])), (kk, .inl (y 5, 6, .inr (.inr (.inr (.inr fq))))), (k0, .inr (5, [])), (k1, .inr (8, [])), (k3, .inr (6, [])), (k4, .inr (2, [])), (k5, .inr (3, [])), (k2, .inr (9, []))] H := hP
                      have hD : va_D A [(g, .inr (10, [.ref kk, .ref nw, .ref im, .ref kp, .ref tx, .ref tr, .ref be, .ref sh, .ref sd, .ref rf, .int ab, .int bl])), (kk, .inl (y 5, 6, .inr (.inr (.inr (.inr fq))))), (k0, .inr (5, [])), (k1, .inr (8, [])), (k3, .inr (6, [])), (k4, .inr (2, [])), (k5, .inr (3, [])), (k2, .inr (9, []))] := hD
                      refine lv_iload hx hb dX10_mostAlike_78 (lv_at hl 2 rfl) ?_
                      refine lv_icmp_ne (tgt := 86) hx hb dX10_mostAlike_80 (by decide) (fun h1876 => ?_) (fun h1877 => ?_)
                      · skip
                        refine lv_iinc (v := (nI 3)) (lv' := [(9, .int (nI 3)), (8, .int x1823), (7, .int r1787), (6, .int (nI 5)), (5, .int x635), (0, .ref g), (1, .int x), (2, .int x2), (3, .int x3), (4, .int x4)]) hx hb dX10_mostAlike_86 hl (k := 0) rfl (nI_1 2) (by decide) rfl (fun ls hl => ?_)
                        refine lv_goto (tgt := 47) hx hb dX10_mostAlike_89 (by decide) ?_
                        exact ihj92 3 x1823 H locs ls (by omega) (by omega)  (hP.sub [0, 1, 2, 3, 7, 4, 5, 6] rfl) (hD.sub [0, 1, 2, 3, 7, 4, 5, 6] (by decide) rfl) hS (lv_sub hl [0, 1, 2, 3, 4, 5, 6, 7, 8, 9] rfl)
                      · skip
                        refine lv_iinc (v := (x1823 + 1)) (lv' := [(8, .int (x1823 + 1)), (9, .int (nI 2)), (7, .int r1787), (6, .int (nI 5)), (5, .int x635), (0, .ref g), (1, .int x), (2, .int x2), (3, .int x3), (4, .int x4)]) hx hb dX10_mostAlike_83 hl (k := 1) rfl (rfl) (by decide) rfl (fun ls hl => ?_)
                        refine lv_iinc (v := (nI 3)) (lv' := [(9, .int (nI 3)), (8, .int (x1823 + 1)), (7, .int r1787), (6, .int (nI 5)), (5, .int x635), (0, .ref g), (1, .int x), (2, .int x2), (3, .int x3), (4, .int x4)]) hx hb dX10_mostAlike_86 hl (k := 1) rfl (nI_1 2) (by decide) rfl (fun ls hl => ?_)
                        refine lv_goto (tgt := 47) hx hb dX10_mostAlike_89 (by decide) ?_
                        exact ihj92 3 (x1823 + 1) H locs ls (by omega) (by omega)  (hP.sub [0, 1, 2, 3, 7, 4, 5, 6] rfl) (hD.sub [0, 1, 2, 3, 7, 4, 5, 6] (by decide) rfl) hS (lv_sub hl [0, 1, 2, 3, 4, 5, 6, 7, 8, 9] rfl)
                    · skip
                      refine va_aldq hx hb hK hP 1 5 rfl rfl (vp_in_nI (by omega) (by decide)) dX10_mostAlike_70 ?_
                      rw [nI_clamp (n := 3) (by omega), show va_rf (fq 3) = .ref k3 from congrArg va_rf hq3]
                      refine lv_iload_n hx hb dX10_mostAlike_71 rfl (lv_at hl 7 rfl) ?_
                      refine lv_iload_n hx hb dX10_mostAlike_72 rfl (lv_at hl 8 rfl) ?_
                      refine lv_iload hx hb dX10_mostAlike_73 (lv_at hl 9 rfl) ?_
                      have hs1878 : kw_Split [(g, .inr (10, [.ref kk, .ref nw, .ref im, .ref kp, .ref tx, .ref tr, .ref be, .ref sh, .ref sd, .ref rf, .int ab, .int bl])), (kk, .inl (y 5, 6, .inr (.inr (.inr (.inr fq))))), (k0, .inr (5, [])), (k1, .inr (8, [])), (k2, .inr (9, [])), (k3, .inr (6, [])), (k4, .inr (2, [])), (k5, .inr (3, []))] [(k3, .inr (6, []))] [(g, .inr (10, [.ref kk, .ref nw, .ref im, .ref kp, .ref tx, .ref tr, .ref be, .ref sh, .ref sd, .ref rf, .int ab, .int bl])), (kk, .inl (y 5, 6, .inr (.inr (.inr (.inr fq))))), (k0, .inr (5, [])), (k1, .inr (8, [])), (k2, .inr (9, [])), (k4, .inr (2, [])), (k5, .inr (3, []))] [5] [0, 1, 2, 3, 4, 6, 7] := ⟨rfl, rfl, rfl, rfl, rfl, by decide⟩
                      refine kw_go_i hs1878 hP hD hS hA (va_runU (As := [.int x2, .int x3, .int x4]) (rest := []) ⟨hx, hb, hml, hown, hts⟩ (gc_Puddle_on6 l D y k3 x2 x3 x4  _) (va_cwO 3 hts gX10_mostAlike_X6_sight_u325X6 rfl rfl rfl (List.mem_of_getElem? (i := 24) rfl) (by decide +kernel) ⟨Nat.le_of_ble_eq_true rfl, Nat.le_of_ble_eq_true rfl⟩) (kw_PreV (ci := 6) (q0 := 5) hs1878 hP hD hK hN rfl rfl) rfl rfl hl.1 rfl (lv_room (Nat.le_of_ble_eq_true rfl)) dX10_mostAlike_75 ⟨Nat.le_of_ble_eq_true rfl, Nat.le_of_ble_eq_true rfl⟩) (fun r1879 u1880 H locs hq hP hD hS => ?_)
                      obtain rfl := hq
                      have hP : va_P D vwCl [(g, .inr (10, [.ref kk, .ref nw, .ref im, .ref kp, .ref tx, .ref tr, .ref be, .ref sh, .ref sd, .ref rf, .int ab, .int bl])), (kk, .inl (y 5, 6, .inr (.inr (.inr (.inr fq))))), (k0, .inr (5, [])), (k1, .inr (8, [])), (k2, .inr (9, [])), (k4, .inr (2, [])), (k5, .inr (3, [])), (k3, .inr (6, []))] H := hP
                      have hD : va_D A [(g, .inr (10, [.ref kk, .ref nw, .ref im, .ref kp, .ref tx, .ref tr, .ref be, .ref sh, .ref sd, .ref rf, .int ab, .int bl])), (kk, .inl (y 5, 6, .inr (.inr (.inr (.inr fq))))), (k0, .inr (5, [])), (k1, .inr (8, [])), (k2, .inr (9, [])), (k4, .inr (2, [])), (k5, .inr (3, [])), (k3, .inr (6, []))] := hD
                      refine lv_iload hx hb dX10_mostAlike_78 (lv_at hl 2 rfl) ?_
                      refine lv_icmp_ne (tgt := 86) hx hb dX10_mostAlike_80 (by decide) (fun h1881 => ?_) (fun h1882 => ?_)
                      · skip
                        refine lv_iinc (v := (nI 4)) (lv' := [(9, .int (nI 4)), (8, .int x1823), (7, .int r1787), (6, .int (nI 5)), (5, .int x635), (0, .ref g), (1, .int x), (2, .int x2), (3, .int x3), (4, .int x4)]) hx hb dX10_mostAlike_86 hl (k := 0) rfl (nI_1 3) (by decide) rfl (fun ls hl => ?_)
                        refine lv_goto (tgt := 47) hx hb dX10_mostAlike_89 (by decide) ?_
                        exact ihj92 4 x1823 H locs ls (by omega) (by omega)  (hP.sub [0, 1, 2, 3, 4, 7, 5, 6] rfl) (hD.sub [0, 1, 2, 3, 4, 7, 5, 6] (by decide) rfl) hS (lv_sub hl [0, 1, 2, 3, 4, 5, 6, 7, 8, 9] rfl)
                      · skip
                        refine lv_iinc (v := (x1823 + 1)) (lv' := [(8, .int (x1823 + 1)), (9, .int (nI 3)), (7, .int r1787), (6, .int (nI 5)), (5, .int x635), (0, .ref g), (1, .int x), (2, .int x2), (3, .int x3), (4, .int x4)]) hx hb dX10_mostAlike_83 hl (k := 1) rfl (rfl) (by decide) rfl (fun ls hl => ?_)
                        refine lv_iinc (v := (nI 4)) (lv' := [(9, .int (nI 4)), (8, .int (x1823 + 1)), (7, .int r1787), (6, .int (nI 5)), (5, .int x635), (0, .ref g), (1, .int x), (2, .int x2), (3, .int x3), (4, .int x4)]) hx hb dX10_mostAlike_86 hl (k := 1) rfl (nI_1 3) (by decide) rfl (fun ls hl => ?_)
                        refine lv_goto (tgt := 47) hx hb dX10_mostAlike_89 (by decide) ?_
                        exact ihj92 4 (x1823 + 1) H locs ls (by omega) (by omega)  (hP.sub [0, 1, 2, 3, 4, 7, 5, 6] rfl) (hD.sub [0, 1, 2, 3, 4, 7, 5, 6] (by decide) rfl) hS (lv_sub hl [0, 1, 2, 3, 4, 5, 6, 7, 8, 9] rfl)
                    · skip
                      refine va_aldq hx hb hK hP 1 5 rfl rfl (vp_in_nI (by omega) (by decide)) dX10_mostAlike_70 ?_
                      rw [nI_clamp (n := 4) (by omega), show va_rf (fq 4) = .ref k4 from congrArg va_rf hq4]
                      refine lv_iload_n hx hb dX10_mostAlike_71 rfl (lv_at hl 7 rfl) ?_
                      refine lv_iload_n hx hb dX10_mostAlike_72 rfl (lv_at hl 8 rfl) ?_
                      refine lv_iload hx hb dX10_mostAlike_73 (lv_at hl 9 rfl) ?_
                      have hs1883 : kw_Split [(g, .inr (10, [.ref kk, .ref nw, .ref im, .ref kp, .ref tx, .ref tr, .ref be, .ref sh, .ref sd, .ref rf, .int ab, .int bl])), (kk, .inl (y 5, 6, .inr (.inr (.inr (.inr fq))))), (k0, .inr (5, [])), (k1, .inr (8, [])), (k2, .inr (9, [])), (k3, .inr (6, [])), (k4, .inr (2, [])), (k5, .inr (3, []))] [(k4, .inr (2, []))] [(g, .inr (10, [.ref kk, .ref nw, .ref im, .ref kp, .ref tx, .ref tr, .ref be, .ref sh, .ref sd, .ref rf, .int ab, .int bl])), (kk, .inl (y 5, 6, .inr (.inr (.inr (.inr fq))))), (k0, .inr (5, [])), (k1, .inr (8, [])), (k2, .inr (9, [])), (k3, .inr (6, [])), (k5, .inr (3, []))] [6] [0, 1, 2, 3, 4, 5, 7] := ⟨rfl, rfl, rfl, rfl, rfl, by decide⟩
                      refine kw_go_i hs1883 hP hD hS hA (va_runU (As := [.int x2, .int x3, .int x4]) (rest := []) ⟨hx, hb, hml, hown, hts⟩ (gc_Hill_on2 l D y k4 x2 x3 x4  _) (va_cwO 3 hts gX10_mostAlike_X2_sight_u325X2 rfl rfl rfl (List.mem_of_getElem? (i := 24) rfl) (by decide +kernel) ⟨Nat.le_of_ble_eq_true rfl, Nat.le_of_ble_eq_true rfl⟩) (kw_PreV (ci := 2) (q0 := 6) hs1883 hP hD hK hN rfl rfl) rfl rfl hl.1 rfl (lv_room (Nat.le_of_ble_eq_true rfl)) dX10_mostAlike_75 ⟨Nat.le_of_ble_eq_true rfl, Nat.le_of_ble_eq_true rfl⟩) (fun r1884 u1885 H locs hq hP hD hS => ?_)
                      have hP : va_P D vwCl [(g, .inr (10, [.ref kk, .ref nw, .ref im, .ref kp, .ref tx, .ref tr, .ref be, .ref sh, .ref sd, .ref rf, .int ab, .int bl])), (kk, .inl (y 5, 6, .inr (.inr (.inr (.inr fq))))), (k0, .inr (5, [])), (k1, .inr (8, [])), (k2, .inr (9, [])), (k3, .inr (6, [])), (k5, .inr (3, [])), (k4, .inr (2, []))] H := hP
                      have hD : va_D A [(g, .inr (10, [.ref kk, .ref nw, .ref im, .ref kp, .ref tx, .ref tr, .ref be, .ref sh, .ref sd, .ref rf, .int ab, .int bl])), (kk, .inl (y 5, 6, .inr (.inr (.inr (.inr fq))))), (k0, .inr (5, [])), (k1, .inr (8, [])), (k2, .inr (9, [])), (k3, .inr (6, [])), (k5, .inr (3, [])), (k4, .inr (2, []))] := hD
                      refine lv_iload hx hb dX10_mostAlike_78 (lv_at hl 2 rfl) ?_
                      refine lv_icmp_ne (tgt := 86) hx hb dX10_mostAlike_80 (by decide) (fun h1886 => ?_) (fun h1887 => ?_)
                      · skip
                        refine lv_iinc (v := (nI 5)) (lv' := [(9, .int (nI 5)), (8, .int x1823), (7, .int r1787), (6, .int (nI 5)), (5, .int x635), (0, .ref g), (1, .int x), (2, .int x2), (3, .int x3), (4, .int x4)]) hx hb dX10_mostAlike_86 hl (k := 0) rfl (nI_1 4) (by decide) rfl (fun ls hl => ?_)
                        refine lv_goto (tgt := 47) hx hb dX10_mostAlike_89 (by decide) ?_
                        exact ihj92 5 x1823 H locs ls (by omega) (by omega)  (hP.sub [0, 1, 2, 3, 4, 5, 7, 6] rfl) (hD.sub [0, 1, 2, 3, 4, 5, 7, 6] (by decide) rfl) hS (lv_sub hl [0, 1, 2, 3, 4, 5, 6, 7, 8, 9] rfl)
                      · skip
                        refine lv_iinc (v := (x1823 + 1)) (lv' := [(8, .int (x1823 + 1)), (9, .int (nI 4)), (7, .int r1787), (6, .int (nI 5)), (5, .int x635), (0, .ref g), (1, .int x), (2, .int x2), (3, .int x3), (4, .int x4)]) hx hb dX10_mostAlike_83 hl (k := 1) rfl (rfl) (by decide) rfl (fun ls hl => ?_)
                        refine lv_iinc (v := (nI 5)) (lv' := [(9, .int (nI 5)), (8, .int (x1823 + 1)), (7, .int r1787), (6, .int (nI 5)), (5, .int x635), (0, .ref g), (1, .int x), (2, .int x2), (3, .int x3), (4, .int x4)]) hx hb dX10_mostAlike_86 hl (k := 1) rfl (nI_1 4) (by decide) rfl (fun ls hl => ?_)
                        refine lv_goto (tgt := 47) hx hb dX10_mostAlike_89 (by decide) ?_
                        exact ihj92 5 (x1823 + 1) H locs ls (by omega) (by omega)  (hP.sub [0, 1, 2, 3, 4, 5, 7, 6] rfl) (hD.sub [0, 1, 2, 3, 4, 5, 7, 6] (by decide) rfl) hS (lv_sub hl [0, 1, 2, 3, 4, 5, 6, 7, 8, 9] rfl)
                    · skip
                      refine va_aldq hx hb hK hP 1 5 rfl rfl (vp_in_nI (by omega) (by decide)) dX10_mostAlike_70 ?_
                      rw [nI_clamp (n := 5) (by omega), show va_rf (fq 5) = .ref k5 from congrArg va_rf hq5]
                      refine lv_iload_n hx hb dX10_mostAlike_71 rfl (lv_at hl 7 rfl) ?_
                      refine lv_iload_n hx hb dX10_mostAlike_72 rfl (lv_at hl 8 rfl) ?_
                      refine lv_iload hx hb dX10_mostAlike_73 (lv_at hl 9 rfl) ?_
                      have hs1888 : kw_Split [(g, .inr (10, [.ref kk, .ref nw, .ref im, .ref kp, .ref tx, .ref tr, .ref be, .ref sh, .ref sd, .ref rf, .int ab, .int bl])), (kk, .inl (y 5, 6, .inr (.inr (.inr (.inr fq))))), (k0, .inr (5, [])), (k1, .inr (8, [])), (k2, .inr (9, [])), (k3, .inr (6, [])), (k4, .inr (2, [])), (k5, .inr (3, []))] [(k5, .inr (3, []))] [(g, .inr (10, [.ref kk, .ref nw, .ref im, .ref kp, .ref tx, .ref tr, .ref be, .ref sh, .ref sd, .ref rf, .int ab, .int bl])), (kk, .inl (y 5, 6, .inr (.inr (.inr (.inr fq))))), (k0, .inr (5, [])), (k1, .inr (8, [])), (k2, .inr (9, [])), (k3, .inr (6, [])), (k4, .inr (2, []))] [7] [0, 1, 2, 3, 4, 5, 6] := ⟨rfl, rfl, rfl, rfl, rfl, by decide⟩
                      refine kw_go_i hs1888 hP hD hS hA (va_runU (As := [.int x2, .int x3, .int x4]) (rest := []) ⟨hx, hb, hml, hown, hts⟩ (gc_Lane_on3 l D y k5 x2 x3 x4  _) (va_cwO 3 hts gX10_mostAlike_X3_sight_u325X3 rfl rfl rfl (List.mem_of_getElem? (i := 24) rfl) (by decide +kernel) ⟨Nat.le_of_ble_eq_true rfl, Nat.le_of_ble_eq_true rfl⟩) (kw_PreV (ci := 3) (q0 := 7) hs1888 hP hD hK hN rfl rfl) rfl rfl hl.1 rfl (lv_room (Nat.le_of_ble_eq_true rfl)) dX10_mostAlike_75 ⟨Nat.le_of_ble_eq_true rfl, Nat.le_of_ble_eq_true rfl⟩) (fun r1889 u1890 H locs hq hP hD hS => ?_)
                      have hP : va_P D vwCl [(g, .inr (10, [.ref kk, .ref nw, .ref im, .ref kp, .ref tx, .ref tr, .ref be, .ref sh, .ref sd, .ref rf, .int ab, .int bl])), (kk, .inl (y 5, 6, .inr (.inr (.inr (.inr fq))))), (k0, .inr (5, [])), (k1, .inr (8, [])), (k2, .inr (9, [])), (k3, .inr (6, [])), (k4, .inr (2, [])), (k5, .inr (3, []))] H := hP
                      have hD : va_D A [(g, .inr (10, [.ref kk, .ref nw, .ref im, .ref kp, .ref tx, .ref tr, .ref be, .ref sh, .ref sd, .ref rf, .int ab, .int bl])), (kk, .inl (y 5, 6, .inr (.inr (.inr (.inr fq))))), (k0, .inr (5, [])), (k1, .inr (8, [])), (k2, .inr (9, [])), (k3, .inr (6, [])), (k4, .inr (2, [])), (k5, .inr (3, []))] := hD
                      refine lv_iload hx hb dX10_mostAlike_78 (lv_at hl 2 rfl) ?_
                      refine lv_icmp_ne (tgt := 86) hx hb dX10_mostAlike_80 (by decide) (fun h1891 => ?_) (fun h1892 => ?_)
                      · skip
                        refine lv_iinc (v := (nI 6)) (lv' := [(9, .int (nI 6)), (8, .int x1823), (7, .int r1787), (6, .int (nI 5)), (5, .int x635), (0, .ref g), (1, .int x), (2, .int x2), (3, .int x3), (4, .int x4)]) hx hb dX10_mostAlike_86 hl (k := 0) rfl (nI_1 5) (by decide) rfl (fun ls hl => ?_)
                        refine lv_goto (tgt := 47) hx hb dX10_mostAlike_89 (by decide) ?_
                        exact ihj92 6 x1823 H locs ls (by omega) (by omega)  (hP.sub [0, 1, 2, 3, 4, 5, 6, 7] rfl) (hD.sub [0, 1, 2, 3, 4, 5, 6, 7] (by decide) rfl) hS (lv_sub hl [0, 1, 2, 3, 4, 5, 6, 7, 8, 9] rfl)
                      · skip
                        refine lv_iinc (v := (x1823 + 1)) (lv' := [(8, .int (x1823 + 1)), (9, .int (nI 5)), (7, .int r1787), (6, .int (nI 5)), (5, .int x635), (0, .ref g), (1, .int x), (2, .int x2), (3, .int x3), (4, .int x4)]) hx hb dX10_mostAlike_83 hl (k := 1) rfl (rfl) (by decide) rfl (fun ls hl => ?_)
                        refine lv_iinc (v := (nI 6)) (lv' := [(9, .int (nI 6)), (8, .int (x1823 + 1)), (7, .int r1787), (6, .int (nI 5)), (5, .int x635), (0, .ref g), (1, .int x), (2, .int x2), (3, .int x3), (4, .int x4)]) hx hb dX10_mostAlike_86 hl (k := 1) rfl (nI_1 5) (by decide) rfl (fun ls hl => ?_)
                        refine lv_goto (tgt := 47) hx hb dX10_mostAlike_89 (by decide) ?_
                        exact ihj92 6 (x1823 + 1) H locs ls (by omega) (by omega)  (hP.sub [0, 1, 2, 3, 4, 5, 6, 7] rfl) (hD.sub [0, 1, 2, 3, 4, 5, 6, 7] (by decide) rfl) hS (lv_sub hl [0, 1, 2, 3, 4, 5, 6, 7, 8, 9] rfl)
            exact lp1858 (6 + 1) 0 0 _ _ _ (by omega) (by omega)  hP hD hS (lv_sub hl [0, 1, 2, 3, 4, 5, 6, 7, 8, 9] rfl)
        · skip
          refine lv_goto (tgt := 101) hx hb dX10_mostAlike_22 (by decide) ?_
          refine lv_iinc (v := (nI (j91 + 1))) (lv' := [(6, .int (nI (j91 + 1))), (5, .int x635), (0, .ref g), (1, .int x), (2, .int x2), (3, .int x3), (4, .int x4)]) hx hb dX10_mostAlike_101 hl (k := 0) rfl (nI_1 j91) (by decide) rfl (fun ls hl => ?_)
          refine lv_goto (tgt := 6) hx hb dX10_mostAlike_104 (by decide) ?_
          exact ihj91 (j91 + 1) x635 H locs ls (by omega) (by omega)  (hP.sub [0, 1, 2, 3, 4, 5, 6, 7] rfl) (hD.sub [0, 1, 2, 3, 4, 5, 6, 7] (by decide) rfl) hS (lv_sub hl [0, 1, 2, 3, 4, 5, 6] rfl)
  exact lp1264 (6 + 1) 0 0 _ _ _ (by omega) (by omega)  hP hD hS (lv_sub hl [0, 1, 2, 3, 4, 5, 6] rfl)

set_option maxHeartbeats 4000000 in
set_option maxRecDepth 100000 in
theorem gc_bbegin (l : Launch) (D : va_G) (y : Nat → ClassId) (be : Nat) (br : Nat) (bf : Nat) (bm : Int32)  : kw_Mv l yX0_begin wsX0_begin ({ frames := 1, cells := 0, slots := 0, locals := 60 }) D y [.ref be] [(be, .inr (0, [.ref br, .ref bf, .int bm]))] (fun (u : Unit) => True) (fun _ => [(be, .inr (0, [.ref br, .ref bf, .int (-1)]))]) 0 0 := by
  refine kw_Mv.of (cc := cX0_begin) (maxL := 1) (ret := none) (by decide) rfl ?_
  intro pZ eZ s mZ beZ meZ cZ A hE
  obtain ⟨hx, hb, hr, hml, hts, hown, hlocks, hin, hA, hP, hD, hK, hN⟩ := hE
  have hS : va_S A s.heap s.heap [] := va_S.rf
  have hl := lv_entry ([.ref be]) (n := 1) (Nat.le_of_ble_eq_true rfl)
  rw [lg_entry_eq]
  generalize (lg_sl ([.ref be]) ++ List.replicate (1 - (lg_sl ([.ref be])).length) Slot.unset).toArray = ls at hl ⊢
  have hl : lv_has ls 1 [(0, .ref be)] := hl
  have fw1 := hts (.fieldLink RX0 18 "GleanDusk$Best" "most" "I") (List.mem_of_getElem? (i := 1) rfl)
  have iw0 : ∀ w ∈ wsX00, w ∈ wsX0_begin := fun _ h => List.mem_cons_of_mem _ (List.mem_append_right _ h)
  refine lv_aload_n hx hb dX0_begin_0 rfl (lv_at hl 0 rfl) ?_
  refine lv_iconst (v := (-1)) hx hb dX0_begin_1 (by decide) ?_
  refine va_put (D := D) (ci := 0) (v := .int (-1)) (ty := .int) (C := RX0) (T := TX0) (N := 3) hx hb hts iw0 tyX0 tyX0_ok nmX0 hown hK hP hD hS 0 rfl rfl 2 (by decide) fw1 (fun _ h9 => h9) rfl (by decide +kernel) rfl rfl (Nat.le_of_ble_eq_true rfl) dX0_begin_2 (fun H locs hP hD hS => ?_)
  have hP : va_P D vwCl [(be, .inr (0, [.ref br, .ref bf, .int (-1)]))] H := hP
  have hD : va_D A [(be, .inr (0, [.ref br, .ref bf, .int (-1)]))] := hD
  exact W.vret hx hb hr (fun tZ ht hW => ⟨⟨(), rfl, trivial, by rw [ht]; exact hP.sub [0] rfl, hD.sub [0] (by decide) rfl⟩, hS.F ht⟩) hS.2.2 dX0_begin_5

set_option maxHeartbeats 4000000 in
set_option maxRecDepth 100000 in
theorem gc_offer (l : Launch) (D : va_G) (y : Nat → ClassId) (be : Nat) (br : Nat) (bf : Nat) (bm : Int32) (fbr : Nat → Int32) (fbf : Nat → Int32) (x : Int32) (k : Nat) (hkk : k ≤ 6) : kw_Mv l yX0_offer wsX0_offer ({ frames := 1, cells := 0, slots := 0, locals := 60 }) D y [.ref be, .int x, .int (nI k)] [(be, .inr (0, [.ref br, .ref bf, .int bm])), (br, .inl (y 0, 6, .inl fbr)), (bf, .inl (y 0, 6, .inl fbf))] (fun (u : Int32 × (Nat → Int32)) => True) (fun u => [(be, .inr (0, [.ref br, .ref bf, .int u.1])), (br, .inl (y 0, 6, .inl fbr)), (bf, .inl (y 0, 6, .inl u.2))]) 0 0 := by
  refine kw_Mv.of (cc := cX0_offer) (maxL := 3) (ret := none) (by decide) rfl ?_
  intro pZ eZ s mZ beZ meZ cZ A hE
  obtain ⟨hx, hb, hr, hml, hts, hown, hlocks, hin, hA, hP, hD, hK, hN⟩ := hE
  have hS : va_S A s.heap s.heap [] := va_S.rf
  have hl := lv_entry ([.ref be, .int x, .int (nI k)]) (n := 3) (Nat.le_of_ble_eq_true rfl)
  rw [lg_entry_eq]
  generalize (lg_sl ([.ref be, .int x, .int (nI k)]) ++ List.replicate (3 - (lg_sl ([.ref be, .int x, .int (nI k)])).length) Slot.unset).toArray = ls at hl ⊢
  have hl : lv_has ls 3 [(0, .ref be), (1, .int x), (2, .int (nI k))] := hl
  have fw1 := hts (.fieldLink RX0 18 "GleanDusk$Best" "most" "I") (List.mem_of_getElem? (i := 1) rfl)
  have fw2 := hts (.fieldLink RX0 9 "GleanDusk$Best" "row" "[I") (List.mem_of_getElem? (i := 2) rfl)
  have fw3 := hts (.fieldLink RX0 15 "GleanDusk$Best" "first" "[I") (List.mem_of_getElem? (i := 3) rfl)
  have fw4 := hts (.methodLink RX0 22 Lib.Math.min.name) (List.mem_of_getElem? (i := 4) rfl)
  have fw5 := hts (.static Lib.Math.min.name) (List.mem_of_getElem? (i := 5) rfl)
  have fw6 := hts (.initialized "java/lang/Math") (List.mem_of_getElem? (i := 6) rfl)
  have fw7 := hts (.code Lib.Math.min.name Lib.Math.min.code 2 (some .int)) (List.mem_of_getElem? (i := 7) rfl)
  have fw8 := hts (.methodLink RX0 28 arraycopyName) (List.mem_of_getElem? (i := 8) rfl)
  have fw9 := hts (.native arraycopyName) (List.mem_of_getElem? (i := 9) rfl)
  have fw10 := hts (.static arraycopyName) (List.mem_of_getElem? (i := 10) rfl)
  have fw11 := hts (.initialized "java/lang/System") (List.mem_of_getElem? (i := 11) rfl)
  have iw0 : ∀ w ∈ wsX00, w ∈ wsX0_offer := fun _ h => List.mem_cons_of_mem _ (List.mem_append_right _ h)
  refine lv_iload_n hx hb dX0_offer_0 rfl (lv_at hl 1 rfl) ?_
  refine lv_aload_n hx hb dX0_offer_1 rfl (lv_at hl 0 rfl) ?_
  refine va_get (D := D) (ci := 0) (v := .int bm) (C := RX0) (T := TX0) (N := 3) hx hb hts iw0 hown hK hP 0 rfl rfl 2 (by decide) fw1 (fun _ h9 => h9) rfl dX0_offer_2 ?_
  refine lv_icmp_gt (tgt := 9) hx hb dX0_offer_5 (by decide) (fun h1 => ?_) (fun h2 => ?_)
  · skip
    refine lv_aload_n hx hb dX0_offer_9 rfl (lv_at hl 0 rfl) ?_
    refine lv_iload_n hx hb dX0_offer_10 rfl (lv_at hl 1 rfl) ?_
    refine va_put (D := D) (ci := 0) (v := .int x) (ty := .int) (C := RX0) (T := TX0) (N := 3) hx hb hts iw0 tyX0 tyX0_ok nmX0 hown hK hP hD hS 0 rfl rfl 2 (by decide) fw1 (fun _ h9 => h9) rfl (by decide +kernel) rfl rfl (Nat.le_of_ble_eq_true rfl) dX0_offer_11 (fun H locs hP hD hS => ?_)
    have hP : va_P D vwCl [(be, .inr (0, [.ref br, .ref bf, .int x])), (br, .inl (y 0, 6, .inl fbr)), (bf, .inl (y 0, 6, .inl fbf))] H := hP
    have hD : va_D A [(be, .inr (0, [.ref br, .ref bf, .int x])), (br, .inl (y 0, 6, .inl fbr)), (bf, .inl (y 0, 6, .inl fbf))] := hD
    refine lv_aload_n hx hb dX0_offer_14 rfl (lv_at hl 0 rfl) ?_
    refine va_get (D := D) (ci := 0) (v := .ref br) (C := RX0) (T := TX0) (N := 3) hx hb hts iw0 hown hK hP 0 rfl rfl 0 (by decide) fw2 (fun _ h9 => h9) rfl dX0_offer_15 ?_
    refine lv_iconst (v := 0) hx hb dX0_offer_18 (by decide) ?_
    refine lv_aload_n hx hb dX0_offer_19 rfl (lv_at hl 0 rfl) ?_
    refine va_get (D := D) (ci := 0) (v := .ref bf) (C := RX0) (T := TX0) (N := 3) hx hb hts iw0 hown hK hP 0 rfl rfl 1 (by decide) fw3 (fun _ h9 => h9) rfl dX0_offer_20 ?_
    refine lv_iconst (v := 0) hx hb dX0_offer_23 (by decide) ?_
    refine lv_iload_n hx hb dX0_offer_24 rfl (lv_at hl 2 rfl) ?_
    refine lv_bipush (v := 6) hx hb dX0_offer_25 (by decide) ?_
    refine va_mmin hx hb (hml.trans hl.1.symm) hown fw4 fw5 fw6 fw7 (Nat.le_of_ble_eq_true rfl) (Nat.le_of_ble_eq_true rfl) (Nat.le_of_ble_eq_true rfl) (Nat.le_of_ble_eq_true rfl) dX0_offer_27 ?_
    rw [show (if 6 < (nI k) then 6 else (nI k)) = nI (min k 6) from kw_min (a := k) (b := 6) (by omega) (by omega)]
    refine va_copyi hx hb (hml.trans hl.1.symm) hown fw8 fw9 fw10 fw11 hK hP hD hS 1 2 0 0 rfl rfl rfl rfl rfl (by decide) (by decide) (nI_pos (by omega)) (by rw [nI_clamp (by omega)]; show 0 + _ ≤ _; omega) (by rw [nI_clamp (by omega)]; show 0 + _ ≤ _; omega) (fun _ _ => rfl) (Nat.le_of_ble_eq_true rfl) (Nat.le_of_ble_eq_true rfl) dX0_offer_30 (fun H locs hP hD hS => ?_)
    rw [show ((0 : Int32)).toNatClampNeg = 0 from rfl, nI_clamp (n := (min k 6)) (by omega)] at hP hD
    have hP : va_P D vwCl [(be, .inr (0, [.ref br, .ref bf, .int x])), (br, .inl (y 0, 6, .inl fbr)), (bf, .inl (y 0, 6, .inl (va_cpy fbr fbf 0 0 (min k 6))))] H := hP
    have hD : va_D A [(be, .inr (0, [.ref br, .ref bf, .int x])), (br, .inl (y 0, 6, .inl fbr)), (bf, .inl (y 0, 6, .inl (va_cpy fbr fbf 0 0 (min k 6))))] := hD
    exact W.vret hx hb hr (fun tZ ht hW => ⟨⟨(x, (va_cpy fbr fbf 0 0 (min k 6))), rfl, trivial, by rw [ht]; exact hP.sub [0, 1, 2] rfl, hD.sub [0, 1, 2] (by decide) rfl⟩, hS.F ht⟩) hS.2.2 dX0_offer_33
  · skip
    exact W.vret hx hb hr (fun tZ ht hW => ⟨⟨(bm, fbf), rfl, trivial, by rw [ht]; exact hP.sub [0, 1, 2] rfl, hD.sub [0, 1, 2] (by decide) rfl⟩, hS.F ht⟩) hS.2.2 dX0_offer_8

set_option maxHeartbeats 4000000 in
set_option maxRecDepth 100000 in
theorem gc_roam0 (l : Launch) (D : va_G) (y : Nat → ClassId) (g : Nat) (kk : Nat) (nw : Nat) (im : Nat) (kp : Nat) (tx : Nat) (tr : Nat) (be : Nat) (sh : Nat) (sd : Nat) (rf : Nat) (ab : Int32) (bl : Int32) (nk : Nat) (nd : Nat) (ne : Nat) (nm : Nat) (nn : Nat) (fi : Nat) (gl : Nat) (un : Nat) (mi : Nat) (no : Nat) (fk : Nat → Int32) (k0 : Nat) (k1 : Nat) (k2 : Nat) (k3 : Nat) (k4 : Nat) (k5 : Nat) (fq : Nat → Option Nat) (br : Nat) (bf : Nat) (bm : Int32) (fbr : Nat → Int32) (fbf : Nat → Int32) (tl : Nat) (ta : Nat) (ts : Nat) (tst : Int32) (tcl : Int32) (tnu : Int32) (tfl : Nat → Int32) (k : Nat) (dp : Nat) (x : Int32) (hfi : fi ≤ 6) (hgl : gl ≤ 5) (hun : un ≤ 8) (hmi : mi ≤ 4) (hno : no ≤ 6) (hk : kw_bd 6 6 fk) (hq0 : fq 0 = some k0) (hq1 : fq 1 = some k1) (hq2 : fq 2 = some k2) (hq3 : fq 3 = some k3) (hq4 : fq 4 = some k4) (hq5 : fq 5 = some k5) (hkk : k < 6) (hdp : dp + 0 ≤ 6) : kw_Mv l yX10_roam wsX10_roam ({ frames := 2, cells := 0, slots := 0, locals := 82 }) D y [.ref g, .int (nI k), .int (nI dp), .int (nI dp), .int x] [(g, .inr (10, [.ref kk, .ref nw, .ref im, .ref kp, .ref tx, .ref tr, .ref be, .ref sh, .ref sd, .ref rf, .int ab, .int bl])), (nw, .inr (4, [.ref kk, .ref nk, .ref nd, .ref ne, .ref nm, .ref nn, .int (nI fi), .int (nI gl), .int (nI un), .int (nI mi), .int (nI no)])), (nk, .inl (y 0, 6, .inl fk)), (tr, .inr (1, [.ref tl, .ref ta, .ref ts, .int tst, .int tcl, .int tnu])), (tl, .inl (y 0, 6, .inl tfl)), (be, .inr (0, [.ref br, .ref bf, .int bm])), (br, .inl (y 0, 6, .inl fbr)), (bf, .inl (y 0, 6, .inl fbf)), (kk, .inl (y 5, 6, .inr (.inr (.inr (.inr fq))))), (k0, .inr (5, [])), (k1, .inr (8, [])), (k2, .inr (9, [])), (k3, .inr (6, [])), (k4, .inr (2, [])), (k5, .inr (3, []))] (fun (u : Int32 × (Nat → Int32)) => True) (fun u => [(g, .inr (10, [.ref kk, .ref nw, .ref im, .ref kp, .ref tx, .ref tr, .ref be, .ref sh, .ref sd, .ref rf, .int ab, .int bl])), (nw, .inr (4, [.ref kk, .ref nk, .ref nd, .ref ne, .ref nm, .ref nn, .int (nI fi), .int (nI gl), .int (nI un), .int (nI mi), .int (nI no)])), (nk, .inl (y 0, 6, .inl fk)), (tr, .inr (1, [.ref tl, .ref ta, .ref ts, .int tst, .int tcl, .int tnu])), (tl, .inl (y 0, 6, .inl tfl)), (be, .inr (0, [.ref br, .ref bf, .int u.1])), (br, .inl (y 0, 6, .inl fbr)), (bf, .inl (y 0, 6, .inl u.2)), (kk, .inl (y 5, 6, .inr (.inr (.inr (.inr fq))))), (k0, .inr (5, [])), (k1, .inr (8, [])), (k2, .inr (9, [])), (k3, .inr (6, [])), (k4, .inr (2, [])), (k5, .inr (3, []))]) 0 0 := by
  refine kw_Mv.of (cc := cX10_roam) (maxL := 6) (ret := none) (by decide) rfl ?_
  intro pZ eZ s mZ beZ meZ cZ A hE
  obtain ⟨hx, hb, hr, hml, hts, hown, hlocks, hin, hA, hP, hD, hK, hN⟩ := hE
  have hS : va_S A s.heap s.heap [] := va_S.rf
  have hl := lv_entry ([.ref g, .int (nI k), .int (nI dp), .int (nI dp), .int x]) (n := 6) (Nat.le_of_ble_eq_true rfl)
  rw [lg_entry_eq]
  generalize (lg_sl ([.ref g, .int (nI k), .int (nI dp), .int (nI dp), .int x]) ++ List.replicate (6 - (lg_sl ([.ref g, .int (nI k), .int (nI dp), .int (nI dp), .int x])).length) Slot.unset).toArray = ls at hl ⊢
  have hl : lv_has ls 6 [(0, .ref g), (1, .int (nI k)), (2, .int (nI dp)), (3, .int (nI dp)), (4, .int x)] := hl
  have fw1 := hts (.fieldLink RX10 65 "GleanDusk" "best" "LGleanDusk$Best;") (List.mem_of_getElem? (i := 1) rfl)
  have iw10 : ∀ w ∈ wsX100, w ∈ wsX10_roam := fun _ h => List.mem_cons_of_mem _ (List.mem_append_left _ (List.mem_append_left _ (List.mem_append_left _ (List.mem_append_right _ h))))
  refine lv_iload_n hx hb dX10_roam_0 rfl (lv_at hl 2 rfl) ?_
  refine lv_iload_n hx hb dX10_roam_1 rfl (lv_at hl 3 rfl) ?_
  refine lv_icmp_lt (tgt := 16) hx hb dX10_roam_2 (by decide) (fun h1 => ?_) (fun h2 => ?_)
  · skip
    have h1 : dp < dp := (nI_ltI (a := dp) (b := dp) (by omega) (by omega)).mp h1
    exact absurd h1 (by omega)
  · skip
    have h2 : ¬ dp < dp := fun q9 => h2 ((nI_ltI (a := dp) (b := dp) (by omega) (by omega)).mpr q9)
    refine lv_aload_n hx hb dX10_roam_5 rfl (lv_at hl 0 rfl) ?_
    refine va_get (D := D) (ci := 10) (v := .ref be) (C := RX10) (T := TX10) (N := 12) hx hb hts iw10 hown hK hP 0 rfl rfl 6 (by decide) fw1 (fun _ h9 => h9) rfl dX10_roam_6 ?_
    refine lv_iload hx hb dX10_roam_9 (lv_at hl 4 rfl) ?_
    refine lv_iload_n hx hb dX10_roam_11 rfl (lv_at hl 3 rfl) ?_
    have hs3 : kw_Split [(g, .inr (10, [.ref kk, .ref nw, .ref im, .ref kp, .ref tx, .ref tr, .ref be, .ref sh, .ref sd, .ref rf, .int ab, .int bl])), (nw, .inr (4, [.ref kk, .ref nk, .ref nd, .ref ne, .ref nm, .ref nn, .int (nI fi), .int (nI gl), .int (nI un), .int (nI mi), .int (nI no)])), (nk, .inl (y 0, 6, .inl fk)), (tr, .inr (1, [.ref tl, .ref ta, .ref ts, .int tst, .int tcl, .int tnu])), (tl, .inl (y 0, 6, .inl tfl)), (be, .inr (0, [.ref br, .ref bf, .int bm])), (br, .inl (y 0, 6, .inl fbr)), (bf, .inl (y 0, 6, .inl fbf)), (kk, .inl (y 5, 6, .inr (.inr (.inr (.inr fq))))), (k0, .inr (5, [])), (k1, .inr (8, [])), (k2, .inr (9, [])), (k3, .inr (6, [])), (k4, .inr (2, [])), (k5, .inr (3, []))] [(be, .inr (0, [.ref br, .ref bf, .int bm])), (br, .inl (y 0, 6, .inl fbr)), (bf, .inl (y 0, 6, .inl fbf))] [(g, .inr (10, [.ref kk, .ref nw, .ref im, .ref kp, .ref tx, .ref tr, .ref be, .ref sh, .ref sd, .ref rf, .int ab, .int bl])), (nw, .inr (4, [.ref kk, .ref nk, .ref nd, .ref ne, .ref nm, .ref nn, .int (nI fi), .int (nI gl), .int (nI un), .int (nI mi), .int (nI no)])), (nk, .inl (y 0, 6, .inl fk)), (tr, .inr (1, [.ref tl, .ref ta, .ref ts, .int tst, .int tcl, .int tnu])), (tl, .inl (y 0, 6, .inl tfl)), (kk, .inl (y 5, 6, .inr (.inr (.inr (.inr fq))))), (k0, .inr (5, [])), (k1, .inr (8, [])), (k2, .inr (9, [])), (k3, .inr (6, [])), (k4, .inr (2, [])), (k5, .inr (3, []))] [5, 6, 7] [0, 1, 2, 3, 4, 8, 9, 10, 11, 12, 13, 14] := ⟨rfl, rfl, rfl, rfl, rfl, by decide⟩
    refine kw_go_v hs3 hP hD hS hA (va_runV (As := [.int x, .int (nI dp)]) (rest := []) ⟨hx, hb, hml, hown, hts⟩ (gc_offer l D y be br bf bm fbr fbf x dp (by omega) _) (cwV 2 hts gX10_roam_X0_offer rfl rfl rfl (by decide +kernel) ⟨Nat.le_of_ble_eq_true rfl, Nat.le_of_ble_eq_true rfl⟩) (kw_PreV (ci := 0) (q0 := 5) hs3 hP hD hK hN rfl rfl) rfl rfl hl.1 rfl (lv_room (Nat.le_of_ble_eq_true rfl)) dX10_roam_12 ⟨Nat.le_of_ble_eq_true rfl, Nat.le_of_ble_eq_true rfl⟩) (fun u5 H locs hq hP hD hS => ?_)
    obtain ⟨v6, v7⟩ := u5
    have hP : va_P D vwCl [(g, .inr (10, [.ref kk, .ref nw, .ref im, .ref kp, .ref tx, .ref tr, .ref be, .ref sh, .ref sd, .ref rf, .int ab, .int bl])), (nw, .inr (4, [.ref kk, .ref nk, .ref nd, .ref ne, .ref nm, .ref nn, .int (nI fi), .int (nI gl), .int (nI un), .int (nI mi), .int (nI no)])), (nk, .inl (y 0, 6, .inl fk)), (tr, .inr (1, [.ref tl, .ref ta, .ref ts, .int tst, .int tcl, .int tnu])), (tl, .inl (y 0, 6, .inl tfl)), (kk, .inl (y 5, 6, .inr (.inr (.inr (.inr fq))))), (k0, .inr (5, [])), (k1, .inr (8, [])), (k2, .inr (9, [])), (k3, .inr (6, [])), (k4, .inr (2, [])), (k5, .inr (3, [])), (be, .inr (0, [.ref br, .ref bf, .int v6])), (br, .inl (y 0, 6, .inl fbr)), (bf, .inl (y 0, 6, .inl v7))] H := hP
    have hD : va_D A [(g, .inr (10, [.ref kk, .ref nw, .ref im, .ref kp, .ref tx, .ref tr, .ref be, .ref sh, .ref sd, .ref rf, .int ab, .int bl])), (nw, .inr (4, [.ref kk, .ref nk, .ref nd, .ref ne, .ref nm, .ref nn, .int (nI fi), .int (nI gl), .int (nI un), .int (nI mi), .int (nI no)])), (nk, .inl (y 0, 6, .inl fk)), (tr, .inr (1, [.ref tl, .ref ta, .ref ts, .int tst, .int tcl, .int tnu])), (tl, .inl (y 0, 6, .inl tfl)), (kk, .inl (y 5, 6, .inr (.inr (.inr (.inr fq))))), (k0, .inr (5, [])), (k1, .inr (8, [])), (k2, .inr (9, [])), (k3, .inr (6, [])), (k4, .inr (2, [])), (k5, .inr (3, [])), (be, .inr (0, [.ref br, .ref bf, .int v6])), (br, .inl (y 0, 6, .inl fbr)), (bf, .inl (y 0, 6, .inl v7))] := hD
    exact W.vret hx hb hr (fun tZ ht hW => ⟨⟨(v6, v7), rfl, trivial, by rw [ht]; exact hP.sub [0, 1, 2, 3, 4, 12, 13, 14, 5, 6, 7, 8, 9, 10, 11] rfl, hD.sub [0, 1, 2, 3, 4, 12, 13, 14, 5, 6, 7, 8, 9, 10, 11] (by decide) rfl⟩, hS.F ht⟩) hS.2.2 dX10_roam_15
