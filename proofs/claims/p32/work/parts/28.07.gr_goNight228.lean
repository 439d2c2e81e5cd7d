set_option maxHeartbeats 4000000 in
set_option maxRecDepth 100000 in
theorem gr_goNight228 (l : Launch) (D : va_G) (y : Nat → ClassId) (to : Nat) (ft : Nat → Int32) (fi : Nat) (gl : Nat) (mi : Nat) (no : Nat) (un : Nat) (hk0_ : ft 0 = (nI fi)) (hk1_ : ft 1 = (nI gl)) (hk2_ : ft 2 = (nI mi)) (hk3_ : ft 3 = (nI no)) (hk4_ : ft 4 = (nI un)) (hkt : kr_t 228 ft) (hfi : fi ≤ 6) (hgl : gl ≤ 5) (hmi : mi ≤ 4) (hno : no ≤ 6) (hun : un ≤ 8) : kw_Mv l yX11_goNight wsX11_goNight ({ frames := 2, cells := 0, slots := 0, locals := 80 }) D y [.ref to] [(to, .inl (y 0, 228, .inl ft))] (fun (u : (Nat → Int32)) => kr_t 228 u ∧ u 0 = (nI fi) ∧ u 1 = (nI gl) ∧ u 2 = (nI mi) ∧ u 3 = (nI no) ∧ u 4 = (nI un)) (fun u => [(to, .inl (y 0, 228, .inl u))]) 0 0 := by
  refine kw_Mv.of (cc := cX11_goNight) (maxL := 3) (ret := none) (by decide) rfl ?_
  intro pZ eZ s mZ beZ meZ cZ A hE
  obtain ⟨hx, hb, hr, hml, hts, hown, hlocks, hin, hA, hP, hD, hK, hN⟩ := hE
  have hS : va_S A s.heap s.heap [] := va_S.rf
  have hl := lv_entry ([.ref to]) (n := 3) (Nat.le_of_ble_eq_true rfl)
  rw [lg_entry_eq]
  generalize (lg_sl ([.ref to]) ++ List.replicate (3 - (lg_sl ([.ref to])).length) Slot.unset).toArray = ls at hl ⊢
  have hl : lv_has ls 3 [(0, .ref to)] := hl
  refine lv_iconst (v := 0) hx hb dX11_goNight_0 (by decide) ?_
  refine lv_istore_n (lv' := [(1, .int 0), (0, .ref to)]) hx hb dX11_goNight_1 rfl hl (by decide) rfl (fun ls hl => ?_)
  have lp282 : ∀ (fuj91 j91 : Nat) (x141 : Nat → Int32) (H : Heap) (locs : List Loc) (ls : Array Slot), j91 ≤ gl → gl - j91 < fuj91 → kr_t 228 x141 → x141 0 = (nI fi) → x141 1 = (nI gl) → x141 2 = (nI mi) → x141 3 = (nI no) → x141 4 = (nI un) → va_P D vwCl [(to, .inl (y 0, 228, .inl x141))] H → va_D A [(to, .inl (y 0, 228, .inl x141))] → va_S A s.heap H locs → lv_has ls 3 [(1, .int (nI j91)), (0, .ref to)] → W pZ l eZ ({ frames := 2, cells := 0, slots := 0, locals := 80 }) s mZ [.ref to].toArray beZ meZ cZ H locs 0 0 (MQ beZ (va_Qv (fun (u : (Nat → Int32)) => kr_t 228 u ∧ u 0 = (nI fi) ∧ u 1 = (nI gl) ∧ u 2 = (nI mi) ∧ u 3 = (nI no) ∧ u 4 = (nI un)) (kw_B D (fun u => [(to, .inl (y 0, 228, .inl u))]) A) A) [.ref to].toArray s 0 0 A) (F0 mZ 2 ls []) := by
    intro fuj91
    induction fuj91 with
    | zero => intro j91 x141 H locs ls hj9 hf9; exact absurd hf9 (Nat.not_lt_zero _)
    | succ fuj91 ihj91 =>
      intro j91 x141 H locs ls hj91 hfj91 hr_x141 hk_x141_0 hk_x141_1 hk_x141_2 hk_x141_3 hk_x141_4 hP hD hS hl
      refine lv_iload_n hx hb dX11_goNight_2 rfl (lv_at hl 0 rfl) ?_
      refine lv_aload_n hx hb dX11_goNight_3 rfl (lv_at hl 1 rfl) ?_
      refine lv_iconst (v := 1) hx hb dX11_goNight_4 (by decide) ?_
      refine va_iald hx hb hK hP 0 0 rfl rfl (by unfold vp_in; decide) dX11_goNight_5 ?_
      rw [show ((1 : Int32)).toNatClampNeg = 1 from rfl]
      rw [show (x141 1) = (nI gl) from hk_x141_1]
      refine lv_icmp_ge (tgt := 30) hx hb dX11_goNight_6 (by decide) (fun h283 => ?_) (fun h284 => ?_)
      · skip
        have h283 : gl ≤ j91 := (nI_leI (a := gl) (b := j91) (by omega) (by omega)).mp h283
        refine lv_iconst (v := 0) hx hb dX11_goNight_30 (by decide) ?_
        refine lv_istore_n (lv' := [(1, .int 0), (0, .ref to)]) hx hb dX11_goNight_31 rfl hl (by decide) rfl (fun ls hl => ?_)
        have lp370 : ∀ (fuj92 j92 : Nat) (x327 : Nat → Int32) (H : Heap) (locs : List Loc) (ls : Array Slot), j92 ≤ fi → fi - j92 < fuj92 → kr_t 228 x327 → x327 0 = (nI fi) → x327 1 = (nI gl) → x327 2 = (nI mi) → x327 3 = (nI no) → x327 4 = (nI un) → va_P D vwCl [(to, .inl (y 0, 228, .inl x327))] H → va_D A [(to, .inl (y 0, 228, .inl x327))] → va_S A s.heap H locs → lv_has ls 3 [(1, .int (nI j92)), (0, .ref to)] → W pZ l eZ ({ frames := 2, cells := 0, slots := 0, locals := 80 }) s mZ [.ref to].toArray beZ meZ cZ H locs 0 0 (MQ beZ (va_Qv (fun (u : (Nat → Int32)) => kr_t 228 u ∧ u 0 = (nI fi) ∧ u 1 = (nI gl) ∧ u 2 = (nI mi) ∧ u 3 = (nI no) ∧ u 4 = (nI un)) (kw_B D (fun u => [(to, .inl (y 0, 228, .inl u))]) A) A) [.ref to].toArray s 0 0 A) (F0 mZ 32 ls []) := by
          intro fuj92
          induction fuj92 with
          | zero => intro j92 x327 H locs ls hj9 hf9; exact absurd hf9 (Nat.not_lt_zero _)
          | succ fuj92 ihj92 =>
            intro j92 x327 H locs ls hj92 hfj92 hr_x327 hk_x327_0 hk_x327_1 hk_x327_2 hk_x327_3 hk_x327_4 hP hD hS hl
            refine lv_iload_n hx hb dX11_goNight_32 rfl (lv_at hl 0 rfl) ?_
            refine lv_aload_n hx hb dX11_goNight_33 rfl (lv_at hl 1 rfl) ?_
            refine lv_iconst (v := 0) hx hb dX11_goNight_34 (by decide) ?_
            refine va_iald hx hb hK hP 0 0 rfl rfl (by unfold vp_in; decide) dX11_goNight_35 ?_
            rw [show ((0 : Int32)).toNatClampNeg = 0 from rfl]
            rw [show (x327 0) = (nI fi) from hk_x327_0]
            refine lv_icmp_ge (tgt := 71) hx hb dX11_goNight_36 (by decide) (fun h371 => ?_) (fun h372 => ?_)
            · skip
              have h371 : fi ≤ j92 := (nI_leI (a := fi) (b := j92) (by omega) (by omega)).mp h371
              refine lv_aload_n hx hb dX11_goNight_71 rfl (lv_at hl 1 rfl) ?_
              refine lv_bipush (v := 23) hx hb dX11_goNight_72 (by decide) ?_
              refine lv_dup2_11 hx hb dX11_goNight_74 rfl rfl ?_
              refine va_iald hx hb hK hP 0 0 rfl rfl (by unfold vp_in; decide) dX11_goNight_75 ?_
              rw [show ((23 : Int32)).toNatClampNeg = 23 from rfl]
              refine lv_aload_n hx hb dX11_goNight_76 rfl (lv_at hl 1 rfl) ?_
              refine lv_bipush (v := 23) hx hb dX11_goNight_77 (by decide) ?_
              refine va_iald hx hb hK hP 0 0 rfl rfl (by unfold vp_in; decide) dX11_goNight_79 ?_
              rw [show ((23 : Int32)).toNatClampNeg = 23 from rfl]
              refine lv_sipush (v := 999) hx hb dX11_goNight_80 (by decide) ?_
              refine lv_icmp_ge (tgt := 90) hx hb dX11_goNight_83 (by decide) (fun h373 => ?_) (fun h374 => ?_)
              · skip
                refine lv_iconst (v := 0) hx hb dX11_goNight_90 (by decide) ?_
                refine lv_iadd hx hb dX11_goNight_91 ?_
                refine va_iast hx hb hK hP hD hS 0 0 rfl rfl (by unfold vp_in; decide) dX11_goNight_92 (fun H locs hP hD hS => ?_)
                rw [show ((23 : Int32)).toNatClampNeg = 23 from rfl] at hP hD
                have hr375 : kr_t 228 (upd x327 23 ((x327 23) + 0)) := kr_up hr_x327 (kr_free (by unfold kr_a; omega) (by unfold kr_s; omega))
                have hk376 : (upd x327 23 ((x327 23) + 0)) 0 = (nI fi) := (pk_un (by decide)).trans hk_x327_0
                have hk377 : (upd x327 23 ((x327 23) + 0)) 1 = (nI gl) := (pk_un (by decide)).trans hk_x327_1
                have hk378 : (upd x327 23 ((x327 23) + 0)) 2 = (nI mi) := (pk_un (by decide)).trans hk_x327_2
                have hk379 : (upd x327 23 ((x327 23) + 0)) 3 = (nI no) := (pk_un (by decide)).trans hk_x327_3
                have hk380 : (upd x327 23 ((x327 23) + 0)) 4 = (nI un) := (pk_un (by decide)).trans hk_x327_4
                have hP : va_P D vwCl [(to, .inl (y 0, 228, .inl (upd x327 23 ((x327 23) + 0))))] H := hP
                have hD : va_D A [(to, .inl (y 0, 228, .inl (upd x327 23 ((x327 23) + 0))))] := hD
                refine lv_aload_n hx hb dX11_goNight_93 rfl (lv_at hl 1 rfl) ?_
                refine lv_bipush (v := 21) hx hb dX11_goNight_94 (by decide) ?_
                refine lv_iconst (v := 0) hx hb dX11_goNight_96 (by decide) ?_
                refine va_iast hx hb hK hP hD hS 0 0 rfl rfl (by unfold vp_in; decide) dX11_goNight_97 (fun H locs hP hD hS => ?_)
                rw [show ((21 : Int32)).toNatClampNeg = 21 from rfl] at hP hD
                have hr381 : kr_t 228 (upd (upd x327 23 ((x327 23) + 0)) 21 0) := kr_up hr375 (kr_ok0)
                have hk382 : (upd (upd x327 23 ((x327 23) + 0)) 21 0) 0 = (nI fi) := (pk_un (by decide)).trans hk376
                have hk383 : (upd (upd x327 23 ((x327 23) + 0)) 21 0) 1 = (nI gl) := (pk_un (by decide)).trans hk377
                have hk384 : (upd (upd x327 23 ((x327 23) + 0)) 21 0) 2 = (nI mi) := (pk_un (by decide)).trans hk378
                have hk385 : (upd (upd x327 23 ((x327 23) + 0)) 21 0) 3 = (nI no) := (pk_un (by decide)).trans hk379
                have hk386 : (upd (upd x327 23 ((x327 23) + 0)) 21 0) 4 = (nI un) := (pk_un (by decide)).trans hk380
                have hP : va_P D vwCl [(to, .inl (y 0, 228, .inl (upd (upd x327 23 ((x327 23) + 0)) 21 0)))] H := hP
                have hD : va_D A [(to, .inl (y 0, 228, .inl (upd (upd x327 23 ((x327 23) + 0)) 21 0)))] := hD
                exact W.vret hx hb hr (fun tZ ht hW => ⟨⟨((upd (upd x327 23 ((x327 23) + 0)) 21 0)), rfl, ⟨hr381, hk382, hk383, hk384, hk385, hk386⟩, by rw [ht]; exact hP.sub [0] rfl, hD.sub [0] (by decide) rfl⟩, hS.F ht⟩) hS.2.2 dX11_goNight_98
              · skip
                refine lv_iconst (v := 1) hx hb dX11_goNight_86 (by decide) ?_
                refine lv_goto (tgt := 91) hx hb dX11_goNight_87 (by decide) ?_
                refine lv_iadd hx hb dX11_goNight_91 ?_
                refine va_iast hx hb hK hP hD hS 0 0 rfl rfl (by unfold vp_in; decide) dX11_goNight_92 (fun H locs hP hD hS => ?_)
                rw [show ((23 : Int32)).toNatClampNeg = 23 from rfl] at hP hD
                have hr387 : kr_t 228 (upd x327 23 ((x327 23) + 1)) := kr_up hr_x327 (kr_free (by unfold kr_a; omega) (by unfold kr_s; omega))
                have hk388 : (upd x327 23 ((x327 23) + 1)) 0 = (nI fi) := (pk_un (by decide)).trans hk_x327_0
                have hk389 : (upd x327 23 ((x327 23) + 1)) 1 = (nI gl) := (pk_un (by decide)).trans hk_x327_1
                have hk390 : (upd x327 23 ((x327 23) + 1)) 2 = (nI mi) := (pk_un (by decide)).trans hk_x327_2
                have hk391 : (upd x327 23 ((x327 23) + 1)) 3 = (nI no) := (pk_un (by decide)).trans hk_x327_3
                have hk392 : (upd x327 23 ((x327 23) + 1)) 4 = (nI un) := (pk_un (by decide)).trans hk_x327_4
                have hP : va_P D vwCl [(to, .inl (y 0, 228, .inl (upd x327 23 ((x327 23) + 1))))] H := hP
                have hD : va_D A [(to, .inl (y 0, 228, .inl (upd x327 23 ((x327 23) + 1))))] := hD
                refine lv_aload_n hx hb dX11_goNight_93 rfl (lv_at hl 1 rfl) ?_
                refine lv_bipush (v := 21) hx hb dX11_goNight_94 (by decide) ?_
                refine lv_iconst (v := 0) hx hb dX11_goNight_96 (by decide) ?_
                refine va_iast hx hb hK hP hD hS 0 0 rfl rfl (by unfold vp_in; decide) dX11_goNight_97 (fun H locs hP hD hS => ?_)
                rw [show ((21 : Int32)).toNatClampNeg = 21 from rfl] at hP hD
                have hr393 : kr_t 228 (upd (upd x327 23 ((x327 23) + 1)) 21 0) := kr_up hr387 (kr_ok0)
                have hk394 : (upd (upd x327 23 ((x327 23) + 1)) 21 0) 0 = (nI fi) := (pk_un (by decide)).trans hk388
                have hk395 : (upd (upd x327 23 ((x327 23) + 1)) 21 0) 1 = (nI gl) := (pk_un (by decide)).trans hk389
                have hk396 : (upd (upd x327 23 ((x327 23) + 1)) 21 0) 2 = (nI mi) := (pk_un (by decide)).trans hk390
                have hk397 : (upd (upd x327 23 ((x327 23) + 1)) 21 0) 3 = (nI no) := (pk_un (by decide)).trans hk391
                have hk398 : (upd (upd x327 23 ((x327 23) + 1)) 21 0) 4 = (nI un) := (pk_un (by decide)).trans hk392
                have hP : va_P D vwCl [(to, .inl (y 0, 228, .inl (upd (upd x327 23 ((x327 23) + 1)) 21 0)))] H := hP
                have hD : va_D A [(to, .inl (y 0, 228, .inl (upd (upd x327 23 ((x327 23) + 1)) 21 0)))] := hD
                exact W.vret hx hb hr (fun tZ ht hW => ⟨⟨((upd (upd x327 23 ((x327 23) + 1)) 21 0)), rfl, ⟨hr393, hk394, hk395, hk396, hk397, hk398⟩, by rw [ht]; exact hP.sub [0] rfl, hD.sub [0] (by decide) rfl⟩, hS.F ht⟩) hS.2.2 dX11_goNight_98
            · skip
              have h372 : ¬ fi ≤ j92 := fun q9 => h372 ((nI_leI (a := fi) (b := j92) (by omega) (by omega)).mpr q9)
              refine lv_aload_n hx hb dX11_goNight_39 rfl (lv_at hl 1 rfl) ?_
              refine lv_iconst (v := 5) hx hb dX11_goNight_40 (by decide) ?_
              refine lv_iload_n hx hb dX11_goNight_41 rfl (lv_at hl 0 rfl) ?_
              refine lv_iadd hx hb dX11_goNight_42 ?_
              rw [show 5 + (nI j92) = nI (j92 + 5) from (nI_add 5 j92).trans (congrArg nI (by omega))]
              refine va_iald hx hb hK hP 0 0 rfl rfl (vp_in_nI (by omega) (by decide)) dX11_goNight_43 ?_
              rw [nI_clamp (n := (j92 + 5)) (by omega)]
              refine lv_bipush (v := 20) hx hb dX11_goNight_44 (by decide) ?_
              refine lv_iadd hx hb dX11_goNight_46 ?_
              refine lv_istore_n (lv' := [(2, .int ((x327 (j92 + 5)) + 20)), (1, .int (nI j92)), (0, .ref to)]) hx hb dX11_goNight_47 rfl hl (by decide) rfl (fun ls hl => ?_)
              refine lv_aload_n hx hb dX11_goNight_48 rfl (lv_at hl 2 rfl) ?_
              refine lv_iconst (v := 5) hx hb dX11_goNight_49 (by decide) ?_
              refine lv_iload_n hx hb dX11_goNight_50 rfl (lv_at hl 1 rfl) ?_
              refine lv_iadd hx hb dX11_goNight_51 ?_
              rw [show 5 + (nI j92) = nI (j92 + 5) from (nI_add 5 j92).trans (congrArg nI (by omega))]
              refine lv_iload_n hx hb dX11_goNight_52 rfl (lv_at hl 0 rfl) ?_
              refine lv_bipush (v := 60) hx hb dX11_goNight_53 (by decide) ?_
              refine lv_icmp_le (tgt := 63) hx hb dX11_goNight_55 (by decide) (fun h399 => ?_) (fun h400 => ?_)
              · skip
                refine lv_iload_n hx hb dX11_goNight_63 rfl (lv_at hl 0 rfl) ?_
                refine va_iast hx hb hK hP hD hS 0 0 rfl rfl (vp_in_nI (by omega) (by decide)) dX11_goNight_64 (fun H locs hP hD hS => ?_)
                rw [nI_clamp (n := (j92 + 5)) (by omega)] at hP hD
                have hr401 : kr_t 228 (upd x327 (j92 + 5) ((x327 (j92 + 5)) + 20)) := kr_up hr_x327 (kr_free (by unfold kr_a; omega) (by unfold kr_s; omega))
                have hk402 : (upd x327 (j92 + 5) ((x327 (j92 + 5)) + 20)) 0 = (nI fi) := (pk_un (by omega)).trans hk_x327_0
                have hk403 : (upd x327 (j92 + 5) ((x327 (j92 + 5)) + 20)) 1 = (nI gl) := (pk_un (by omega)).trans hk_x327_1
                have hk404 : (upd x327 (j92 + 5) ((x327 (j92 + 5)) + 20)) 2 = (nI mi) := (pk_un (by omega)).trans hk_x327_2
                have hk405 : (upd x327 (j92 + 5) ((x327 (j92 + 5)) + 20)) 3 = (nI no) := (pk_un (by omega)).trans hk_x327_3
                have hk406 : (upd x327 (j92 + 5) ((x327 (j92 + 5)) + 20)) 4 = (nI un) := (pk_un (by omega)).trans hk_x327_4
                have hP : va_P D vwCl [(to, .inl (y 0, 228, .inl (upd x327 (j92 + 5) ((x327 (j92 + 5)) + 20))))] H := hP
                have hD : va_D A [(to, .inl (y 0, 228, .inl (upd x327 (j92 + 5) ((x327 (j92 + 5)) + 20))))] := hD
                refine lv_iinc (v := (nI (j92 + 1))) (lv' := [(1, .int (nI (j92 + 1))), (2, .int ((x327 (j92 + 5)) + 20)), (0, .ref to)]) hx hb dX11_goNight_65 hl (k := 1) rfl (nI_1 j92) (by decide) rfl (fun ls hl => ?_)
                refine lv_goto (tgt := 32) hx hb dX11_goNight_68 (by decide) ?_
                exact ihj92 (j92 + 1) (upd x327 (j92 + 5) ((x327 (j92 + 5)) + 20)) H locs ls (by omega) (by omega) hr401 hk402 hk403 hk404 hk405 hk406 (hP.sub [0] rfl) (hD.sub [0] (by decide) rfl) hS (lv_sub hl [0, 2] rfl)
              · skip
                refine lv_bipush (v := 60) hx hb dX11_goNight_58 (by decide) ?_
                refine lv_goto (tgt := 64) hx hb dX11_goNight_60 (by decide) ?_
                refine va_iast hx hb hK hP hD hS 0 0 rfl rfl (vp_in_nI (by omega) (by decide)) dX11_goNight_64 (fun H locs hP hD hS => ?_)
                rw [nI_clamp (n := (j92 + 5)) (by omega)] at hP hD
                have hr407 : kr_t 228 (upd x327 (j92 + 5) 60) := kr_up hr_x327 (kr_free (by unfold kr_a; omega) (by unfold kr_s; omega))
                have hk408 : (upd x327 (j92 + 5) 60) 0 = (nI fi) := (pk_un (by omega)).trans hk_x327_0
                have hk409 : (upd x327 (j92 + 5) 60) 1 = (nI gl) := (pk_un (by omega)).trans hk_x327_1
                have hk410 : (upd x327 (j92 + 5) 60) 2 = (nI mi) := (pk_un (by omega)).trans hk_x327_2
                have hk411 : (upd x327 (j92 + 5) 60) 3 = (nI no) := (pk_un (by omega)).trans hk_x327_3
                have hk412 : (upd x327 (j92 + 5) 60) 4 = (nI un) := (pk_un (by omega)).trans hk_x327_4
                have hP : va_P D vwCl [(to, .inl (y 0, 228, .inl (upd x327 (j92 + 5) 60)))] H := hP
                have hD : va_D A [(to, .inl (y 0, 228, .inl (upd x327 (j92 + 5) 60)))] := hD
                refine lv_iinc (v := (nI (j92 + 1))) (lv' := [(1, .int (nI (j92 + 1))), (2, .int ((x327 (j92 + 5)) + 20)), (0, .ref to)]) hx hb dX11_goNight_65 hl (k := 1) rfl (nI_1 j92) (by decide) rfl (fun ls hl => ?_)
                refine lv_goto (tgt := 32) hx hb dX11_goNight_68 (by decide) ?_
                exact ihj92 (j92 + 1) (upd x327 (j92 + 5) 60) H locs ls (by omega) (by omega) hr407 hk408 hk409 hk410 hk411 hk412 (hP.sub [0] rfl) (hD.sub [0] (by decide) rfl) hS (lv_sub hl [0, 2] rfl)
        exact lp370 (fi + 1) 0 x141 _ _ _ (by omega) (by omega) hr_x141 hk_x141_0 hk_x141_1 hk_x141_2 hk_x141_3 hk_x141_4 hP hD hS (lv_sub hl [0, 1] rfl)
      · skip
        have h284 : ¬ gl ≤ j91 := fun q9 => h284 ((nI_leI (a := gl) (b := j91) (by omega) (by omega)).mpr q9)
        refine lv_aload_n hx hb dX11_goNight_9 rfl (lv_at hl 1 rfl) ?_
        refine lv_bipush (v := 16) hx hb dX11_goNight_10 (by decide) ?_
        refine lv_iload_n hx hb dX11_goNight_12 rfl (lv_at hl 0 rfl) ?_
        refine lv_iadd hx hb dX11_goNight_13 ?_
        rw [show 16 + (nI j91) = nI (j91 + 16) from (nI_add 16 j91).trans (congrArg nI (by omega))]
        refine lv_aload_n hx hb dX11_goNight_14 rfl (lv_at hl 1 rfl) ?_
        refine lv_bipush (v := 16) hx hb dX11_goNight_15 (by decide) ?_
        refine lv_iload_n hx hb dX11_goNight_17 rfl (lv_at hl 0 rfl) ?_
        refine lv_iadd hx hb dX11_goNight_18 ?_
        rw [show 16 + (nI j91) = nI (j91 + 16) from (nI_add 16 j91).trans (congrArg nI (by omega))]
        refine va_iald hx hb hK hP 0 0 rfl rfl (vp_in_nI (by omega) (by decide)) dX11_goNight_19 ?_
        rw [nI_clamp (n := (j91 + 16)) (by omega)]
        have hs413 : kw_Split [(to, .inl (y 0, 228, .inl x141))] [] [(to, .inl (y 0, 228, .inl x141))] [] [0] := ⟨rfl, rfl, rfl, rfl, rfl, by decide⟩
        refine kw_go_i hs413 hP hD hS hA (va_runS (As := [.int (x141 (j91 + 16))]) (rest := [.int (nI (j91 + 16)), .ref to]) ⟨hx, hb, hml, hown, hts⟩ (gr_fadedBy l D y (x141 (j91 + 16)) ((hr_x141 (j91 + 16) (by omega)).2 (by unfold kr_s; omega)) _) (va_cwS 1 hts gX11_goNight_X11_fadedBy rfl rfl rfl (by decide +kernel) ⟨Nat.le_of_ble_eq_true rfl, Nat.le_of_ble_eq_true rfl⟩) (kw_PreS hs413 hP hD hK hN) rfl rfl hl.1 rfl (lv_room (Nat.le_of_ble_eq_true rfl)) dX11_goNight_20 ⟨Nat.le_of_ble_eq_true rfl, Nat.le_of_ble_eq_true rfl⟩) (fun r414 u415 H locs hq hP hD hS => ?_)
        obtain ⟨h416, rfl⟩ := hq
        have hP : va_P D vwCl [(to, .inl (y 0, 228, .inl x141))] H := hP
        have hD : va_D A [(to, .inl (y 0, 228, .inl x141))] := hD
        refine va_iast hx hb hK hP hD hS 0 0 rfl rfl (vp_in_nI (by omega) (by decide)) dX11_goNight_23 (fun H locs hP hD hS => ?_)
        rw [nI_clamp (n := (j91 + 16)) (by omega)] at hP hD
        have hr417 : kr_t 228 (upd x141 (j91 + 16) ((x141 (j91 + 16)) - (((x141 (j91 + 16)) + 3) / 4))) := kr_up hr_x141 (kr_oks (by unfold kr_a; omega) (h416))
        have hk418 : (upd x141 (j91 + 16) ((x141 (j91 + 16)) - (((x141 (j91 + 16)) + 3) / 4))) 0 = (nI fi) := (pk_un (by omega)).trans hk_x141_0
        have hk419 : (upd x141 (j91 + 16) ((x141 (j91 + 16)) - (((x141 (j91 + 16)) + 3) / 4))) 1 = (nI gl) := (pk_un (by omega)).trans hk_x141_1
        have hk420 : (upd x141 (j91 + 16) ((x141 (j91 + 16)) - (((x141 (j91 + 16)) + 3) / 4))) 2 = (nI mi) := (pk_un (by omega)).trans hk_x141_2
        have hk421 : (upd x141 (j91 + 16) ((x141 (j91 + 16)) - (((x141 (j91 + 16)) + 3) / 4))) 3 = (nI no) := (pk_un (by omega)).trans hk_x141_3
        have hk422 : (upd x141 (j91 + 16) ((x141 (j91 + 16)) - (((x141 (j91 + 16)) + 3) / 4))) 4 = (nI un) := (pk_un (by omega)).trans hk_x141_4
        have hP : va_P D vwCl [(to, .inl (y 0, 228, .inl (upd x141 (j91 + 16) ((x141 (j91 + 16)) - (((x141 (j91 + 16)) + 3) / 4)))))] H := hP
        have hD : va_D A [(to, .inl (y 0, 228, .inl (upd x141 (j91 + 16) ((x141 (j91 + 16)) - (((x141 (j91 + 16)) + 3) / 4)))))] := hD
        refine lv_iinc (v := (nI (j91 + 1))) (lv' := [(1, .int (nI (j91 + 1))), (0, .ref to)]) hx hb dX11_goNight_24 hl (k := 0) rfl (nI_1 j91) (by decide) rfl (fun ls hl => ?_)
        refine lv_goto (tgt := 2) hx hb dX11_goNight_27 (by decide) ?_
        exact ihj91 (j91 + 1) (upd x141 (j91 + 16) ((x141 (j91 + 16)) - (((x141 (j91 + 16)) + 3) / 4))) H locs ls (by omega) (by omega) hr417 hk418 hk419 hk420 hk421 hk422 (hP.sub [0] rfl) (hD.sub [0] (by decide) rfl) hS (lv_sub hl [0, 1] rfl)
  exact lp282 (gl + 1) 0 ft _ _ _ (by omega) (by omega) hkt hk0_ hk1_ hk2_ hk3_ hk4_ hP hD hS (lv_sub hl [0, 1] rfl)

set_option maxHeartbeats 4000000 in
set_option maxRecDepth 100000 in
theorem gr_goNight30 (l : Launch) (D : va_G) (y : Nat → ClassId) (to : Nat) (ft : Nat → Int32) (fi : Nat) (gl : Nat) (hk0_ : ft 0 = (nI fi)) (hk1_ : ft 1 = (nI gl)) (hkt : kr_t 30 ft) (hfi : fi ≤ 6) (hgl : gl ≤ 5) : kw_Mv l yX11_goNight wsX11_goNight ({ frames := 2, cells := 0, slots := 0, locals := 80 }) D y [.ref to] [(to, .inl (y 0, 30, .inl ft))] (fun (u : (Nat → Int32)) => kr_t 30 u ∧ u 0 = (nI fi) ∧ u 1 = (nI gl)) (fun u => [(to, .inl (y 0, 30, .inl u))]) 0 0 := by
  refine kw_Mv.of (cc := cX11_goNight) (maxL := 3) (ret := none) (by decide) rfl ?_
  intro pZ eZ s mZ beZ meZ cZ A hE
  obtain ⟨hx, hb, hr, hml, hts, hown, hlocks, hin, hA, hP, hD, hK, hN⟩ := hE
  have hS : va_S A s.heap s.heap [] := va_S.rf
  have hl := lv_entry ([.ref to]) (n := 3) (Nat.le_of_ble_eq_true rfl)
  rw [lg_entry_eq]
  generalize (lg_sl ([.ref to]) ++ List.replicate (3 - (lg_sl ([.ref to])).length) Slot.unset).toArray = ls at hl ⊢
  have hl : lv_has ls 3 [(0, .ref to)] := hl
  refine lv_iconst (v := 0) hx hb dX11_goNight_0 (by decide) ?_
  refine lv_istore_n (lv' := [(1, .int 0), (0, .ref to)]) hx hb dX11_goNight_1 rfl hl (by decide) rfl (fun ls hl => ?_)
  have lp168 : ∀ (fuj91 j91 : Nat) (x84 : Nat → Int32) (H : Heap) (locs : List Loc) (ls : Array Slot), j91 ≤ gl → gl - j91 < fuj91 → kr_t 30 x84 → x84 0 = (nI fi) → x84 1 = (nI gl) → va_P D vwCl [(to, .inl (y 0, 30, .inl x84))] H → va_D A [(to, .inl (y 0, 30, .inl x84))] → va_S A s.heap H locs → lv_has ls 3 [(1, .int (nI j91)), (0, .ref to)] → W pZ l eZ ({ frames := 2, cells := 0, slots := 0, locals := 80 }) s mZ [.ref to].toArray beZ meZ cZ H locs 0 0 (MQ beZ (va_Qv (fun (u : (Nat → Int32)) => kr_t 30 u ∧ u 0 = (nI fi) ∧ u 1 = (nI gl)) (kw_B D (fun u => [(to, .inl (y 0, 30, .inl u))]) A) A) [.ref to].toArray s 0 0 A) (F0 mZ 2 ls []) := by
    intro fuj91
    induction fuj91 with
    | zero => intro j91 x84 H locs ls hj9 hf9; exact absurd hf9 (Nat.not_lt_zero _)
    | succ fuj91 ihj91 =>
      intro j91 x84 H locs ls hj91 hfj91 hr_x84 hk_x84_0 hk_x84_1 hP hD hS hl
      refine lv_iload_n hx hb dX11_goNight_2 rfl (lv_at hl 0 rfl) ?_
      refine lv_aload_n hx hb dX11_goNight_3 rfl (lv_at hl 1 rfl) ?_
      refine lv_iconst (v := 1) hx hb dX11_goNight_4 (by decide) ?_
      refine va_iald hx hb hK hP 0 0 rfl rfl (by unfold vp_in; decide) dX11_goNight_5 ?_
      rw [show ((1 : Int32)).toNatClampNeg = 1 from rfl]
      rw [show (x84 1) = (nI gl) from hk_x84_1]
      refine lv_icmp_ge (tgt := 30) hx hb dX11_goNight_6 (by decide) (fun h169 => ?_) (fun h170 => ?_)
      · skip
        have h169 : gl ≤ j91 := (nI_leI (a := gl) (b := j91) (by omega) (by omega)).mp h169
        refine lv_iconst (v := 0) hx hb dX11_goNight_30 (by decide) ?_
        refine lv_istore_n (lv' := [(1, .int 0), (0, .ref to)]) hx hb dX11_goNight_31 rfl hl (by decide) rfl (fun ls hl => ?_)
        have lp220 : ∀ (fuj92 j92 : Nat) (x195 : Nat → Int32) (H : Heap) (locs : List Loc) (ls : Array Slot), j92 ≤ fi → fi - j92 < fuj92 → kr_t 30 x195 → x195 0 = (nI fi) → x195 1 = (nI gl) → va_P D vwCl [(to, .inl (y 0, 30, .inl x195))] H → va_D A [(to, .inl (y 0, 30, .inl x195))] → va_S A s.heap H locs → lv_has ls 3 [(1, .int (nI j92)), (0, .ref to)] → W pZ l eZ ({ frames := 2, cells := 0, slots := 0, locals := 80 }) s mZ [.ref to].toArray beZ meZ cZ H locs 0 0 (MQ beZ (va_Qv (fun (u : (Nat → Int32)) => kr_t 30 u ∧ u 0 = (nI fi) ∧ u 1 = (nI gl)) (kw_B D (fun u => [(to, .inl (y 0, 30, .inl u))]) A) A) [.ref to].toArray s 0 0 A) (F0 mZ 32 ls []) := by
          intro fuj92
          induction fuj92 with
          | zero => intro j92 x195 H locs ls hj9 hf9; exact absurd hf9 (Nat.not_lt_zero _)
          | succ fuj92 ihj92 =>
            intro j92 x195 H locs ls hj92 hfj92 hr_x195 hk_x195_0 hk_x195_1 hP hD hS hl
            refine lv_iload_n hx hb dX11_goNight_32 rfl (lv_at hl 0 rfl) ?_
            refine lv_aload_n hx hb dX11_goNight_33 rfl (lv_at hl 1 rfl) ?_
            refine lv_iconst (v := 0) hx hb dX11_goNight_34 (by decide) ?_
            refine va_iald hx hb hK hP 0 0 rfl rfl (by unfold vp_in; decide) dX11_goNight_35 ?_
            rw [show ((0 : Int32)).toNatClampNeg = 0 from rfl]
            rw [show (x195 0) = (nI fi) from hk_x195_0]
            refine lv_icmp_ge (tgt := 71) hx hb dX11_goNight_36 (by decide) (fun h221 => ?_) (fun h222 => ?_)
            · skip
              have h221 : fi ≤ j92 := (nI_leI (a := fi) (b := j92) (by omega) (by omega)).mp h221
              refine lv_aload_n hx hb dX11_goNight_71 rfl (lv_at hl 1 rfl) ?_
              refine lv_bipush (v := 23) hx hb dX11_goNight_72 (by decide) ?_
              refine lv_dup2_11 hx hb dX11_goNight_74 rfl rfl ?_
              refine va_iald hx hb hK hP 0 0 rfl rfl (by unfold vp_in; decide) dX11_goNight_75 ?_
              rw [show ((23 : Int32)).toNatClampNeg = 23 from rfl]
              refine lv_aload_n hx hb dX11_goNight_76 rfl (lv_at hl 1 rfl) ?_
              refine lv_bipush (v := 23) hx hb dX11_goNight_77 (by decide) ?_
              refine va_iald hx hb hK hP 0 0 rfl rfl (by unfold vp_in; decide) dX11_goNight_79 ?_
              rw [show ((23 : Int32)).toNatClampNeg = 23 from rfl]
              refine lv_sipush (v := 999) hx hb dX11_goNight_80 (by decide) ?_
              refine lv_icmp_ge (tgt := 90) hx hb dX11_goNight_83 (by decide) (fun h223 => ?_) (fun h224 => ?_)
              · skip
                refine lv_iconst (v := 0) hx hb dX11_goNight_90 (by decide) ?_
                refine lv_iadd hx hb dX11_goNight_91 ?_
                refine va_iast hx hb hK hP hD hS 0 0 rfl rfl (by unfold vp_in; decide) dX11_goNight_92 (fun H locs hP hD hS => ?_)
                rw [show ((23 : Int32)).toNatClampNeg = 23 from rfl] at hP hD
                have hr225 : kr_t 30 (upd x195 23 ((x195 23) + 0)) := kr_up hr_x195 (kr_free (by unfold kr_a; omega) (by unfold kr_s; omega))
                have hk226 : (upd x195 23 ((x195 23) + 0)) 0 = (nI fi) := (pk_un (by decide)).trans hk_x195_0
                have hk227 : (upd x195 23 ((x195 23) + 0)) 1 = (nI gl) := (pk_un (by decide)).trans hk_x195_1
                have hP : va_P D vwCl [(to, .inl (y 0, 30, .inl (upd x195 23 ((x195 23) + 0))))] H := hP
                have hD : va_D A [(to, .inl (y 0, 30, .inl (upd x195 23 ((x195 23) + 0))))] := hD
                refine lv_aload_n hx hb dX11_goNight_93 rfl (lv_at hl 1 rfl) ?_
                refine lv_bipush (v := 21) hx hb dX11_goNight_94 (by decide) ?_
                refine lv_iconst (v := 0) hx hb dX11_goNight_96 (by decide) ?_
                refine va_iast hx hb hK hP hD hS 0 0 rfl rfl (by unfold vp_in; decide) dX11_goNight_97 (fun H locs hP hD hS => ?_)
                rw [show ((21 : Int32)).toNatClampNeg = 21 from rfl] at hP hD
                have hr228 : kr_t 30 (upd (upd x195 23 ((x195 23) + 0)) 21 0) := kr_up hr225 (kr_ok0)
                have hk229 : (upd (upd x195 23 ((x195 23) + 0)) 21 0) 0 = (nI fi) := (pk_un (by decide)).trans hk226
                have hk230 : (upd (upd x195 23 ((x195 23) + 0)) 21 0) 1 = (nI gl) := (pk_un (by decide)).trans hk227
                have hP : va_P D vwCl [(to, .inl (y 0, 30, .inl (upd (upd x195 23 ((x195 23) + 0)) 21 0)))] H := hP
                have hD : va_D A [(to, .inl (y 0, 30, .inl (upd (upd x195 23 ((x195 23) + 0)) 21 0)))] := hD
                exact W.vret hx hb hr (fun tZ ht hW => ⟨⟨((upd (upd x195 23 ((x195 23) + 0)) 21 0)), rfl, ⟨hr228, hk229, hk230⟩, by rw [ht]; exact hP.sub [0] rfl, hD.sub [0] (by decide) rfl⟩, hS.F ht⟩) hS.2.2 dX11_goNight_98
              · skip
                refine lv_iconst (v := 1) hx hb dX11_goNight_86 (by decide) ?_
                refine lv_goto (tgt := 91) hx hb dX11_goNight_87 (by decide) ?_
                refine lv_iadd hx hb dX11_goNight_91 ?_
                refine va_iast hx hb hK hP hD hS 0 0 rfl rfl (by unfold vp_in; decide) dX11_goNight_92 (fun H locs hP hD hS => ?_)
                rw [show ((23 : Int32)).toNatClampNeg = 23 from rfl] at hP hD
                have hr231 : kr_t 30 (upd x195 23 ((x195 23) + 1)) := kr_up hr_x195 (kr_free (by unfold kr_a; omega) (by unfold kr_s; omega))
                have hk232 : (upd x195 23 ((x195 23) + 1)) 0 = (nI fi) := (pk_un (by decide)).trans hk_x195_0
                have hk233 : (upd x195 23 ((x195 23) + 1)) 1 = (nI gl) := (pk_un (by decide)).trans hk_x195_1
                have hP : va_P D vwCl [(to, .inl (y 0, 30, .inl (upd x195 23 ((x195 23) + 1))))] H := hP
                have hD : va_D A [(to, .inl (y 0, 30, .inl (upd x195 23 ((x195 23) + 1))))] := hD
                refine lv_aload_n hx hb dX11_goNight_93 rfl (lv_at hl 1 rfl) ?_
                refine lv_bipush (v := 21) hx hb dX11_goNight_94 (by decide) ?_
                refine lv_iconst (v := 0) hx hb dX11_goNight_96 (by decide) ?_
                refine va_iast hx hb hK hP hD hS 0 0 rfl rfl (by unfold vp_in; decide) dX11_goNight_97 (fun H locs hP hD hS => ?_)
                rw [show ((21 : Int32)).toNatClampNeg = 21 from rfl] at hP hD
                have hr234 : kr_t 30 (upd (upd x195 23 ((x195 23) + 1)) 21 0) := kr_up hr231 (kr_ok0)
                have hk235 : (upd (upd x195 23 ((x195 23) + 1)) 21 0) 0 = (nI fi) := (pk_un (by decide)).trans hk232
                have hk236 : (upd (upd x195 23 ((x195 23) + 1)) 21 0) 1 = (nI gl) := (pk_un (by decide)).trans hk233
                have hP : va_P D vwCl [(to, .inl (y 0, 30, .inl (upd (upd x195 23 ((x195 23) + 1)) 21 0)))] H := hP
                have hD : va_D A [(to, .inl (y 0, 30, .inl (upd (upd x195 23 ((x195 23) + 1)) 21 0)))] := hD
                exact W.vret hx hb hr (fun tZ ht hW => ⟨⟨((upd (upd x195 23 ((x195 23) + 1)) 21 0)), rfl, ⟨hr234, hk235, hk236⟩, by rw [ht]; exact hP.sub [0] rfl, hD.sub [0] (by decide) rfl⟩, hS.F ht⟩) hS.2.2 dX11_goNight_98
            · skip
              have h222 : ¬ fi ≤ j92 := fun q9 => h222 ((nI_leI (a := fi) (b := j92) (by omega) (by omega)).mpr q9)
              refine lv_aload_n hx hb dX11_goNight_39 rfl (lv_at hl 1 rfl) ?_
              refine lv_iconst (v := 5) hx hb dX11_goNight_40 (by decide) ?_
              refine lv_iload_n hx hb dX11_goNight_41 rfl (lv_at hl 0 rfl) ?_
              refine lv_iadd hx hb dX11_goNight_42 ?_
              rw [show 5 + (nI j92) = nI (j92 + 5) from (nI_add 5 j92).trans (congrArg nI (by omega))]
              refine va_iald hx hb hK hP 0 0 rfl rfl (vp_in_nI (by omega) (by decide)) dX11_goNight_43 ?_
              rw [nI_clamp (n := (j92 + 5)) (by omega)]
              refine lv_bipush (v := 20) hx hb dX11_goNight_44 (by decide) ?_
              refine lv_iadd hx hb dX11_goNight_46 ?_
              refine lv_istore_n (lv' := [(2, .int ((x195 (j92 + 5)) + 20)), (1, .int (nI j92)), (0, .ref to)]) hx hb dX11_goNight_47 rfl hl (by decide) rfl (fun ls hl => ?_)
              refine lv_aload_n hx hb dX11_goNight_48 rfl (lv_at hl 2 rfl) ?_
              refine lv_iconst (v := 5) hx hb dX11_goNight_49 (by decide) ?_
              refine lv_iload_n hx hb dX11_goNight_50 rfl (lv_at hl 1 rfl) ?_
              refine lv_iadd hx hb dX11_goNight_51 ?_
              rw [show 5 + (nI j92) = nI (j92 + 5) from (nI_add 5 j92).trans (congrArg nI (by omega))]
              refine lv_iload_n hx hb dX11_goNight_52 rfl (lv_at hl 0 rfl) ?_
              refine lv_bipush (v := 60) hx hb dX11_goNight_53 (by decide) ?_
              refine lv_icmp_le (tgt := 63) hx hb dX11_goNight_55 (by decide) (fun h237 => ?_) (fun h238 => ?_)
              · skip
                refine lv_iload_n hx hb dX11_goNight_63 rfl (lv_at hl 0 rfl) ?_
                refine va_iast hx hb hK hP hD hS 0 0 rfl rfl (vp_in_nI (by omega) (by decide)) dX11_goNight_64 (fun H locs hP hD hS => ?_)
                rw [nI_clamp (n := (j92 + 5)) (by omega)] at hP hD
                have hr239 : kr_t 30 (upd x195 (j92 + 5) ((x195 (j92 + 5)) + 20)) := kr_up hr_x195 (kr_free (by unfold kr_a; omega) (by unfold kr_s; omega))
                have hk240 : (upd x195 (j92 + 5) ((x195 (j92 + 5)) + 20)) 0 = (nI fi) := (pk_un (by omega)).trans hk_x195_0
                have hk241 : (upd x195 (j92 + 5) ((x195 (j92 + 5)) + 20)) 1 = (nI gl) := (pk_un (by omega)).trans hk_x195_1
                have hP : va_P D vwCl [(to, .inl (y 0, 30, .inl (upd x195 (j92 + 5) ((x195 (j92 + 5)) + 20))))] H := hP
                have hD : va_D A [(to, .inl (y 0, 30, .inl (upd x195 (j92 + 5) ((x195 (j92 + 5)) + 20))))] := hD
                refine lv_iinc (v := (nI (j92 + 1))) (lv' := [(1, .int (nI (j92 + 1))), (2, .int ((x195 (j92 + 5)) + 20)), (0, .ref to)]) hx hb dX11_goNight_65 hl (k := 1) rfl (nI_1 j92) (by decide) rfl (fun ls hl => ?_)
                refine lv_goto (tgt := 32) hx hb dX11_goNight_68 (by decide) ?_
                exact ihj92 (j92 + 1) (upd x195 (j92 + 5) ((x195 (j92 + 5)) + 20)) H locs ls (by omega) (by omega) hr239 hk240 hk241 (hP.sub [0] rfl) (hD.sub [0] (by decide) rfl) hS (lv_sub hl [0, 2] rfl)
              · skip
                refine lv_bipush (v := 60) hx hb dX11_goNight_58 (by decide) ?_
                refine lv_goto (tgt := 64) hx hb dX11_goNight_60 (by decide) ?_
                refine va_iast hx hb hK hP hD hS 0 0 rfl rfl (vp_in_nI (by omega) (by decide)) dX11_goNight_64 (fun H locs hP hD hS => ?_)
                rw [nI_clamp (n := (j92 + 5)) (by omega)] at hP hD
                have hr242 : kr_t 30 (upd x195 (j92 + 5) 60) := kr_up hr_x195 (kr_free (by unfold kr_a; omega) (by unfold kr_s; omega))
                have hk243 : (upd x195 (j92 + 5) 60) 0 = (nI fi) := (pk_un (by omega)).trans hk_x195_0
                have hk244 : (upd x195 (j92 + 5) 60) 1 = (nI gl) := (pk_un (by omega)).trans hk_x195_1
                have hP : va_P D vwCl [(to, .inl (y 0, 30, .inl (upd x195 (j92 + 5) 60)))] H := hP
                have hD : va_D A [(to, .inl (y 0, 30, .inl (upd x195 (j92 + 5) 60)))] := hD
                refine lv_iinc (v := (nI (j92 + 1))) (lv' := [(1, .int (nI (j92 + 1))), (2, .int ((x195 (j92 + 5)) + 20)), (0, .ref to)]) hx hb dX11_goNight_65 hl (k := 1) rfl (nI_1 j92) (by decide) rfl (fun ls hl => ?_)
                refine lv_goto (tgt := 32) hx hb dX11_goNight_68 (by decide) ?_
                exact ihj92 (j92 + 1) (upd x195 (j92 + 5) 60) H locs ls (by omega) (by omega) hr242 hk243 hk244 (hP.sub [0] rfl) (hD.sub [0] (by decide) rfl) hS (lv_sub hl [0, 2] rfl)
        exact lp220 (fi + 1) 0 x84 _ _ _ (by omega) (by omega) hr_x84 hk_x84_0 hk_x84_1 hP hD hS (lv_sub hl [0, 1] rfl)
      · skip
        have h170 : ¬ gl ≤ j91 := fun q9 => h170 ((nI_leI (a := gl) (b := j91) (by omega) (by omega)).mpr q9)
        refine lv_aload_n hx hb dX11_goNight_9 rfl (lv_at hl 1 rfl) ?_
        refine lv_bipush (v := 16) hx hb dX11_goNight_10 (by decide) ?_
        refine lv_iload_n hx hb dX11_goNight_12 rfl (lv_at hl 0 rfl) ?_
        refine lv_iadd hx hb dX11_goNight_13 ?_
        rw [show 16 + (nI j91) = nI (j91 + 16) from (nI_add 16 j91).trans (congrArg nI (by omega))]
        refine lv_aload_n hx hb dX11_goNight_14 rfl (lv_at hl 1 rfl) ?_
        refine lv_bipush (v := 16) hx hb dX11_goNight_15 (by decide) ?_
        refine lv_iload_n hx hb dX11_goNight_17 rfl (lv_at hl 0 rfl) ?_
        refine lv_iadd hx hb dX11_goNight_18 ?_
        rw [show 16 + (nI j91) = nI (j91 + 16) from (nI_add 16 j91).trans (congrArg nI (by omega))]
        refine va_iald hx hb hK hP 0 0 rfl rfl (vp_in_nI (by omega) (by decide)) dX11_goNight_19 ?_
        rw [nI_clamp (n := (j91 + 16)) (by omega)]
        have hs245 : kw_Split [(to, .inl (y 0, 30, .inl x84))] [] [(to, .inl (y 0, 30, .inl x84))] [] [0] := ⟨rfl, rfl, rfl, rfl, rfl, by decide⟩
        refine kw_go_i hs245 hP hD hS hA (va_runS (As := [.int (x84 (j91 + 16))]) (rest := [.int (nI (j91 + 16)), .ref to]) ⟨hx, hb, hml, hown, hts⟩ (gr_fadedBy l D y (x84 (j91 + 16)) ((hr_x84 (j91 + 16) (by omega)).2 (by unfold kr_s; omega)) _) (va_cwS 1 hts gX11_goNight_X11_fadedBy rfl rfl rfl (by decide +kernel) ⟨Nat.le_of_ble_eq_true rfl, Nat.le_of_ble_eq_true rfl⟩) (kw_PreS hs245 hP hD hK hN) rfl rfl hl.1 rfl (lv_room (Nat.le_of_ble_eq_true rfl)) dX11_goNight_20 ⟨Nat.le_of_ble_eq_true rfl, Nat.le_of_ble_eq_true rfl⟩) (fun r246 u247 H locs hq hP hD hS => ?_)
        obtain ⟨h248, rfl⟩ := hq
        have hP : va_P D vwCl [(to, .inl (y 0, 30, .inl x84))] H := hP
        have hD : va_D A [(to, .inl (y 0, 30, .inl x84))] := hD
        refine va_iast hx hb hK hP hD hS 0 0 rfl rfl (vp_in_nI (by omega) (by decide)) dX11_goNight_23 (fun H locs hP hD hS => ?_)
        rw [nI_clamp (n := (j91 + 16)) (by omega)] at hP hD
        have hr249 : kr_t 30 (upd x84 (j91 + 16) ((x84 (j91 + 16)) - (((x84 (j91 + 16)) + 3) / 4))) := kr_up hr_x84 (kr_oks (by unfold kr_a; omega) (h248))
        have hk250 : (upd x84 (j91 + 16) ((x84 (j91 + 16)) - (((x84 (j91 + 16)) + 3) / 4))) 0 = (nI fi) := (pk_un (by omega)).trans hk_x84_0
        have hk251 : (upd x84 (j91 + 16) ((x84 (j91 + 16)) - (((x84 (j91 + 16)) + 3) / 4))) 1 = (nI gl) := (pk_un (by omega)).trans hk_x84_1
        have hP : va_P D vwCl [(to, .inl (y 0, 30, .inl (upd x84 (j91 + 16) ((x84 (j91 + 16)) - (((x84 (j91 + 16)) + 3) / 4)))))] H := hP
        have hD : va_D A [(to, .inl (y 0, 30, .inl (upd x84 (j91 + 16) ((x84 (j91 + 16)) - (((x84 (j91 + 16)) + 3) / 4)))))] := hD
        refine lv_iinc (v := (nI (j91 + 1))) (lv' := [(1, .int (nI (j91 + 1))), (0, .ref to)]) hx hb dX11_goNight_24 hl (k := 0) rfl (nI_1 j91) (by decide) rfl (fun ls hl => ?_)
        refine lv_goto (tgt := 2) hx hb dX11_goNight_27 (by decide) ?_
        exact ihj91 (j91 + 1) (upd x84 (j91 + 16) ((x84 (j91 + 16)) - (((x84 (j91 + 16)) + 3) / 4))) H locs ls (by omega) (by omega) hr249 hk250 hk251 (hP.sub [0] rfl) (hD.sub [0] (by decide) rfl) hS (lv_sub hl [0, 1] rfl)
  exact lp168 (gl + 1) 0 ft _ _ _ (by omega) (by omega) hkt hk0_ hk1_ hP hD hS (lv_sub hl [0, 1] rfl)
