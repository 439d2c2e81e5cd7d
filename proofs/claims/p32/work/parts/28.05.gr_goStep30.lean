set_option maxHeartbeats 4000000 in
set_option maxRecDepth 100000 in
theorem gr_goStep30 (l : Launch) (D : va_G) (y : Nat → ClassId) (to : Nat) (ft : Nat → Int32) (fi : Nat) (gl : Nat) (hk0_ : ft 0 = (nI fi)) (hk1_ : ft 1 = (nI gl)) (hkt : kr_t 30 ft) (hfi : fi ≤ 6) (hgl : gl ≤ 5) : kw_Mi l yX11_goStep wsX11_goStep ({ frames := 5, cells := 0, slots := 0, locals := 151 }) D y [.ref to] [(to, .inl (y 0, 30, .inl ft))] (fun (r : Int32) (u : (Nat → Int32)) => kr_t 30 u ∧ u 0 = (nI fi) ∧ u 1 = (nI gl)) (fun u => [(to, .inl (y 0, 30, .inl u))]) 0 0 := by
  refine kw_Mi.of (cc := cX11_goStep) (maxL := 7) (ret := (some .int)) (by decide) rfl ?_
  intro pZ eZ s mZ beZ meZ cZ A hE
  obtain ⟨hx, hb, hr, hml, hts, hown, hlocks, hin, hA, hP, hD, hK, hN⟩ := hE
  have hS : va_S A s.heap s.heap [] := va_S.rf
  have hl := lv_entry ([.ref to]) (n := 7) (Nat.le_of_ble_eq_true rfl)
  rw [lg_entry_eq]
  generalize (lg_sl ([.ref to]) ++ List.replicate (7 - (lg_sl ([.ref to])).length) Slot.unset).toArray = ls at hl ⊢
  have hl : lv_has ls 7 [(0, .ref to)] := hl
  refine lv_iconst (v := 0) hx hb dX11_goStep_0 (by decide) ?_
  refine lv_istore_n (lv' := [(1, .int 0), (0, .ref to)]) hx hb dX11_goStep_1 rfl hl (by decide) rfl (fun ls hl => ?_)
  refine lv_iconst (v := 0) hx hb dX11_goStep_2 (by decide) ?_
  refine lv_istore_n (lv' := [(2, .int 0), (1, .int 0), (0, .ref to)]) hx hb dX11_goStep_3 rfl hl (by decide) rfl (fun ls hl => ?_)
  have lp373 : ∀ (fuj91 j91 : Nat) (x186 : Int32) (x187 : Nat → Int32) (H : Heap) (locs : List Loc) (ls : Array Slot), j91 ≤ fi → fi - j91 < fuj91 → kr_t 30 x187 → x187 0 = (nI fi) → x187 1 = (nI gl) → va_P D vwCl [(to, .inl (y 0, 30, .inl x187))] H → va_D A [(to, .inl (y 0, 30, .inl x187))] → va_S A s.heap H locs → lv_has ls 7 [(2, .int (nI j91)), (1, .int x186), (0, .ref to)] → W pZ l eZ ({ frames := 5, cells := 0, slots := 0, locals := 151 }) s mZ [.ref to].toArray beZ meZ cZ H locs 0 0 (MQ beZ (va_Qi (fun (r : Int32) (u : (Nat → Int32)) => kr_t 30 u ∧ u 0 = (nI fi) ∧ u 1 = (nI gl)) (kw_B D (fun u => [(to, .inl (y 0, 30, .inl u))]) A) A) [.ref to].toArray s 0 0 A) (F0 mZ 4 ls []) := by
    intro fuj91
    induction fuj91 with
    | zero => intro j91 x186 x187 H locs ls hj9 hf9; exact absurd hf9 (Nat.not_lt_zero _)
    | succ fuj91 ihj91 =>
      intro j91 x186 x187 H locs ls hj91 hfj91 hr_x187 hk_x187_0 hk_x187_1 hP hD hS hl
      refine lv_iload_n hx hb dX11_goStep_4 rfl (lv_at hl 0 rfl) ?_
      refine lv_aload_n hx hb dX11_goStep_5 rfl (lv_at hl 2 rfl) ?_
      refine lv_iconst (v := 0) hx hb dX11_goStep_6 (by decide) ?_
      refine va_iald hx hb hK hP 0 0 rfl rfl (by unfold vp_in; decide) dX11_goStep_7 ?_
      rw [show ((0 : Int32)).toNatClampNeg = 0 from rfl]
      rw [show (x187 0) = (nI fi) from hk_x187_0]
      refine lv_icmp_ge (tgt := 152) hx hb dX11_goStep_8 (by decide) (fun h374 => ?_) (fun h375 => ?_)
      · skip
        have h374 : fi ≤ j91 := (nI_leI (a := fi) (b := j91) (by omega) (by omega)).mp h374
        refine lv_aload_n hx hb dX11_goStep_152 rfl (lv_at hl 2 rfl) ?_
        refine lv_bipush (v := 21) hx hb dX11_goStep_153 (by decide) ?_
        refine lv_dup2_11 hx hb dX11_goStep_155 rfl rfl ?_
        refine va_iald hx hb hK hP 0 0 rfl rfl (by unfold vp_in; decide) dX11_goStep_156 ?_
        rw [show ((21 : Int32)).toNatClampNeg = 21 from rfl]
        refine lv_iconst (v := 1) hx hb dX11_goStep_157 (by decide) ?_
        refine lv_iadd hx hb dX11_goStep_158 ?_
        refine va_iast hx hb hK hP hD hS 0 0 rfl rfl (by unfold vp_in; decide) dX11_goStep_159 (fun H locs hP hD hS => ?_)
        rw [show ((21 : Int32)).toNatClampNeg = 21 from rfl] at hP hD
        have hr376 : kr_t 30 (upd x187 21 ((x187 21) + 1)) := kr_up hr_x187 (kr_free (by unfold kr_a; omega) (by unfold kr_s; omega))
        have hk377 : (upd x187 21 ((x187 21) + 1)) 0 = (nI fi) := (pk_un (by decide)).trans hk_x187_0
        have hk378 : (upd x187 21 ((x187 21) + 1)) 1 = (nI gl) := (pk_un (by decide)).trans hk_x187_1
        have hP : va_P D vwCl [(to, .inl (y 0, 30, .inl (upd x187 21 ((x187 21) + 1))))] H := hP
        have hD : va_D A [(to, .inl (y 0, 30, .inl (upd x187 21 ((x187 21) + 1))))] := hD
        refine lv_iload_n hx hb dX11_goStep_160 rfl (lv_at hl 1 rfl) ?_
        exact W.iret (v := x186) hx hb hr (fun tZ ht hW => ⟨⟨x186, ((upd x187 21 ((x187 21) + 1))), rfl, ⟨hr376, hk377, hk378⟩, by rw [ht]; exact hP.sub [0] rfl, hD.sub [0] (by decide) rfl⟩, hS.F ht⟩) hS.2.2 dX11_goStep_161
      · skip
        have h375 : ¬ fi ≤ j91 := fun q9 => h375 ((nI_leI (a := fi) (b := j91) (by omega) (by omega)).mpr q9)
        refine lv_aload_n hx hb dX11_goStep_11 rfl (lv_at hl 2 rfl) ?_
        refine lv_iload_n hx hb dX11_goStep_12 rfl (lv_at hl 0 rfl) ?_
        have hs379 : kw_Split [(to, .inl (y 0, 30, .inl x187))] [(to, .inl (y 0, 30, .inl x187))] [] [0] [] := ⟨rfl, rfl, rfl, rfl, rfl, by decide⟩
        refine kw_go_i hs379 hP hD hS hA (va_runS (As := [.ref to, .int (nI j91)]) (rest := []) ⟨hx, hb, hml, hown, hts⟩ (gr_manyOn30 l D y to x187 fi gl (nI j91) hk_x187_0 hk_x187_1 hr_x187 hfi hgl _) (va_cwS 2 hts gX11_goStep_X11_manyOn rfl rfl rfl (by decide +kernel) ⟨Nat.le_of_ble_eq_true rfl, Nat.le_of_ble_eq_true rfl⟩) (kw_PreS hs379 hP hD hK hN) rfl rfl hl.1 rfl (lv_room (Nat.le_of_ble_eq_true rfl)) dX11_goStep_13 ⟨Nat.le_of_ble_eq_true rfl, Nat.le_of_ble_eq_true rfl⟩) (fun r380 u381 H locs hq hP hD hS => ?_)
        have hP : va_P D vwCl [(to, .inl (y 0, 30, .inl x187))] H := hP
        have hD : va_D A [(to, .inl (y 0, 30, .inl x187))] := hD
        refine lv_istore_n (lv' := [(3, .int r380), (2, .int (nI j91)), (1, .int x186), (0, .ref to)]) hx hb dX11_goStep_16 rfl hl (by decide) rfl (fun ls hl => ?_)
        refine lv_iload_n hx hb dX11_goStep_17 rfl (lv_at hl 0 rfl) ?_
        refine lv_if_ne (tgt := 25) hx hb dX11_goStep_18 (by decide) (fun h382 => ?_) (fun h383 => ?_)
        · skip
          refine lv_aload_n hx hb dX11_goStep_25 rfl (lv_at hl 3 rfl) ?_
          refine lv_iload_n hx hb dX11_goStep_26 rfl (lv_at hl 1 rfl) ?_
          refine lv_aload_n hx hb dX11_goStep_27 rfl (lv_at hl 3 rfl) ?_
          refine lv_bipush (v := 21) hx hb dX11_goStep_28 (by decide) ?_
          refine va_iald hx hb hK hP 0 0 rfl rfl (by unfold vp_in; decide) dX11_goStep_30 ?_
          rw [show ((21 : Int32)).toNatClampNeg = 21 from rfl]
          have hs384 : kw_Split [(to, .inl (y 0, 30, .inl x187))] [(to, .inl (y 0, 30, .inl x187))] [] [0] [] := ⟨rfl, rfl, rfl, rfl, rfl, by decide⟩
          refine kw_go_i hs384 hP hD hS hA (va_runS (As := [.ref to, .int (nI j91), .int (x187 21)]) (rest := []) ⟨hx, hb, hml, hown, hts⟩ (gr_seenOn30 l D y to x187 fi gl j91 (x187 21) hk_x187_0 hk_x187_1 hr_x187 hfi hgl (by omega) _) (va_cwS 3 hts gX11_goStep_X11_seenOn rfl rfl rfl (by decide +kernel) ⟨Nat.le_of_ble_eq_true rfl, Nat.le_of_ble_eq_true rfl⟩) (kw_PreS hs384 hP hD hK hN) rfl rfl hl.1 rfl (lv_room (Nat.le_of_ble_eq_true rfl)) dX11_goStep_31 ⟨Nat.le_of_ble_eq_true rfl, Nat.le_of_ble_eq_true rfl⟩) (fun r385 u386 H locs hq hP hD hS => ?_)
          have hP : va_P D vwCl [(to, .inl (y 0, 30, .inl x187))] H := hP
          have hD : va_D A [(to, .inl (y 0, 30, .inl x187))] := hD
          refine lv_iload_n hx hb dX11_goStep_34 rfl (lv_at hl 0 rfl) ?_
          refine lv_idiv hx hb dX11_goStep_35 (h382) ?_
          refine lv_istore (lv' := [(4, .int (r385 / r380)), (3, .int r380), (2, .int (nI j91)), (1, .int x186), (0, .ref to)]) hx hb dX11_goStep_36 hl (by decide) rfl (fun ls hl => ?_)
          refine lv_iconst (v := 0) hx hb dX11_goStep_38 (by decide) ?_
          refine lv_istore (lv' := [(5, .int 0), (4, .int (r385 / r380)), (3, .int r380), (2, .int (nI j91)), (1, .int x186), (0, .ref to)]) hx hb dX11_goStep_39 hl (by decide) rfl (fun ls hl => ?_)
          have lp444 : ∀ (fuj92 j92 : Nat) (x415 : Nat → Int32) (H : Heap) (locs : List Loc) (ls : Array Slot), j92 ≤ gl → gl - j92 < fuj92 → kr_t 30 x415 → x415 0 = (nI fi) → x415 1 = (nI gl) → va_P D vwCl [(to, .inl (y 0, 30, .inl x415))] H → va_D A [(to, .inl (y 0, 30, .inl x415))] → va_S A s.heap H locs → lv_has ls 7 [(5, .int (nI j92)), (4, .int (r385 / r380)), (3, .int r380), (2, .int (nI j91)), (1, .int x186), (0, .ref to)] → W pZ l eZ ({ frames := 5, cells := 0, slots := 0, locals := 151 }) s mZ [.ref to].toArray beZ meZ cZ H locs 0 0 (MQ beZ (va_Qi (fun (r : Int32) (u : (Nat → Int32)) => kr_t 30 u ∧ u 0 = (nI fi) ∧ u 1 = (nI gl)) (kw_B D (fun u => [(to, .inl (y 0, 30, .inl u))]) A) A) [.ref to].toArray s 0 0 A) (F0 mZ 41 ls []) := by
            intro fuj92
            induction fuj92 with
            | zero => intro j92 x415 H locs ls hj9 hf9; exact absurd hf9 (Nat.not_lt_zero _)
            | succ fuj92 ihj92 =>
              intro j92 x415 H locs ls hj92 hfj92 hr_x415 hk_x415_0 hk_x415_1 hP hD hS hl
              refine lv_iload hx hb dX11_goStep_41 (lv_at hl 0 rfl) ?_
              refine lv_aload_n hx hb dX11_goStep_43 rfl (lv_at hl 5 rfl) ?_
              refine lv_iconst (v := 1) hx hb dX11_goStep_44 (by decide) ?_
              refine va_iald hx hb hK hP 0 0 rfl rfl (by unfold vp_in; decide) dX11_goStep_45 ?_
              rw [show ((1 : Int32)).toNatClampNeg = 1 from rfl]
              rw [show (x415 1) = (nI gl) from hk_x415_1]
              refine lv_icmp_ge (tgt := 111) hx hb dX11_goStep_46 (by decide) (fun h445 => ?_) (fun h446 => ?_)
              · skip
                have h445 : gl ≤ j92 := (nI_leI (a := gl) (b := j92) (by omega) (by omega)).mp h445
                refine lv_aload_n hx hb dX11_goStep_111 rfl (lv_at hl 5 rfl) ?_
                refine lv_iconst (v := 5) hx hb dX11_goStep_112 (by decide) ?_
                refine lv_iload_n hx hb dX11_goStep_113 rfl (lv_at hl 3 rfl) ?_
                refine lv_iadd hx hb dX11_goStep_114 ?_
                rw [show 5 + (nI j91) = nI (j91 + 5) from (nI_add 5 j91).trans (congrArg nI (by omega))]
                refine va_iald hx hb hK hP 0 0 rfl rfl (vp_in_nI (by omega) (by decide)) dX11_goStep_115 ?_
                rw [nI_clamp (n := (j91 + 5)) (by omega)]
                refine lv_iload hx hb dX11_goStep_116 (lv_at hl 1 rfl) ?_
                refine lv_iload_n hx hb dX11_goStep_118 rfl (lv_at hl 2 rfl) ?_
                refine lv_imul hx hb dX11_goStep_119 ?_
                refine lv_isub hx hb dX11_goStep_120 ?_
                refine lv_istore (lv' := [(5, .int ((x415 (j91 + 5)) - ((r385 / r380) * r380))), (4, .int (r385 / r380)), (3, .int r380), (2, .int (nI j91)), (1, .int x186), (0, .ref to)]) hx hb dX11_goStep_121 hl (by decide) rfl (fun ls hl => ?_)
                refine lv_aload_n hx hb dX11_goStep_123 rfl (lv_at hl 5 rfl) ?_
                refine lv_iconst (v := 5) hx hb dX11_goStep_124 (by decide) ?_
                refine lv_iload_n hx hb dX11_goStep_125 rfl (lv_at hl 3 rfl) ?_
                refine lv_iadd hx hb dX11_goStep_126 ?_
                rw [show 5 + (nI j91) = nI (j91 + 5) from (nI_add 5 j91).trans (congrArg nI (by omega))]
                refine lv_iload hx hb dX11_goStep_127 (lv_at hl 0 rfl) ?_
                refine lv_if_ge (tgt := 136) hx hb dX11_goStep_129 (by decide) (fun h447 => ?_) (fun h448 => ?_)
                · skip
                  refine lv_iload hx hb dX11_goStep_136 (lv_at hl 0 rfl) ?_
                  refine va_iast hx hb hK hP hD hS 0 0 rfl rfl (vp_in_nI (by omega) (by decide)) dX11_goStep_138 (fun H locs hP hD hS => ?_)
                  rw [nI_clamp (n := (j91 + 5)) (by omega)] at hP hD
                  have hr449 : kr_t 30 (upd x415 (j91 + 5) ((x415 (j91 + 5)) - ((r385 / r380) * r380))) := kr_up hr_x415 (kr_free (by unfold kr_a; omega) (by unfold kr_s; omega))
                  have hk450 : (upd x415 (j91 + 5) ((x415 (j91 + 5)) - ((r385 / r380) * r380))) 0 = (nI fi) := (pk_un (by omega)).trans hk_x415_0
                  have hk451 : (upd x415 (j91 + 5) ((x415 (j91 + 5)) - ((r385 / r380) * r380))) 1 = (nI gl) := (pk_un (by omega)).trans hk_x415_1
                  have hP : va_P D vwCl [(to, .inl (y 0, 30, .inl (upd x415 (j91 + 5) ((x415 (j91 + 5)) - ((r385 / r380) * r380)))))] H := hP
                  have hD : va_D A [(to, .inl (y 0, 30, .inl (upd x415 (j91 + 5) ((x415 (j91 + 5)) - ((r385 / r380) * r380)))))] := hD
                  refine lv_iload_n hx hb dX11_goStep_139 rfl (lv_at hl 4 rfl) ?_
                  refine lv_iload hx hb dX11_goStep_140 (lv_at hl 1 rfl) ?_
                  refine lv_iload_n hx hb dX11_goStep_142 rfl (lv_at hl 2 rfl) ?_
                  refine lv_imul hx hb dX11_goStep_143 ?_
                  refine lv_iadd hx hb dX11_goStep_144 ?_
                  refine lv_istore_n (lv' := [(1, .int (x186 + ((r385 / r380) * r380))), (5, .int ((x415 (j91 + 5)) - ((r385 / r380) * r380))), (4, .int (r385 / r380)), (3, .int r380), (2, .int (nI j91)), (0, .ref to)]) hx hb dX11_goStep_145 rfl hl (by decide) rfl (fun ls hl => ?_)
                  refine lv_iinc (v := (nI (j91 + 1))) (lv' := [(2, .int (nI (j91 + 1))), (1, .int (x186 + ((r385 / r380) * r380))), (5, .int ((x415 (j91 + 5)) - ((r385 / r380) * r380))), (4, .int (r385 / r380)), (3, .int r380), (0, .ref to)]) hx hb dX11_goStep_146 hl (k := 4) rfl (nI_1 j91) (by decide) rfl (fun ls hl => ?_)
                  refine lv_goto (tgt := 4) hx hb dX11_goStep_149 (by decide) ?_
                  exact ihj91 (j91 + 1) (x186 + ((r385 / r380) * r380)) (upd x415 (j91 + 5) ((x415 (j91 + 5)) - ((r385 / r380) * r380))) H locs ls (by omega) (by omega) hr449 hk450 hk451 (hP.sub [0] rfl) (hD.sub [0] (by decide) rfl) hS (lv_sub hl [0, 1, 5] rfl)
                · skip
                  refine lv_iconst (v := 0) hx hb dX11_goStep_132 (by decide) ?_
                  refine lv_goto (tgt := 138) hx hb dX11_goStep_133 (by decide) ?_
                  refine va_iast hx hb hK hP hD hS 0 0 rfl rfl (vp_in_nI (by omega) (by decide)) dX11_goStep_138 (fun H locs hP hD hS => ?_)
                  rw [nI_clamp (n := (j91 + 5)) (by omega)] at hP hD
                  have hr452 : kr_t 30 (upd x415 (j91 + 5) 0) := kr_up hr_x415 (kr_ok0)
                  have hk453 : (upd x415 (j91 + 5) 0) 0 = (nI fi) := (pk_un (by omega)).trans hk_x415_0
                  have hk454 : (upd x415 (j91 + 5) 0) 1 = (nI gl) := (pk_un (by omega)).trans hk_x415_1
                  have hP : va_P D vwCl [(to, .inl (y 0, 30, .inl (upd x415 (j91 + 5) 0)))] H := hP
                  have hD : va_D A [(to, .inl (y 0, 30, .inl (upd x415 (j91 + 5) 0)))] := hD
                  refine lv_iload_n hx hb dX11_goStep_139 rfl (lv_at hl 4 rfl) ?_
                  refine lv_iload hx hb dX11_goStep_140 (lv_at hl 1 rfl) ?_
                  refine lv_iload_n hx hb dX11_goStep_142 rfl (lv_at hl 2 rfl) ?_
                  refine lv_imul hx hb dX11_goStep_143 ?_
                  refine lv_iadd hx hb dX11_goStep_144 ?_
                  refine lv_istore_n (lv' := [(1, .int (x186 + ((r385 / r380) * r380))), (5, .int ((x415 (j91 + 5)) - ((r385 / r380) * r380))), (4, .int (r385 / r380)), (3, .int r380), (2, .int (nI j91)), (0, .ref to)]) hx hb dX11_goStep_145 rfl hl (by decide) rfl (fun ls hl => ?_)
                  refine lv_iinc (v := (nI (j91 + 1))) (lv' := [(2, .int (nI (j91 + 1))), (1, .int (x186 + ((r385 / r380) * r380))), (5, .int ((x415 (j91 + 5)) - ((r385 / r380) * r380))), (4, .int (r385 / r380)), (3, .int r380), (0, .ref to)]) hx hb dX11_goStep_146 hl (k := 4) rfl (nI_1 j91) (by decide) rfl (fun ls hl => ?_)
                  refine lv_goto (tgt := 4) hx hb dX11_goStep_149 (by decide) ?_
                  exact ihj91 (j91 + 1) (x186 + ((r385 / r380) * r380)) (upd x415 (j91 + 5) 0) H locs ls (by omega) (by omega) hr452 hk453 hk454 (hP.sub [0] rfl) (hD.sub [0] (by decide) rfl) hS (lv_sub hl [0, 1, 5] rfl)
              · skip
                have h446 : ¬ gl ≤ j92 := fun q9 => h446 ((nI_leI (a := gl) (b := j92) (by omega) (by omega)).mpr q9)
                refine lv_aload_n hx hb dX11_goStep_49 rfl (lv_at hl 5 rfl) ?_
                refine lv_bipush (v := 11) hx hb dX11_goStep_50 (by decide) ?_
                refine lv_iload hx hb dX11_goStep_52 (lv_at hl 0 rfl) ?_
                refine lv_iadd hx hb dX11_goStep_54 ?_
                rw [show 11 + (nI j92) = nI (j92 + 11) from (nI_add 11 j92).trans (congrArg nI (by omega))]
                refine va_iald hx hb hK hP 0 0 rfl rfl (vp_in_nI (by omega) (by decide)) dX11_goStep_55 ?_
                rw [nI_clamp (n := (j92 + 11)) (by omega)]
                obtain ⟨w455, h456, h457⟩ := kr_at hr_x415 (p := (j92 + 11)) (by omega) (by unfold kr_a; omega)
                rw [h457]
                refine lv_iload_n hx hb dX11_goStep_56 rfl (lv_at hl 3 rfl) ?_
                refine lv_icmp_ne (tgt := 73) hx hb dX11_goStep_57 (by decide) (fun h458 => ?_) (fun h459 => ?_)
                · skip
                  have h458 : ¬ w455 = j91 := fun q9 => h458 ((nI_eq (a := w455) (b := j91) (by omega) (by omega)).mpr q9)
                  refine lv_aload_n hx hb dX11_goStep_73 rfl (lv_at hl 5 rfl) ?_
                  refine lv_bipush (v := 16) hx hb dX11_goStep_74 (by decide) ?_
                  refine lv_iload hx hb dX11_goStep_76 (lv_at hl 0 rfl) ?_
                  refine lv_iadd hx hb dX11_goStep_78 ?_
                  rw [show 16 + (nI j92) = nI (j92 + 16) from (nI_add 16 j92).trans (congrArg nI (by omega))]
                  refine va_iald hx hb hK hP 0 0 rfl rfl (vp_in_nI (by omega) (by decide)) dX11_goStep_79 ?_
                  rw [nI_clamp (n := (j92 + 16)) (by omega)]
                  refine lv_istore (lv' := [(6, .int (x415 (j92 + 16))), (5, .int (nI j92)), (4, .int (r385 / r380)), (3, .int r380), (2, .int (nI j91)), (1, .int x186), (0, .ref to)]) hx hb dX11_goStep_80 hl (by decide) rfl (fun ls hl => ?_)
                  refine lv_aload_n hx hb dX11_goStep_82 rfl (lv_at hl 6 rfl) ?_
                  refine lv_bipush (v := 16) hx hb dX11_goStep_83 (by decide) ?_
                  refine lv_iload hx hb dX11_goStep_85 (lv_at hl 1 rfl) ?_
                  refine lv_iadd hx hb dX11_goStep_87 ?_
                  rw [show 16 + (nI j92) = nI (j92 + 16) from (nI_add 16 j92).trans (congrArg nI (by omega))]
                  refine lv_iload hx hb dX11_goStep_88 (lv_at hl 0 rfl) ?_
                  refine lv_sipush (v := 999) hx hb dX11_goStep_90 (by decide) ?_
                  refine lv_icmp_le (tgt := 102) hx hb dX11_goStep_93 (by decide) (fun h460 => ?_) (fun h461 => ?_)
                  · skip
                    refine lv_iload hx hb dX11_goStep_102 (lv_at hl 0 rfl) ?_
                    refine va_iast hx hb hK hP hD hS 0 0 rfl rfl (vp_in_nI (by omega) (by decide)) dX11_goStep_104 (fun H locs hP hD hS => ?_)
                    rw [nI_clamp (n := (j92 + 16)) (by omega)] at hP hD
                    have hr462 : kr_t 30 (upd x415 (j92 + 16) (x415 (j92 + 16))) := kr_up hr_x415 (kr_move (p := (j92 + 16)) (hr_x415 (j92 + 16) (by omega)) (by unfold kr_a; omega) (by unfold kr_s; omega))
                    have hk463 : (upd x415 (j92 + 16) (x415 (j92 + 16))) 0 = (nI fi) := (pk_un (by omega)).trans hk_x415_0
                    have hk464 : (upd x415 (j92 + 16) (x415 (j92 + 16))) 1 = (nI gl) := (pk_un (by omega)).trans hk_x415_1
                    have hP : va_P D vwCl [(to, .inl (y 0, 30, .inl (upd x415 (j92 + 16) (x415 (j92 + 16)))))] H := hP
                    have hD : va_D A [(to, .inl (y 0, 30, .inl (upd x415 (j92 + 16) (x415 (j92 + 16)))))] := hD
                    refine lv_iinc (v := (nI (j92 + 1))) (lv' := [(5, .int (nI (j92 + 1))), (6, .int (x415 (j92 + 16))), (4, .int (r385 / r380)), (3, .int r380), (2, .int (nI j91)), (1, .int x186), (0, .ref to)]) hx hb dX11_goStep_105 hl (k := 1) rfl (nI_1 j92) (by decide) rfl (fun ls hl => ?_)
                    refine lv_goto (tgt := 41) hx hb dX11_goStep_108 (by decide) ?_
                    exact ihj92 (j92 + 1) (upd x415 (j92 + 16) (x415 (j92 + 16))) H locs ls (by omega) (by omega) hr462 hk463 hk464 (hP.sub [0] rfl) (hD.sub [0] (by decide) rfl) hS (lv_sub hl [0, 2, 3, 4, 5, 6] rfl)
                  · skip
                    exact absurd ((hr_x415 (j92 + 16) (by omega)).2 (by unfold kr_s; omega)) h461
                · skip
                  have h459 : w455 = j91 := (nI_eq (a := w455) (b := j91) (by omega) (by omega)).mp h459
                  refine lv_aload_n hx hb dX11_goStep_60 rfl (lv_at hl 5 rfl) ?_
                  refine lv_bipush (v := 16) hx hb dX11_goStep_61 (by decide) ?_
                  refine lv_iload hx hb dX11_goStep_63 (lv_at hl 0 rfl) ?_
                  refine lv_iadd hx hb dX11_goStep_65 ?_
                  rw [show 16 + (nI j92) = nI (j92 + 16) from (nI_add 16 j92).trans (congrArg nI (by omega))]
                  refine va_iald hx hb hK hP 0 0 rfl rfl (vp_in_nI (by omega) (by decide)) dX11_goStep_66 ?_
                  rw [nI_clamp (n := (j92 + 16)) (by omega)]
                  refine lv_iload hx hb dX11_goStep_67 (lv_at hl 1 rfl) ?_
                  refine lv_iadd hx hb dX11_goStep_69 ?_
                  refine lv_goto (tgt := 80) hx hb dX11_goStep_70 (by decide) ?_
                  refine lv_istore (lv' := [(6, .int ((x415 (j92 + 16)) + (r385 / r380))), (5, .int (nI j92)), (4, .int (r385 / r380)), (3, .int r380), (2, .int (nI j91)), (1, .int x186), (0, .ref to)]) hx hb dX11_goStep_80 hl (by decide) rfl (fun ls hl => ?_)
                  refine lv_aload_n hx hb dX11_goStep_82 rfl (lv_at hl 6 rfl) ?_
                  refine lv_bipush (v := 16) hx hb dX11_goStep_83 (by decide) ?_
                  refine lv_iload hx hb dX11_goStep_85 (lv_at hl 1 rfl) ?_
                  refine lv_iadd hx hb dX11_goStep_87 ?_
                  rw [show 16 + (nI j92) = nI (j92 + 16) from (nI_add 16 j92).trans (congrArg nI (by omega))]
                  refine lv_iload hx hb dX11_goStep_88 (lv_at hl 0 rfl) ?_
                  refine lv_sipush (v := 999) hx hb dX11_goStep_90 (by decide) ?_
                  refine lv_icmp_le (tgt := 102) hx hb dX11_goStep_93 (by decide) (fun h465 => ?_) (fun h466 => ?_)
                  · skip
                    refine lv_iload hx hb dX11_goStep_102 (lv_at hl 0 rfl) ?_
                    refine va_iast hx hb hK hP hD hS 0 0 rfl rfl (vp_in_nI (by omega) (by decide)) dX11_goStep_104 (fun H locs hP hD hS => ?_)
                    rw [nI_clamp (n := (j92 + 16)) (by omega)] at hP hD
                    have hr467 : kr_t 30 (upd x415 (j92 + 16) ((x415 (j92 + 16)) + (r385 / r380))) := kr_up hr_x415 (kr_oks (by unfold kr_a; omega) (h465))
                    have hk468 : (upd x415 (j92 + 16) ((x415 (j92 + 16)) + (r385 / r380))) 0 = (nI fi) := (pk_un (by omega)).trans hk_x415_0
                    have hk469 : (upd x415 (j92 + 16) ((x415 (j92 + 16)) + (r385 / r380))) 1 = (nI gl) := (pk_un (by omega)).trans hk_x415_1
                    have hP : va_P D vwCl [(to, .inl (y 0, 30, .inl (upd x415 (j92 + 16) ((x415 (j92 + 16)) + (r385 / r380)))))] H := hP
                    have hD : va_D A [(to, .inl (y 0, 30, .inl (upd x415 (j92 + 16) ((x415 (j92 + 16)) + (r385 / r380)))))] := hD
                    refine lv_iinc (v := (nI (j92 + 1))) (lv' := [(5, .int (nI (j92 + 1))), (6, .int ((x415 (j92 + 16)) + (r385 / r380))), (4, .int (r385 / r380)), (3, .int r380), (2, .int (nI j91)), (1, .int x186), (0, .ref to)]) hx hb dX11_goStep_105 hl (k := 1) rfl (nI_1 j92) (by decide) rfl (fun ls hl => ?_)
                    refine lv_goto (tgt := 41) hx hb dX11_goStep_108 (by decide) ?_
                    exact ihj92 (j92 + 1) (upd x415 (j92 + 16) ((x415 (j92 + 16)) + (r385 / r380))) H locs ls (by omega) (by omega) hr467 hk468 hk469 (hP.sub [0] rfl) (hD.sub [0] (by decide) rfl) hS (lv_sub hl [0, 2, 3, 4, 5, 6] rfl)
                  · skip
                    refine lv_sipush (v := 999) hx hb dX11_goStep_96 (by decide) ?_
                    refine lv_goto (tgt := 104) hx hb dX11_goStep_99 (by decide) ?_
                    refine va_iast hx hb hK hP hD hS 0 0 rfl rfl (vp_in_nI (by omega) (by decide)) dX11_goStep_104 (fun H locs hP hD hS => ?_)
                    rw [nI_clamp (n := (j92 + 16)) (by omega)] at hP hD
                    have hr470 : kr_t 30 (upd x415 (j92 + 16) 999) := kr_up hr_x415 (kr_oks (by unfold kr_a; omega) (by decide))
                    have hk471 : (upd x415 (j92 + 16) 999) 0 = (nI fi) := (pk_un (by omega)).trans hk_x415_0
                    have hk472 : (upd x415 (j92 + 16) 999) 1 = (nI gl) := (pk_un (by omega)).trans hk_x415_1
                    have hP : va_P D vwCl [(to, .inl (y 0, 30, .inl (upd x415 (j92 + 16) 999)))] H := hP
                    have hD : va_D A [(to, .inl (y 0, 30, .inl (upd x415 (j92 + 16) 999)))] := hD
                    refine lv_iinc (v := (nI (j92 + 1))) (lv' := [(5, .int (nI (j92 + 1))), (6, .int ((x415 (j92 + 16)) + (r385 / r380))), (4, .int (r385 / r380)), (3, .int r380), (2, .int (nI j91)), (1, .int x186), (0, .ref to)]) hx hb dX11_goStep_105 hl (k := 1) rfl (nI_1 j92) (by decide) rfl (fun ls hl => ?_)
                    refine lv_goto (tgt := 41) hx hb dX11_goStep_108 (by decide) ?_
                    exact ihj92 (j92 + 1) (upd x415 (j92 + 16) 999) H locs ls (by omega) (by omega) hr470 hk471 hk472 (hP.sub [0] rfl) (hD.sub [0] (by decide) rfl) hS (lv_sub hl [0, 2, 3, 4, 5, 6] rfl)
          exact lp444 (gl + 1) 0 x187 _ _ _ (by omega) (by omega) hr_x187 hk_x187_0 hk_x187_1 hP hD hS (lv_sub hl [0, 1, 2, 3, 4, 5] rfl)
        · skip
          refine lv_iconst (v := 0) hx hb dX11_goStep_21 (by decide) ?_
          refine lv_goto (tgt := 36) hx hb dX11_goStep_22 (by decide) ?_
          refine lv_istore (lv' := [(4, .int 0), (3, .int r380), (2, .int (nI j91)), (1, .int x186), (0, .ref to)]) hx hb dX11_goStep_36 hl (by decide) rfl (fun ls hl => ?_)
          refine lv_iconst (v := 0) hx hb dX11_goStep_38 (by decide) ?_
          refine lv_istore (lv' := [(5, .int 0), (4, .int 0), (3, .int r380), (2, .int (nI j91)), (1, .int x186), (0, .ref to)]) hx hb dX11_goStep_39 hl (by decide) rfl (fun ls hl => ?_)
          have lp530 : ∀ (fuj92 j92 : Nat) (x501 : Nat → Int32) (H : Heap) (locs : List Loc) (ls : Array Slot), j92 ≤ gl → gl - j92 < fuj92 → kr_t 30 x501 → x501 0 = (nI fi) → x501 1 = (nI gl) → va_P D vwCl [(to, .inl (y 0, 30, .inl x501))] H → va_D A [(to, .inl (y 0, 30, .inl x501))] → va_S A s.heap H locs → lv_has ls 7 [(5, .int (nI j92)), (4, .int 0), (3, .int r380), (2, .int (nI j91)), (1, .int x186), (0, .ref to)] → W pZ l eZ ({ frames := 5, cells := 0, slots := 0, locals := 151 }) s mZ [.ref to].toArray beZ meZ cZ H locs 0 0 (MQ beZ (va_Qi (fun (r : Int32) (u : (Nat → Int32)) => kr_t 30 u ∧ u 0 = (nI fi) ∧ u 1 = (nI gl)) (kw_B D (fun u => [(to, .inl (y 0, 30, .inl u))]) A) A) [.ref to].toArray s 0 0 A) (F0 mZ 41 ls []) := by
            intro fuj92
            induction fuj92 with
            | zero => intro j92 x501 H locs ls hj9 hf9; exact absurd hf9 (Nat.not_lt_zero _)
            | succ fuj92 ihj92 =>
              intro j92 x501 H locs ls hj92 hfj92 hr_x501 hk_x501_0 hk_x501_1 hP hD hS hl
              refine lv_iload hx hb dX11_goStep_41 (lv_at hl 0 rfl) ?_
              refine lv_aload_n hx hb dX11_goStep_43 rfl (lv_at hl 5 rfl) ?_
              refine lv_iconst (v := 1) hx hb dX11_goStep_44 (by decide) ?_
              refine va_iald hx hb hK hP 0 0 rfl rfl (by unfold vp_in; decide) dX11_goStep_45 ?_
              rw [show ((1 : Int32)).toNatClampNeg = 1 from rfl]
              rw [show (x501 1) = (nI gl) from hk_x501_1]
              refine lv_icmp_ge (tgt := 111) hx hb dX11_goStep_46 (by decide) (fun h531 => ?_) (fun h532 => ?_)
              · skip
                have h531 : gl ≤ j92 := (nI_leI (a := gl) (b := j92) (by omega) (by omega)).mp h531
                refine lv_aload_n hx hb dX11_goStep_111 rfl (lv_at hl 5 rfl) ?_
                refine lv_iconst (v := 5) hx hb dX11_goStep_112 (by decide) ?_
                refine lv_iload_n hx hb dX11_goStep_113 rfl (lv_at hl 3 rfl) ?_
                refine lv_iadd hx hb dX11_goStep_114 ?_
                rw [show 5 + (nI j91) = nI (j91 + 5) from (nI_add 5 j91).trans (congrArg nI (by omega))]
                refine va_iald hx hb hK hP 0 0 rfl rfl (vp_in_nI (by omega) (by decide)) dX11_goStep_115 ?_
                rw [nI_clamp (n := (j91 + 5)) (by omega)]
                refine lv_iload hx hb dX11_goStep_116 (lv_at hl 1 rfl) ?_
                refine lv_iload_n hx hb dX11_goStep_118 rfl (lv_at hl 2 rfl) ?_
                refine lv_imul hx hb dX11_goStep_119 ?_
                refine lv_isub hx hb dX11_goStep_120 ?_
                refine lv_istore (lv' := [(5, .int ((x501 (j91 + 5)) - (0 * r380))), (4, .int 0), (3, .int r380), (2, .int (nI j91)), (1, .int x186), (0, .ref to)]) hx hb dX11_goStep_121 hl (by decide) rfl (fun ls hl => ?_)
                refine lv_aload_n hx hb dX11_goStep_123 rfl (lv_at hl 5 rfl) ?_
                refine lv_iconst (v := 5) hx hb dX11_goStep_124 (by decide) ?_
                refine lv_iload_n hx hb dX11_goStep_125 rfl (lv_at hl 3 rfl) ?_
                refine lv_iadd hx hb dX11_goStep_126 ?_
                rw [show 5 + (nI j91) = nI (j91 + 5) from (nI_add 5 j91).trans (congrArg nI (by omega))]
                refine lv_iload hx hb dX11_goStep_127 (lv_at hl 0 rfl) ?_
                refine lv_if_ge (tgt := 136) hx hb dX11_goStep_129 (by decide) (fun h533 => ?_) (fun h534 => ?_)
                · skip
                  refine lv_iload hx hb dX11_goStep_136 (lv_at hl 0 rfl) ?_
                  refine va_iast hx hb hK hP hD hS 0 0 rfl rfl (vp_in_nI (by omega) (by decide)) dX11_goStep_138 (fun H locs hP hD hS => ?_)
                  rw [nI_clamp (n := (j91 + 5)) (by omega)] at hP hD
                  have hr535 : kr_t 30 (upd x501 (j91 + 5) ((x501 (j91 + 5)) - (0 * r380))) := kr_up hr_x501 (kr_free (by unfold kr_a; omega) (by unfold kr_s; omega))
                  have hk536 : (upd x501 (j91 + 5) ((x501 (j91 + 5)) - (0 * r380))) 0 = (nI fi) := (pk_un (by omega)).trans hk_x501_0
                  have hk537 : (upd x501 (j91 + 5) ((x501 (j91 + 5)) - (0 * r380))) 1 = (nI gl) := (pk_un (by omega)).trans hk_x501_1
                  have hP : va_P D vwCl [(to, .inl (y 0, 30, .inl (upd x501 (j91 + 5) ((x501 (j91 + 5)) - (0 * r380)))))] H := hP
                  have hD : va_D A [(to, .inl (y 0, 30, .inl (upd x501 (j91 + 5) ((x501 (j91 + 5)) - (0 * r380)))))] := hD
                  refine lv_iload_n hx hb dX11_goStep_139 rfl (lv_at hl 4 rfl) ?_
                  refine lv_iload hx hb dX11_goStep_140 (lv_at hl 1 rfl) ?_
                  refine lv_iload_n hx hb dX11_goStep_142 rfl (lv_at hl 2 rfl) ?_
                  refine lv_imul hx hb dX11_goStep_143 ?_
                  refine lv_iadd hx hb dX11_goStep_144 ?_
                  refine lv_istore_n (lv' := [(1, .int (x186 + (0 * r380))), (5, .int ((x501 (j91 + 5)) - (0 * r380))), (4, .int 0), (3, .int r380), (2, .int (nI j91)), (0, .ref to)]) hx hb dX11_goStep_145 rfl hl (by decide) rfl (fun ls hl => ?_)
                  refine lv_iinc (v := (nI (j91 + 1))) (lv' := [(2, .int (nI (j91 + 1))), (1, .int (x186 + (0 * r380))), (5, .int ((x501 (j91 + 5)) - (0 * r380))), (4, .int 0), (3, .int r380), (0, .ref to)]) hx hb dX11_goStep_146 hl (k := 4) rfl (nI_1 j91) (by decide) rfl (fun ls hl => ?_)
                  refine lv_goto (tgt := 4) hx hb dX11_goStep_149 (by decide) ?_
                  exact ihj91 (j91 + 1) (x186 + (0 * r380)) (upd x501 (j91 + 5) ((x501 (j91 + 5)) - (0 * r380))) H locs ls (by omega) (by omega) hr535 hk536 hk537 (hP.sub [0] rfl) (hD.sub [0] (by decide) rfl) hS (lv_sub hl [0, 1, 5] rfl)
                · skip
                  refine lv_iconst (v := 0) hx hb dX11_goStep_132 (by decide) ?_
                  refine lv_goto (tgt := 138) hx hb dX11_goStep_133 (by decide) ?_
                  refine va_iast hx hb hK hP hD hS 0 0 rfl rfl (vp_in_nI (by omega) (by decide)) dX11_goStep_138 (fun H locs hP hD hS => ?_)
                  rw [nI_clamp (n := (j91 + 5)) (by omega)] at hP hD
                  have hr538 : kr_t 30 (upd x501 (j91 + 5) 0) := kr_up hr_x501 (kr_ok0)
                  have hk539 : (upd x501 (j91 + 5) 0) 0 = (nI fi) := (pk_un (by omega)).trans hk_x501_0
                  have hk540 : (upd x501 (j91 + 5) 0) 1 = (nI gl) := (pk_un (by omega)).trans hk_x501_1
                  have hP : va_P D vwCl [(to, .inl (y 0, 30, .inl (upd x501 (j91 + 5) 0)))] H := hP
                  have hD : va_D A [(to, .inl (y 0, 30, .inl (upd x501 (j91 + 5) 0)))] := hD
                  refine lv_iload_n hx hb dX11_goStep_139 rfl (lv_at hl 4 rfl) ?_
                  refine lv_iload hx hb dX11_goStep_140 (lv_at hl 1 rfl) ?_
                  refine lv_iload_n hx hb dX11_goStep_142 rfl (lv_at hl 2 rfl) ?_
                  refine lv_imul hx hb dX11_goStep_143 ?_
                  refine lv_iadd hx hb dX11_goStep_144 ?_
                  refine lv_istore_n (lv' := [(1, .int (x186 + (0 * r380))), (5, .int ((x501 (j91 + 5)) - (0 * r380))), (4, .int 0), (3, .int r380), (2, .int (nI j91)), (0, .ref to)]) hx hb dX11_goStep_145 rfl hl (by decide) rfl (fun ls hl => ?_)
                  refine lv_iinc (v := (nI (j91 + 1))) (lv' := [(2, .int (nI (j91 + 1))), (1, .int (x186 + (0 * r380))), (5, .int ((x501 (j91 + 5)) - (0 * r380))), (4, .int 0), (3, .int r380), (0, .ref to)]) hx hb dX11_goStep_146 hl (k := 4) rfl (nI_1 j91) (by decide) rfl (fun ls hl => ?_)
                  refine lv_goto (tgt := 4) hx hb dX11_goStep_149 (by decide) ?_
                  exact ihj91 (j91 + 1) (x186 + (0 * r380)) (upd x501 (j91 + 5) 0) H locs ls (by omega) (by omega) hr538 hk539 hk540 (hP.sub [0] rfl) (hD.sub [0] (by decide) rfl) hS (lv_sub hl [0, 1, 5] rfl)
              · skip
                have h532 : ¬ gl ≤ j92 := fun q9 => h532 ((nI_leI (a := gl) (b := j92) (by omega) (by omega)).mpr q9)
                refine lv_aload_n hx hb dX11_goStep_49 rfl (lv_at hl 5 rfl) ?_
                refine lv_bipush (v := 11) hx hb dX11_goStep_50 (by decide) ?_
                refine lv_iload hx hb dX11_goStep_52 (lv_at hl 0 rfl) ?_
                refine lv_iadd hx hb dX11_goStep_54 ?_
                rw [show 11 + (nI j92) = nI (j92 + 11) from (nI_add 11 j92).trans (congrArg nI (by omega))]
                refine va_iald hx hb hK hP 0 0 rfl rfl (vp_in_nI (by omega) (by decide)) dX11_goStep_55 ?_
                rw [nI_clamp (n := (j92 + 11)) (by omega)]
                obtain ⟨w541, h542, h543⟩ := kr_at hr_x501 (p := (j92 + 11)) (by omega) (by unfold kr_a; omega)
                rw [h543]
                refine lv_iload_n hx hb dX11_goStep_56 rfl (lv_at hl 3 rfl) ?_
                refine lv_icmp_ne (tgt := 73) hx hb dX11_goStep_57 (by decide) (fun h544 => ?_) (fun h545 => ?_)
                · skip
                  have h544 : ¬ w541 = j91 := fun q9 => h544 ((nI_eq (a := w541) (b := j91) (by omega) (by omega)).mpr q9)
                  refine lv_aload_n hx hb dX11_goStep_73 rfl (lv_at hl 5 rfl) ?_
                  refine lv_bipush (v := 16) hx hb dX11_goStep_74 (by decide) ?_
                  refine lv_iload hx hb dX11_goStep_76 (lv_at hl 0 rfl) ?_
                  refine lv_iadd hx hb dX11_goStep_78 ?_
                  rw [show 16 + (nI j92) = nI (j92 + 16) from (nI_add 16 j92).trans (congrArg nI (by omega))]
                  refine va_iald hx hb hK hP 0 0 rfl rfl (vp_in_nI (by omega) (by decide)) dX11_goStep_79 ?_
                  rw [nI_clamp (n := (j92 + 16)) (by omega)]
                  refine lv_istore (lv' := [(6, .int (x501 (j92 + 16))), (5, .int (nI j92)), (4, .int 0), (3, .int r380), (2, .int (nI j91)), (1, .int x186), (0, .ref to)]) hx hb dX11_goStep_80 hl (by decide) rfl (fun ls hl => ?_)
                  refine lv_aload_n hx hb dX11_goStep_82 rfl (lv_at hl 6 rfl) ?_
                  refine lv_bipush (v := 16) hx hb dX11_goStep_83 (by decide) ?_
                  refine lv_iload hx hb dX11_goStep_85 (lv_at hl 1 rfl) ?_
                  refine lv_iadd hx hb dX11_goStep_87 ?_
                  rw [show 16 + (nI j92) = nI (j92 + 16) from (nI_add 16 j92).trans (congrArg nI (by omega))]
                  refine lv_iload hx hb dX11_goStep_88 (lv_at hl 0 rfl) ?_
                  refine lv_sipush (v := 999) hx hb dX11_goStep_90 (by decide) ?_
                  refine lv_icmp_le (tgt := 102) hx hb dX11_goStep_93 (by decide) (fun h546 => ?_) (fun h547 => ?_)
                  · skip
                    refine lv_iload hx hb dX11_goStep_102 (lv_at hl 0 rfl) ?_
                    refine va_iast hx hb hK hP hD hS 0 0 rfl rfl (vp_in_nI (by omega) (by decide)) dX11_goStep_104 (fun H locs hP hD hS => ?_)
                    rw [nI_clamp (n := (j92 + 16)) (by omega)] at hP hD
                    have hr548 : kr_t 30 (upd x501 (j92 + 16) (x501 (j92 + 16))) := kr_up hr_x501 (kr_move (p := (j92 + 16)) (hr_x501 (j92 + 16) (by omega)) (by unfold kr_a; omega) (by unfold kr_s; omega))
                    have hk549 : (upd x501 (j92 + 16) (x501 (j92 + 16))) 0 = (nI fi) := (pk_un (by omega)).trans hk_x501_0
                    have hk550 : (upd x501 (j92 + 16) (x501 (j92 + 16))) 1 = (nI gl) := (pk_un (by omega)).trans hk_x501_1
                    have hP : va_P D vwCl [(to, .inl (y 0, 30, .inl (upd x501 (j92 + 16) (x501 (j92 + 16)))))] H := hP
                    have hD : va_D A [(to, .inl (y 0, 30, .inl (upd x501 (j92 + 16) (x501 (j92 + 16)))))] := hD
                    refine lv_iinc (v := (nI (j92 + 1))) (lv' := [(5, .int (nI (j92 + 1))), (6, .int (x501 (j92 + 16))), (4, .int 0), (3, .int r380), (2, .int (nI j91)), (1, .int x186), (0, .ref to)]) hx hb dX11_goStep_105 hl (k := 1) rfl (nI_1 j92) (by decide) rfl (fun ls hl => ?_)
                    refine lv_goto (tgt := 41) hx hb dX11_goStep_108 (by decide) ?_
                    exact ihj92 (j92 + 1) (upd x501 (j92 + 16) (x501 (j92 + 16))) H locs ls (by omega) (by omega) hr548 hk549 hk550 (hP.sub [0] rfl) (hD.sub [0] (by decide) rfl) hS (lv_sub hl [0, 2, 3, 4, 5, 6] rfl)
                  · skip
                    exact absurd ((hr_x501 (j92 + 16) (by omega)).2 (by unfold kr_s; omega)) h547
                · skip
                  have h545 : w541 = j91 := (nI_eq (a := w541) (b := j91) (by omega) (by omega)).mp h545
                  refine lv_aload_n hx hb dX11_goStep_60 rfl (lv_at hl 5 rfl) ?_
                  refine lv_bipush (v := 16) hx hb dX11_goStep_61 (by decide) ?_
                  refine lv_iload hx hb dX11_goStep_63 (lv_at hl 0 rfl) ?_
                  refine lv_iadd hx hb dX11_goStep_65 ?_
                  rw [show 16 + (nI j92) = nI (j92 + 16) from (nI_add 16 j92).trans (congrArg nI (by omega))]
                  refine va_iald hx hb hK hP 0 0 rfl rfl (vp_in_nI (by omega) (by decide)) dX11_goStep_66 ?_
                  rw [nI_clamp (n := (j92 + 16)) (by omega)]
                  refine lv_iload hx hb dX11_goStep_67 (lv_at hl 1 rfl) ?_
                  refine lv_iadd hx hb dX11_goStep_69 ?_
                  refine lv_goto (tgt := 80) hx hb dX11_goStep_70 (by decide) ?_
                  refine lv_istore (lv' := [(6, .int ((x501 (j92 + 16)) + 0)), (5, .int (nI j92)), (4, .int 0), (3, .int r380), (2, .int (nI j91)), (1, .int x186), (0, .ref to)]) hx hb dX11_goStep_80 hl (by decide) rfl (fun ls hl => ?_)
                  refine lv_aload_n hx hb dX11_goStep_82 rfl (lv_at hl 6 rfl) ?_
                  refine lv_bipush (v := 16) hx hb dX11_goStep_83 (by decide) ?_
                  refine lv_iload hx hb dX11_goStep_85 (lv_at hl 1 rfl) ?_
                  refine lv_iadd hx hb dX11_goStep_87 ?_
                  rw [show 16 + (nI j92) = nI (j92 + 16) from (nI_add 16 j92).trans (congrArg nI (by omega))]
                  refine lv_iload hx hb dX11_goStep_88 (lv_at hl 0 rfl) ?_
                  refine lv_sipush (v := 999) hx hb dX11_goStep_90 (by decide) ?_
                  refine lv_icmp_le (tgt := 102) hx hb dX11_goStep_93 (by decide) (fun h551 => ?_) (fun h552 => ?_)
                  · skip
                    refine lv_iload hx hb dX11_goStep_102 (lv_at hl 0 rfl) ?_
                    refine va_iast hx hb hK hP hD hS 0 0 rfl rfl (vp_in_nI (by omega) (by decide)) dX11_goStep_104 (fun H locs hP hD hS => ?_)
                    rw [nI_clamp (n := (j92 + 16)) (by omega)] at hP hD
                    have hr553 : kr_t 30 (upd x501 (j92 + 16) ((x501 (j92 + 16)) + 0)) := kr_up hr_x501 (kr_oks (by unfold kr_a; omega) (h551))
                    have hk554 : (upd x501 (j92 + 16) ((x501 (j92 + 16)) + 0)) 0 = (nI fi) := (pk_un (by omega)).trans hk_x501_0
                    have hk555 : (upd x501 (j92 + 16) ((x501 (j92 + 16)) + 0)) 1 = (nI gl) := (pk_un (by omega)).trans hk_x501_1
                    have hP : va_P D vwCl [(to, .inl (y 0, 30, .inl (upd x501 (j92 + 16) ((x501 (j92 + 16)) + 0))))] H := hP
                    have hD : va_D A [(to, .inl (y 0, 30, .inl (upd x501 (j92 + 16) ((x501 (j92 + 16)) + 0))))] := hD
                    refine lv_iinc (v := (nI (j92 + 1))) (lv' := [(5, .int (nI (j92 + 1))), (6, .int ((x501 (j92 + 16)) + 0)), (4, .int 0), (3, .int r380), (2, .int (nI j91)), (1, .int x186), (0, .ref to)]) hx hb dX11_goStep_105 hl (k := 1) rfl (nI_1 j92) (by decide) rfl (fun ls hl => ?_)
                    refine lv_goto (tgt := 41) hx hb dX11_goStep_108 (by decide) ?_
                    exact ihj92 (j92 + 1) (upd x501 (j92 + 16) ((x501 (j92 + 16)) + 0)) H locs ls (by omega) (by omega) hr553 hk554 hk555 (hP.sub [0] rfl) (hD.sub [0] (by decide) rfl) hS (lv_sub hl [0, 2, 3, 4, 5, 6] rfl)
                  · skip
                    refine lv_sipush (v := 999) hx hb dX11_goStep_96 (by decide) ?_
                    refine lv_goto (tgt := 104) hx hb dX11_goStep_99 (by decide) ?_
                    refine va_iast hx hb hK hP hD hS 0 0 rfl rfl (vp_in_nI (by omega) (by decide)) dX11_goStep_104 (fun H locs hP hD hS => ?_)
                    rw [nI_clamp (n := (j92 + 16)) (by omega)] at hP hD
                    have hr556 : kr_t 30 (upd x501 (j92 + 16) 999) := kr_up hr_x501 (kr_oks (by unfold kr_a; omega) (by decide))
                    have hk557 : (upd x501 (j92 + 16) 999) 0 = (nI fi) := (pk_un (by omega)).trans hk_x501_0
                    have hk558 : (upd x501 (j92 + 16) 999) 1 = (nI gl) := (pk_un (by omega)).trans hk_x501_1
                    have hP : va_P D vwCl [(to, .inl (y 0, 30, .inl (upd x501 (j92 + 16) 999)))] H := hP
                    have hD : va_D A [(to, .inl (y 0, 30, .inl (upd x501 (j92 + 16) 999)))] := hD
                    refine lv_iinc (v := (nI (j92 + 1))) (lv' := [(5, .int (nI (j92 + 1))), (6, .int ((x501 (j92 + 16)) + 0)), (4, .int 0), (3, .int r380), (2, .int (nI j91)), (1, .int x186), (0, .ref to)]) hx hb dX11_goStep_105 hl (k := 1) rfl (nI_1 j92) (by decide) rfl (fun ls hl => ?_)
                    refine lv_goto (tgt := 41) hx hb dX11_goStep_108 (by decide) ?_
                    exact ihj92 (j92 + 1) (upd x501 (j92 + 16) 999) H locs ls (by omega) (by omega) hr556 hk557 hk558 (hP.sub [0] rfl) (hD.sub [0] (by decide) rfl) hS (lv_sub hl [0, 2, 3, 4, 5, 6] rfl)
          exact lp530 (gl + 1) 0 x187 _ _ _ (by omega) (by omega) hr_x187 hk_x187_0 hk_x187_1 hP hD hS (lv_sub hl [0, 1, 2, 3, 4, 5] rfl)
  exact lp373 (fi + 1) 0 0 ft _ _ _ (by omega) (by omega) hkt hk0_ hk1_ hP hD hS (lv_sub hl [0, 1, 2] rfl)
