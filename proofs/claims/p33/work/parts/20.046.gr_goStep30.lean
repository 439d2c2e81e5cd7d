set_option maxHeartbeats 4000000 in
set_option maxRecDepth 100000 in
theorem gr_goStep30 (l : Launch) (D : va_G) (y : Nat → ClassId) (to : Nat) (ft : Nat → Int32) (fi : Nat) (gl : Nat) (hk0_ : ft 0 = (nI fi)) (hk1_ : ft 1 = (nI gl)) (hkt : kr_t 30 ft) (hfi : fi ≤ 6) (hgl : gl ≤ 5) : kw_Mi l yX11_goStep wsX11_goStep ({ frames := 5, cells := 0, slots := 0, locals := 151 }) D y [.ref to] [(to, .inl (y 0, 30, .inl ft))] (fun (r : Int32) (u : (Nat → Int32)) => kr_t 30 u ∧ u 0 = (nI fi) ∧ u 1 = (nI gl)) (fun u => [(to, .inl (y 0, 30, .inl u))]) 0 0 := by
  refine kw_Mi.of (cc := cX11_goStep) (maxL := 7) (ret := (some .int)) (by decide) rfl ?_
  intro pZ eZ s mZ beZ meZ cZ A hE
  obtain ⟨hx, hb, hr, hml, hts, hown, hlocks, hin, hA, hP, hD, hK, hN⟩ := hE
  have hS : va_S A s.heap s.heap [] := va_S.rf
  have hl := lv_entry ([.ref to]) (n := 7) (Nat.le_of_ble_eq_true rfl)
  rw [lg_entry_eq]
  generalize (lg_sl ([.ref to]) ++ List.replicate (7 - (lg_sl ([.ref to])).length) Slot.unset).toArray = ls at hl ⊢
  have hl : lv_has ls 7 [(0, .ref to)] := hl
  refine lv_iconst (v := 0) hx hb dX11_goStep_0 (by decide) ?_
  refine lv_istore_n (lv' := [(1, .int 0), (0, .ref to)]) hx hb dX11_goStep_1 rfl hl (by decide) rfl (fun ls hl => ?_)
  refine lv_iconst (v := 0) hx hb dX11_goStep_2 (by decide) ?_
  refine lv_istore_n (lv' := [(2, .int 0), (1, .int 0), (0, .ref to)]) hx hb dX11_goStep_3 rfl hl (by decide) rfl (fun ls hl => ?_)
  have lp373 : ∀ (fuj91 j91 : Nat) (x186 : Int32) (x187 : Nat → Int32) (H : Heap) (locs : List Loc) (ls : Array Slot), j91 ≤ fi → fi - j91 < fuj91 → kr_t 30 x187 → x187 0 = (nI fi) → x187 1 = (nI gl) → va_P D vwCl [(to, .inl (y 0, 30, .inl x187))] H → va_D A [(to, .inl (y 0, 30, .inl x187))] → va_S A s.heap H locs → lv_has ls 7 [(2, .int (nI j91)), (1, .int x186), (0, .ref to)] → W pZ l eZ ({ frames := 5, cells := 0, slots := 0, locals := 151 }) s mZ [.ref to].toArray beZ meZ cZ H locs 0 0 (MQ beZ (va_Qi (fun (r : Int32) (u : (Nat → Int32)) => kr_t 30 u ∧ u 0 = (nI fi) ∧ u 1 = (nI gl)) (kw_B D (fun u => [(to, .inl (y 0, 30, .inl u))]) A) A) [.ref to].toArray s 0 0 A) (F0 mZ 4 ls []) := by
    intro fuj91
    induction fuj91 with
    | zero => intro j91 x186 x187 H locs ls hj9 hf9; exact absurd hf9 (Nat.not_lt_zero _)
    | succ fuj91 ihj91 =>
      intro j91 x186 x187 H locs ls hj91 hfj91 hr_x187 hk_x187_0 hk_x187_1 hP hD hS hl
      refine lv_iload_n hx hb dX11_goStep_4 rfl (lv_at hl 0 rfl) ?_
      refine lv_aload_n hx hb dX11_goStep_5 rfl (lv_at hl 2 rfl) ?_
      refine lv_iconst (v := 0) hx hb dX11_goStep_6 (by decide) ?_
      refine va_iald hx hb hK hP 0 0 rfl rfl (by unfold vp_in; decide) dX11_goStep_7 ?_
      rw [show ((0 : Int32)).toNatClampNeg = 0 from rfl]
      rw [show (x187 0) = (nI fi) from hk_x187_0]
      refine lv_icmp_ge (tgt := 152) hx hb dX11_goStep_8 (by decide) (fun h374 => ?_) (fun h375 => ?_)
      · skip
        have h374 : fi ≤ j91 := (nI_leI (a := fi) (b := j91) (by omega) (by omega)).mp h374
        refine lv_aload_n hx hb dX11_goStep_152 rfl (lv_at hl 2 rfl) ?_
        refine lv_bipush (v := 21) hx hb dX11_goStep_153 (by decide) ?_
        refine lv_dup2_11 hx hb dX11_goStep_155 rfl rfl ?_
        refine va_iald hx hb hK hP 0 0 rfl rfl (by unfold vp_in; decide) dX11_goStep_156 ?_
        rw [show ((21 : Int32)).toNatClampNeg = 21 from rfl]
        refine lv_iconst (v := 1) hx hb dX11_goStep_157 (by decide) ?_
        refine lv_iadd hx hb dX11_goStep_158 ?_
        refine va_iast hx hb hK hP hD hS 0 0 rfl rfl (by unfold vp_in; decide) dX11_goStep_159 (fun H locs hP hD hS => ?_)
        rw [show ((21 : Int32)).toNatClampNeg = 21 from rfl] at hP hD
        have hr376 : kr_t 30 (upd x187 21 ((x187 21) + 1)) := kr_up hr_x187 (kr_free (by unfold kr_a; omega) (by unfold kr_s; omega))
        have hk377 : (upd x187 21 ((x187 21) + 1)) 0 = (nI fi) := (pk_un (by decide)).trans hk_x187_0
        have hk378 : (upd x187 21 ((x187 21) + 1)) 1 = (nI gl) := (pk_un (by decide)).trans hk_x187_1
        have hP : va_P D vwCl [(to, .inl (y 0, 30, .inl (upd x187 21 ((x187 21) + 1))))] H := hP
        have hD : va_D A [(to, .inl (y 0, 30, .inl (upd x187 21 ((x187 21) + 1))))] := hD
        refine lv_iload_n hx hb dX11_goStep_160 rfl (lv_at hl 1 rfl) ?_
        exact W.iret (v := x186) hx hb hr (fun tZ ht hW => ⟨⟨x186, ((upd x187 21 ((x187 21) + 1))), rfl, ⟨hr376, hk377, hk378⟩, by rw [ht]; exact hP.sub [0] rfl, hD.sub [0] (by decide) rfl⟩, hS.F ht⟩) hS.2.2 dX11_goStep_161
      · skip
        have h375 : ¬ fi ≤ j91 := fun q9 => h375 ((nI_leI (a := fi) (b := j91) (by omega) (by omega)).mpr q9)
        refine lv_aload_n hx hb dX11_goStep_11 rfl (lv_at hl 2 rfl) ?_
        refine lv_iload_n hx hb dX11_goStep_12 rfl (lv_at hl 0 rfl) ?_
        have hs379 : kw_Split [(to, .inl (y 0, 30, .inl x187))] [(to, .inl (y 0, 30, .inl x187))] [] [0] [] := ⟨rfl, rfl, rfl, rfl, rfl, by decide⟩
        refine kw_go_i hs379 hP hD hS hA (va_runS (As := [.ref to, .int (nI j91)]) (rest := []) ⟨hx, hb, hml, hown, hts⟩ (gr_manyOn30 l D y to x187 fi gl (nI j91) hk_x187_0 hk_x187_1 hr_x187 hfi hgl _) (va_cwS 2 hts gX11_goStep_X11_manyOn rfl rfl rfl (by decide +kernel) ⟨Nat.le_of_ble_eq_true rfl, Nat.le_of_ble_eq_true rfl⟩) (kw_PreS hs379 hP hD hK hN) rfl rfl hl.1 rfl (lv_room (Nat.le_of_ble_eq_true rfl)) dX11_goStep_13 ⟨Nat.le_of_ble_eq_true rfl, Nat.le_of_ble_eq_true rfl⟩) (fun r380 u381 H locs hq hP hD hS => ?_)
        have hP : va_P D vwCl [(to, .inl (y 0, 30, .inl x187))] H := hP
        have hD : va_D A [(to, .inl (y 0, 30, .inl x187))] := hD
        refine lv_istore_n (lv' := [(3, .int r380), (2, .int (nI j91)), (1, .int x186), (0, .ref to)]) hx hb dX11_goStep_16 rfl hl (by decide) rfl (fun ls hl => ?_)
        refine lv_iload_n hx hb dX11_goStep_17 rfl (lv_at hl 0 rfl) ?_
        refine lv_if_ne (tgt := 25) hx hb dX11_goStep_18 (by decide) (fun h382 => ?_) (fun h383 => ?_)
        · skip
          refine lv_aload_n hx hb dX11_goStep_25 rfl (lv_at hl 3 rfl) ?_
          refine lv_iload_n hx hb dX11_goStep_26 rfl (lv_at hl 1 rfl) ?_
          refine lv_aload_n hx hb dX11_goStep_27 rfl (lv_at hl 3 rfl) ?_
          refine lv_bipush (v := 21) hx hb dX11_goStep_28 (by decide) ?_
          refine va_iald hx hb hK hP 0 0 rfl rfl (by unfold vp_in; decide) dX11_goStep_30 ?_
          rw [show ((21 : Int32)).toNatClampNeg = 21 from rfl]
          have hs384 : kw_Split [(to, .inl (y 0, 30, .inl x187))] [(to, .inl (y 0, 30, .inl x187))] [] [0] [] := ⟨rfl, rfl, rfl, rfl, rfl, by decide⟩
          refine kw_go_i hs384 hP hD hS hA (va_runS (As := [.ref to, .int (nI j91), .int (x187 21)]) (rest := []) ⟨hx, hb, hml, hown, hts⟩ (gr_seenOn30 l D y to x187 fi gl j91 (x187 21) hk_x187_0 hk_x187_1 hr_x187 hfi hgl (by omega) _) (va_cwS 3 hts gX11_goStep_X11_seenOn rfl rfl rfl (by decide +kernel) ⟨Nat.le_of_ble_eq_true rfl, Nat.le_of_ble_eq_true rfl⟩) (kw_PreS hs384 hP hD hK hN) rfl rfl hl.1 rfl (lv_room (Nat.le_of_ble_eq_true rfl)) dX11_goStep_31 ⟨Nat.le_of_ble_eq_true rfl, Nat.le_of_ble_eq_true rfl⟩) (fun r385 u386 H locs hq hP hD hS => ?_)
          have hP : va_P D vwCl [(to, .inl (y 0, 30, .inl x187))] H := hP
          have hD : va_D A [(to, .inl (y 0, 30, .inl x187))] := hD
          refine lv_iload_n hx hb dX11_goStep_34 rfl (lv_at hl 0 rfl) ?_
          refine lv_idiv hx hb dX11_goStep_35 (h382) ?_
          refine lv_istore (lv' := [(4, .int (r385 / r380)), (3, .int r380), (2, .int (nI j91)), (1, .int x186), (0, .ref to)]) hx hb dX11_goStep_36 hl (by decide) rfl (fun ls hl => ?_)
          refine lv_iconst (v := 0) hx hb dX11_goStep_38 (by decide) ?_
          refine lv_istore (lv' := [(5, .int 0), (4, .int (r385 / r380)), (3, .int r380), (2, .int (nI j91)), (1, .int x186), (0, .ref to)]) hx hb dX11_goStep_39 hl (by decide) rfl (fun ls hl => ?_)
          have lp444 : ∀ (fuj92 j92 : Nat) (x415 : Nat → Int32) (H : Heap) (locs : List Loc) (ls : Array Slot), j92 ≤ gl → gl - j92 < fuj92 → kr_t 30 x415 → x415 0 = (nI fi) → x415 1 = (nI gl) → va_P D vwCl [(to, .inl (y 0, 30, .inl x415))] H → va_D A [(to, .inl (y 0, 30, .inl x415))] → va_S A s.heap H locs → lv_has ls 7 [(5, .int (nI j92)), (4, .int (r385 / r380)), (3, .int r380), (2, .int (nI j91)), (1, .int x186), (0, .ref to)] → W pZ l eZ ({ frames := 5, cells := 0, slots := 0, locals := 151 }) s mZ [.ref to].toArray beZ meZ cZ H locs 0 0 (MQ beZ (va_Qi (fun (r : Int32) (u : (Nat → Int32)) => kr_t 30 u ∧ u 0 = (nI fi) ∧ u 1 = (nI gl)) (kw_B D (fun u => [(to, .inl (y 0, 30, .inl u))]) A) A) [.ref to].toArray s 0 0 A) (F0 mZ 41 ls []) := by
            intro fuj92
            induction fuj92 with
            | zero => intro j92 x415 H locs ls hj9 hf9; exact absurd hf9 (Nat.not_lt_zero _)
            | succ fuj92 ihj92 =>
              intro j92 x415 H locs ls hj92 hfj92 hr_x415 hk_x415_0 hk_x415_1 hP hD hS hl
              refine lv_iload hx hb dX11_goStep_41 (lv_at hl 0 rfl) ?_
              refine lv_aload_n hx hb dX11_goStep_43 rfl (lv_at hl 5 rfl) ?_
              refine lv_iconst (v := 1) hx hb dX11_goStep_44 (by decide) ?_
              refine va_iald hx hb hK hP 0 0 rfl rfl (by unfold vp_in; decide) dX11_goStep_45 ?_
              rw [show ((1 : Int32)).toNatClampNeg = 1 from rfl]
              rw [show (x415 1) = (nI gl) from hk_x415_1]
              refine lv_icmp_ge (tgt := 111) hx hb dX11_goStep_46 (by decide) (fun h445 => ?_) (fun h446 => ?_)
              · skip
                have h445 : gl ≤ j92 := (nI_leI (a := gl) (b := j92) (by omega) (by omega)).mp h445
                refine lv_aload_n hx hb dX11_goStep_111 rfl (lv_at hl 5 rfl) ?_
                refine lv_iconst (v := 5) hx hb dX11_goStep_112 (by decide) ?_
                refine lv_iload_n hx hb dX11_goStep_113 rfl (lv_at hl 3 rfl) ?_
                refine lv_iadd hx hb dX11_goStep_114 ?_
                rw [show 5 + (nI j91) = nI (j91 + 5) from (nI_add 5 j91).trans (congrArg nI (by omega))]
                refine va_iald hx hb hK hP 0 0 rfl rfl (vp_in_nI (by omega) (by decide)) dX11_goStep_115 ?_
                rw [nI_clamp (n := (j91 + 5)) (by omega)]
                refine lv_iload hx hb dX11_goStep_116 (lv_at hl 1 rfl) ?_
                refine lv_iload_n hx hb dX11_goStep_118 rfl (lv_at hl 2 rfl) ?_
                refine lv_imul hx hb dX11_goStep_119 ?_
                refine lv_isub hx hb dX11_goStep_120 ?_
                refine lv_istore (lv' := [(5, .int ((x415 (j91 + 5)) - ((r385 / r380) * r380))), (4, .int (r385 / r380)), (3, .int r380), (2, .int (nI j91)), (1, .int x186), (0, .ref to)]) hx hb dX11_goStep_121 hl (by decide) rfl (fun ls hl => ?_)
                refine lv_aload_n hx hb dX11_goStep_123 rfl (lv_at hl 5 rfl) ?_
                refine lv_iconst (v := 5) hx hb dX11_goStep_124 (by decide) ?_
                refine lv_iload_n hx hb dX11_goStep_125 rfl (lv_at hl 3 rfl) ?_
                refine lv_iadd hx hb dX11_goStep_126 ?_
                rw [show 5 + (nI j91) = nI (j91 + 5) from (nI_add 5 j91).trans (congrArg nI (by omega))]
                refine lv_iload hx hb dX11_goStep_127 (lv_at hl 0 rfl) ?_
                refine lv_if_ge (tgt := 136) hx hb dX11_goStep_129 (by decide) (fun h447 => ?_) (fun h448 => ?_)
                · skip
                  refine lv_iload hx hb dX11_goStep_136 (lv_at hl 0 rfl) ?_
                  refine va_iast hx hb hK hP hD hS 0 0 rfl rfl (vp_in_nI (by omega) (by decide)) dX11_goStep_138 (fun H locs hP hD hS => ?_)
                  rw [nI_clamp (n := (j91 + 5)) (by omega)] at hP hD
                  have hr449 : kr_t 30 (upd x415 (j91 + 5) ((x415 (j91 + 5)) - ((r385 / r380) * r380))) := kr_up hr_x415 (kr_free (by unfold kr_a; omega) (by unfold kr_s; omega))
                  have hk450 : (upd x415 (j91 + 5) ((x415 (j91 + 5)) - ((r385 / r380) * r380))) 0 = (nI fi) := (pk_un (by omega)).trans hk_x415_0
                  have hk451 : (upd x415 (j91 + 5) ((x415 (j91 + 5)) - ((r385 / r380) * r380))) 1 = (nI gl) := (pk_un (by omega)).trans hk_x415_1
                  have hP : va_P D vwCl [(to, .inl (y 0, 30, .inl (upd x415 (j91 + 5) ((x415 (j91 + 5)) - ((r385 / r380) * r380)))))] H := hP
                  have hD : va_D A [(to, .inl (y 0, 30, .inl (upd x415 (j91 + 5) ((x415 (j91 + 5)) - ((r385 / r380) * r380)))))] := hD
                  refine lv_iload_n hx hb dX11_goStep_139 rfl (lv_at hl 4 rfl) ?_
                  refine lv_iload hx hb dX11_goStep_140 (lv_at hl 1 rfl) ?_
                  refine lv_iload_n hx hb dX11_goStep_142 rfl (lv_at hl 2 rfl) ?_
                  refine lv_imul hx hb dX11_goStep_143 ?_
                  refine lv_iadd hx hb dX11_goStep_144 ?_
                  refine lv_istore_n (lv' := [(1, .int (x186 + ((r385 / r380) * r380))), (5, .int ((x415 (j91 + 5)) - ((r385 / r380) * r380))), (4, .int (r385 / r380)), (3, .int r380), (2, .int (nI j91)), (0, .ref to)]) hx hb dX11_goStep_145 rfl hl (by decide) rfl (fun ls hl => ?_)
                  refine lv_iinc (v := (nI (j91 + 1))) (lv' := [(2, .int (nI (j91 + 1))), (1, .int (x186 + ((r385 / r380) * r380))), (5, .int ((x415 (j91 + 5)) - ((r385 / r380) * r380))), (4, .int (r385 / r380)), (3, .int r380), (0, .ref to)]) hx hb dX11_goStep_146 hl (k := 4) rfl (nI_1 j91) (by decide) rfl (fun ls hl => ?_)
                  refine lv_goto (tgt := 4) hx hb dX11_goStep_149 (by decide) ?_
                  exact ihj91 (j91 + 1) (x186 + ((r385 / r380) * r380)) (upd x415 (j91 + 5) ((x415 (j91 + 5)) - ((r385 / r380) * r380))) H locs ls (by omega) (by omega) hr449 hk450 hk451 (hP.sub [0] rfl) (hD.sub [0] (by decide) rfl) hS (lv_sub hl [0, 1, 5] rfl)
                · skip
                  refine lv_iconst (v := 0) hx hb dX11_goStep_132 (by decide) ?_
                  refine lv_goto (tgt := 138) hx hb dX11_goStep_133 (by decide) ?_
                  refine va_iast hx hb hK hP hD hS 0 0 rfl rfl (vp_in_nI (by omega) (by decide)) dX11_goStep_138 (fun H locs hP hD hS => ?_)
                  rw [nI_clamp (n := (j91 + 5)) (by omega)] at hP hD
                  have hr452 : kr_t 30 (upd x415 (j91 + 5) 0) := kr_up hr_x415 (kr_ok0)
                  have hk453 : (upd x415 (j91 + 5) 0) 0 = (nI fi) := (pk_un (by omega)).trans hk_x415_0
                  have hk454 : (upd x415 (j91 + 5) 0) 1 = (nI gl) := (pk_un (by omega)).trans hk_x415_1
                  have hP : va_P D vwCl [(to, .inl (y 0, 30, .inl (upd x415 (j91 + 5) 0)))] H := hP
                  have hD : va_D A [(to, .inl (y 0, 30, .inl (upd x415 (j91 + 5) 0)))] := hD
                  refine lv_iload_n hx hb dX11_goStep_139 rfl (lv_at hl 4 rfl) ?_
                  refine lv_iload hx hb dX11_goStep_140 (lv_at hl 1 rfl) ?_
                  refine lv_iload_n hx hb dX11_goStep_142 rfl (lv_at hl 2 rfl) ?_
                  refine lv_imul hx hb dX11_goStep_143 ?_
                  refine lv_iadd hx hb dX11_goStep_144 ?_
                  refine lv_istore_n (lv' := [(1, .int (x186 + ((r385 / r380) * r380))), (5, .int ((x415 (j91 + 5)) - ((r385 / r380) * r380))), (4, .int (r385 / r380)), (3, .int r380), (2, .int (nI j91)), (0, .ref to)]) hx hb dX11_goStep_145 rfl hl (by decide) rfl (fun ls hl => ?_)
                  refine lv_iinc (v := (nI (j91 + 1))) (lv' := [(2, .int (nI (j91 + 1))), (1, .int (x186 + ((r385 / r380) * r380))), (5, .int ((x415 (j91 + 5)) - ((r385 / r380) * r380))), (4, .int (r385 / r380)), (3, .int r380), (0, .ref to)]) hx hb dX11_goStep_146 hl (k := 4) rfl (nI_1 j91) (by decide) rfl (fun ls hl => ?_)
                  refine lv_goto (tgt := 4) hx hb dX11_goStep_149 (by decide) ?_
                  exact ihj91 (j91 + 1) (x186 + ((r385 / r380) * r380)) (upd x415 (j91 + 5) 0) H locs ls (by omega) (by omega) hr452 hk453 hk454 (hP.sub [0] rfl) (hD.sub [0] (by decide) rfl) hS (lv_sub hl [0, 1, 5] rfl)
              · skip
                have h446 : ¬ gl ≤ j92 := fun q9 => h446 ((nI_leI (a := gl) (b := j92) (by omega) (by omega)).mpr q9)
                refine lv_aload_n hx hb dX11_goStep_49 rfl (lv_at hl 5 rfl) ?_
                refine lv_bipush (v := 11) hx hb dX11_goStep_50 (by decide) ?_
                refine lv_iload hx hb dX11_goStep_52 (lv_at hl 0 rfl) ?_
                refine lv_iadd hx hb dX11_goStep_54 ?_
                rw [show 11 + (nI j92) = nI (j92 + 11) from (nI_add 11 j92).trans (congrArg nI (by omega))]
                refine va_iald hx hb hK hP 0 0 rfl rfl (vp_in_nI (by omega) (by decide)) dX11_goStep_55 ?_
                rw [nI_clamp (n := (j92 + 11)) (by omega)]
                obtain ⟨w455, h456, h457⟩ := kr_at hr_x415 (p := (j92 + 11)) (by omega) (by unfold kr_a; omega)
                rw [h457]
                refine lv_iload_n hx hb dX11_goStep_56 rfl (lv_at hl 3 rfl) ?_
                refine lv_icmp_ne (tgt := 73) hx hb dX11_goStep_57 (by decide) (fun h458 => ?_) (fun h459 => ?_)
                · skip
                  have h458 : ¬ w455 = j91 := fun q9 => h458 ((nI_eq (a := w455) (b := j91) (by omega) (by omega)).mpr q9)
                  refine lv_aload_n hx hb dX11_goStep_73 rfl (lv_at hl 5 rfl) ?_
                  refine lv_bipush (v := 16) hx hb dX11_goStep_74 (by decide) ?_
                  refine lv_iload hx hb dX11_goStep_76 (lv_at hl 0 rfl) ?_
                  refine lv_iadd hx hb dX11_goStep_78 ?_
                  rw [show 16 + (nI j92) = nI (j92 + 16) from (nI_add 16 j92).trans (congrArg nI (by omega))]
                  refine va_iald hx hb hK hP 0 0 rfl rfl (vp_in_nI (by omega) (by decide)) dX11_goStep_79 ?_
                  rw [nI_clamp (n := (j92 + 16)) (by omega)]
                  refine lv_istore (lv' := [(6, .int (x415 (j92 + 16))), (5, .int (nI j92)), (4, .int (r385 / r380)), (3, .int r380), (2, .int (nI j91)), (1, .int x186), (0, .ref to)]) hx hb dX11_goStep_80 hl (by decide) rfl (fun ls hl => ?_)
                  refine lv_aload_n hx hb dX11_goStep_82 rfl (lv_at hl 6 rfl) ?_
                  refine lv_bipush (v := 16) hx hb dX11_goStep_83 (by decide) ?_
                  refine lv_iload hx hb dX11_goStep_85 (lv_at hl 1 rfl) ?_
                  refine lv_iadd hx hb dX11_goStep_87 ?_
                  rw [show 16 + (nI j92) = nI (j92 + 16) from (nI_add 16 j92).trans (congrArg nI (by omega))]
                  refine lv_iload hx hb dX11_goStep_88 (lv_at hl 0 rfl) ?_
                  refine lv_sipush (v := 999) hx hb dX11_goStep_90 (by decide) ?_
                  refine lv_icmp_le (tgt := 102) hx hb dX11_goStep_93 (by decide) (fun h460 => ?_) (fun h461 => ?_)
                  · skip
                    refine lv_iload hx hb dX11_goStep_102 (lv_at hl 0 rfl) ?_
                    refine va_iast hx hb hK hP hD hS 0 0 rfl rfl (vp_in_nI (by omega) (by decide)) dX11_goStep_104 (fun H locs hP hD hS => ?_)
                    rw [nI_clamp (n := (j92 + 16)) (by omega)] at hP hD
                    have hr462 : kr_t 30 (upd x415 (j92 + 16) (x415 (j92 + 16))) := kr_up hr_x415 (kr_move (p := (j92 + 16)) (hr_x415 (j92 + 16) (by omega)) (by unfold kr_a; omega) (by unfold kr_s; omega))
                    have hk463 : (upd x415 (j92 + 16) (x415 (j92 + 16))) 0 = (nI fi) := (pk_un (by omega)).trans hk_x415_0
                    have hk464 : (upd x415 (j92 + 16) (x415 (j92 + 16))) 1 = (nI gl) := (pk_un (by omega)).trans hk_x415_1
                    have hP : va_P D vwCl [(to, .inl (y 0, 30, .inl (upd x415 (j92 + 16) (x415 (j92 + 16)))))] H := hP
                    have hD : va_D A [(to, .inl (y 0, 30, .inl (upd x415 (j92 + 16) (x415 (j92 + 16)))))] := hD
                    refine lv_iinc (v := (nI (j92 + 1))) (lv' := [(5, .int (nI (j92 + 1))), (6, .int (x415 (j92 + 16))), (4, .int (r385 / r380)), (3, .int r380), (2, .int (nI j91)), (1, .int x186), (0, .ref to)]) hx hb dX11_goStep_105 hl (k := 1) rfl (nI_1 j92) (by decide) rfl (fun ls hl => ?_)
                    refine lv_goto (tgt := 41) hx hb dX11_goStep_108 (by decide) ?_
                    exact ihj92 (j92 + 1) (upd x415 (j92 + 16) (x415 (j92 + 16))) H locs ls (by omega) (by omega) hr462 hk463 hk464 (hP.sub [0] rfl) (hD.sub [0] (by decide) rfl) hS (lv_sub hl [0, 2, 3, 4, 5, 6] rfl)
                  · skip
                    exact absurd ((hr_x415 (j92 + 16) (by omega)).2 (by unfold kr_s; omega)) h461
                · skip
                  have h459 : w455 = j91 := (nI_eq (a := w455) (b := j91) (by omega) (by omega)).mp h459
                  refine lv_aload_n hx hb dX11_goStep_60 rfl (lv_at hl 5 rfl) ?_
                  refine lv_bipush (v := 16) hx hb dX11_goStep_61 (by decide) ?_
                  refine lv_iload hx hb dX11_goStep_63 (lv_at hl 0 rfl) ?_
                  refine lv_iadd hx hb dX11_goStep_65 ?_
                  rw [show 16 + (nI j92) = nI (j92 + 16) from (nI_add 16 j92).trans (congrArg nI (by omega))]
                  refine va_iald hx hb hK hP 0 0 rfl rfl (vp_in_nI (by omega) (by decide)) dX11_goStep_66 ?_
                  rw [nI_clamp (n := (j92 + 16)) (by omega)]
                  refine lv_iload hx hb dX11_goStep_67 (lv_at hl 1 rfl) ?_
                  refine lv_iadd hx hb dX11_goStep_69 ?_
                  refine lv_goto (tgt := 80) hx hb dX11_goStep_70 (by decide) ?_
                  refine lv_istore (lv' := [(6, .int ((x415 (j92 + 16)) + (r385 / r380))), (5, .int (nI j92)), (4, .int (r385 / r380)), (3, .int r380), (2, .int (nI j91)), (1, .int x186), (0, .ref to)]) hx hb dX11_goStep_80 hl (by decide) rfl (fun ls hl => ?_)
                  refine lv_aload_n hx hb dX11_goStep_82 rfl (lv_at hl 6 rfl) ?_
                  refine lv_bipush (v := 16) hx hb dX11_goStep_83 (by decide) ?_
                  refine lv_iload hx hb dX11_goStep_85 (lv_at hl 1 rfl) ?_
                  refine lv_iadd hx hb dX11_goStep_87 ?_
                  rw [show 16 + (nI j92) = nI (j92 + 16) from (nI_add 16 j92).trans (congrArg nI (by omega))]
                  refine lv_iload hx hb dX11_goStep_88 (lv_at hl 0 rfl) ?_
                  refine lv_sipush (v := 999) hx hb dX11_goStep_90 (by decide) ?_
                  refine lv_icmp_le (tgt := 102) hx hb dX11_goStep_93 (by decide) (fun h465 => ?_) (fun h466 => ?_)
                  · skip
                    refine lv_iload hx hb dX11_goStep_102 (lv_at hl 0 rfl) ?_
                    refine va_iast hx hb hK hP hD hS 0 0 rfl rfl (vp_in_nI (by omega) (by decide)) dX11_goStep_104 (fun H locs hP hD hS => ?_)
                    rw [nI_clamp (n := (j92 + 16)) (by omega)] at hP hD
                    have hr467 : kr_t 30 (upd x415 (j92 + 16) ((x415 (j92 + 16)) + (r385 / r380))) := kr_up hr_x415 (kr_oks (by unfold kr_a; omega) (h465))
                    have hk468 : (upd x415 (j92 + 16) ((x415 (j92 + 16)) + (r385 / r380))) 0 = (nI fi) := (pk_un (by omega)).trans hk_x415_0
                    have hk469 : (upd x415 (j92 + 16) ((x415 (j92 + 16)) + (r385 / r380))) 1 = (nI gl) := (pk_un (by omega)).trans hk_x415_1
                    have hP : va_P D vwCl [(to, .inl (y 0, 30, .inl (upd x415 (j92 + 16) ((x415 (j92 + 16)) + (r385 / r380)))))] H := hP
                    have hD : va_D A [(to, .inl (y 0, 30, .inl (upd x415 (j92 + 16) ((x415 (j92 + 16)) + (r385 / r380)))))] := hD
                    refine lv_iinc (v := (nI (j92 + 1))) (lv' := [(5, .int (nI (j92 + 1))), (6, .int ((x415 (j92 + 16)) + (r385 / r380))), (4, .int (r385 / r380)), (3, .int r380), (2, .int (nI j91)), (1, .int x186), (0, .ref to)]) hx hb dX11_goStep_105 hl (k := 1) rfl (nI_1 j92) (by decide) rfl (fun ls hl => ?_)
                    refine lv_goto (tgt := 41) hx hb dX11_goStep_108 (by decide) ?_
                    exact ihj92 (j92 + 1) (upd x415 (j92 + 16) ((x415 (j92 + 16)) + (r385 / r380))) H locs ls (by omega) (by omega) hr467 hk468 hk469 (hP.sub [0] rfl) (hD.sub [0] (by decide) rfl) hS (lv_sub hl [0, 2, 3, 4, 5, 6] rfl)
                  · skip
                    refine lv_sipush (v := 999) hx hb dX11_goStep_96 (by decide) ?_
                    refine lv_goto (tgt := 104) hx hb dX11_goStep_99 (by decide) ?_
                    refine va_iast hx hb hK hP hD hS 0 0 rfl rfl (vp_in_nI (by omega) (by decide)) dX11_goStep_104 (fun H locs hP hD hS => ?_)
                    rw [nI_clamp (n := (j92 + 16)) (by omega)] at hP hD
                    have hr470 : kr_t 30 (upd x415 (j92 + 16) 999) := kr_up hr_x415 (kr_oks (by unfold kr_a; omega) (by decide))
                    have hk471 : (upd x415 (j92 + 16) 999) 0 = (nI fi) := (pk_un (by omega)).trans hk_x415_0
                    have hk472 : (upd x415 (j92 + 16) 999) 1 = (nI gl) := (pk_un (by omega)).trans hk_x415_1
                    have hP : va_P D vwCl [(to, .inl (y 0, 30, .inl (upd x415 (j92 + 16) 999)))] H := hP
                    have hD : va_D A [(to, .inl (y 0, 30, .inl (upd x415 (j92 + 16) 999)))] := hD
                    refine lv_iinc (v := (nI (j92 + 1))) (lv' := [(5, .int (nI (j92 + 1))), (6, .int ((x415 (j92 + 16)) + (r385 / r380))), (4, .int (r385 / r380)), (3, .int r380), (2, .int (nI j91)), (1, .int x186), (0, .ref to)]) hx hb dX11_goStep_105 hl (k := 1) rfl (nI_1 j92) (by decide) rfl (fun ls hl => ?_)
                    refine lv_goto (tgt := 41) hx hb dX11_goStep_108 (by decide) ?_
                    exact ihj92 (j92 + 1) (upd x415 (j92 + 16) 999) H locs ls (by omega) (by omega) hr470 hk471 hk472 (hP.sub [0] rfl) (hD.sub [0] (by decide) rfl) hS (lv_sub hl [0, 2, 3, 4, 5, 6] rfl)
          exact lp444 (gl + 1) 0 x187 _ _ _ (by omega) (by omega) hr_x187 hk_x187_0 hk_x187_1 hP hD hS (lv_sub hl [0, 1, 2, 3, 4, 5] rfl)
        · skip
          refine lv_iconst (v := 0) hx hb dX11_goStep_21 (by decide) ?_
          refine lv_goto (tgt := 36) hx hb dX11_goStep_22 (by decide) ?_
          refine lv_istore (lv' := [(4, .int 0), (3, .int r380), (2, .int (nI j91)), (1, .int x186), (0, .ref to)]) hx hb dX11_goStep_36 hl (by decide) rfl (fun ls hl => ?_)
          refine lv_iconst (v := 0) hx hb dX11_goStep_38 (by decide) ?_
          refine lv_istore (lv' := [(5, .int 0), (4, .int 0), (3, .int r380), (2, .int (nI j91)), (1, .int x186), (0, .ref to)]) hx hb dX11_goStep_39 hl (by decide) rfl (fun ls hl => ?_)
          have lp530 : ∀ (fuj92 j92 : Nat) (x501 : Nat → Int32) (H : Heap) (locs : List Loc) (ls : Array Slot), j92 ≤ gl → gl - j92 < fuj92 → kr_t 30 x501 → x501 0 = (nI fi) → x501 1 = (nI gl) → va_P D vwCl [(to, .inl (y 0, 30, .inl x501))] H → va_D A [(to, .inl (y 0, 30, .inl x501))] → va_S A s.heap H locs → lv_has ls 7 [(5, .int (nI j92)), (4, .int 0), (3, .int r380), (2, .int (nI j91)), (1, .int x186), (0, .ref to)] → W pZ l eZ ({ frames := 5, cells := 0, slots := 0, locals := 151 }) s mZ [.ref to].toArray beZ meZ cZ H locs 0 0 (MQ beZ (va_Qi (fun (r : Int32) (u : (Nat → Int32)) => kr_t 30 u ∧ u 0 = (nI fi) ∧ u 1 = (nI gl)) (kw_B D (fun u => [(to, .inl (y 0, 30, .inl u))]) A) A) [.ref to].toArray s 0 0 A) (F0 mZ 41 ls []) := by
            intro fuj92
            induction fuj92 with
            | zero => intro j92 x501 H locs ls hj9 hf9; exact absurd hf9 (Nat.not_lt_zero _)
            | succ fuj92 ihj92 =>
              intro j92 x501 H locs ls hj92 hfj92 hr_x501 hk_x501_0 hk_x501_1 hP hD hS hl
              refine lv_iload hx hb dX11_goStep_41 (lv_at hl 0 rfl) ?_
              refine lv_aload_n hx hb dX11_goStep_43 rfl (lv_at hl 5 rfl) ?_
              refine lv_iconst (v := 1) hx hb dX11_goStep_44 (by decide) ?_
              refine va_iald hx hb hK hP 0 0 rfl rfl (by unfold vp_in; decide) dX11_goStep_45 ?_
              rw [show ((1 : Int32)).toNatClampNeg = 1 from rfl]
              rw [show (x501 1) = (nI gl) from hk_x501_1]
              refine lv_icmp_ge (tgt := 111) hx hb dX11_goStep_46 (by decide) (fun h531 => ?_) (fun h532 => ?_)
              · skip
                have h531 : gl ≤ j92 := (nI_leI (a := gl) (b := j92) (by omega) (by omega)).mp h531
                refine lv_aload_n hx hb dX11_goStep_111 rfl (lv_at hl 5 rfl) ?_
                refine lv_iconst (v := 5) hx hb dX11_goStep_112 (by decide) ?_
                refine lv_iload_n hx hb dX11_goStep_113 rfl (lv_at hl 3 rfl) ?_
                refine lv_iadd hx hb dX11_goStep_114 ?_
                rw [show 5 + (nI j91) = nI (j91 + 5) from (nI_add 5 j91).trans (congrArg nI (by omega))]
                refine va_iald hx hb hK hP 0 0 rfl rfl (vp_in_nI (by omega) (by decide)) dX11_goStep_115 ?_
                rw [nI_clamp (n := (j91 + 5)) (by omega)]
                refine lv_iload hx hb dX11_goStep_116 (lv_at hl 1 rfl) ?_
                refine lv_iload_n hx hb dX11_goStep_118 rfl (lv_at hl 2 rfl) ?_
                refine lv_imul hx hb dX11_goStep_119 ?_
                refine lv_isub hx hb dX11_goStep_120 ?_
                refine lv_istore (lv' := [(5, .int ((x501 (j91 + 5)) - (0 * r380))), (4, .int 0), (3, .int r380), (2, .int (nI j91)), (1, .int x186), (0, .ref to)]) hx hb dX11_goStep_121 hl (by decide) rfl (fun ls hl => ?_)
                refine lv_aload_n hx hb dX11_goStep_123 rfl (lv_at hl 5 rfl) ?_
                refine lv_iconst (v := 5) hx hb dX11_goStep_124 (by decide) ?_
                refine lv_iload_n hx hb dX11_goStep_125 rfl (lv_at hl 3 rfl) ?_
                refine lv_iadd hx hb dX11_goStep_126 ?_
                rw [show 5 + (nI j91) = nI (j91 + 5) from (nI_add 5 j91).trans (congrArg nI (by omega))]
                refine lv_iload hx hb dX11_goStep_127 (lv_at hl 0 rfl) ?_
                refine lv_if_ge (tgt := 136) hx hb dX11_goStep_129 (by decide) (fun h533 => ?_) (fun h534 => ?_)
                · skip
                  refine lv_iload hx hb dX11_goStep_136 (lv_at hl 0 rfl) ?_
                  refine va_iast hx hb hK hP hD hS 0 0 rfl rfl (vp_in_nI (by omega) (by decide)) dX11_goStep_138 (fun H locs hP hD hS => ?_)
                  rw [nI_clamp (n := (j91 + 5)) (by omega)] at hP hD
                  have hr535 : kr_t 30 (upd x501 (j91 + 5) ((x501 (j91 + 5)) - (0 * r380))) := kr_up hr_x501 (kr_free (by unfold kr_a; omega) (by unfold kr_s; omega))
                  have hk536 : (upd x501 (j91 + 5) ((x501 (j91 + 5)) - (0 * r380))) 0 = (nI fi) := (pk_un (by omega)).trans hk_x501_0
                  have hk537 : (upd x501 (j91 + 5) ((x501 (j91 + 5)) - (0 * r380))) 1 = (nI gl) := (pk_un (by omega)).trans hk_x501_1
                  have hP : va_P D vwCl [(to, .inl (y 0, 30, .inl (upd x501 (j91 + 5) ((x501 (j91 + 5)) - (0 * r380)))))] H := hP
                  have hD : va_D A [(to, .inl (y 0, 30, .inl (upd x501 (j91 + 5) ((x501 (j91 + 5)) - (0 * r380)))))] := hD
                  refine lv_iload_n hx hb dX11_goStep_139 rfl (lv_at hl 4 rfl) ?_
                  refine lv_iload hx hb dX11_goStep_140 (lv_at hl 1 rfl) ?_
                  refine lv_iload_n hx hb dX11_goStep_142 rfl (lv_at hl 2 rfl) ?_
                  refine lv_imul hx hb dX11_goStep_143 ?_
                  refine lv_iadd hx hb dX11_goStep_144 ?_
                  refine lv_istore_n (lv' := [(1, .int (x186 + (0 * r380))), (5, .int ((x501 (j91 + 5)) - (0 * r380))), (4, .int 0), (3, .int r380), (2, .int (nI j91)), (0, .ref to)]) hx hb dX11_goStep_145 rfl hl (by decide) rfl (fun ls hl => ?_)
                  refine lv_iinc (v := (nI (j91 + 1))) (lv' := [(2, .int (nI (j91 + 1))), (1, .int (x186 + (0 * r380))), (5, .int ((x501 (j91 + 5)) - (0 * r380))), (4, .int 0), (3, .int r380), (0, .ref to)]) hx hb dX11_goStep_146 hl (k := 4) rfl (nI_1 j91) (by decide) rfl (fun ls hl => ?_)
                  refine lv_goto (tgt := 4) hx hb dX11_goStep_149 (by decide) ?_
                  exact ihj91 (j91 + 1) (x186 + (0 * r380)) (upd x501 (j91 + 5) ((x501 (j91 + 5)) - (0 * r380))) H locs ls (by omega) (by omega) hr535 hk536 hk537 (hP.sub [0] rfl) (hD.sub [0] (by decide) rfl) hS (lv_sub hl [0, 1, 5] rfl)
                · skip
                  refine lv_iconst (v := 0) hx hb dX11_goStep_132 (by decide) ?_
                  refine lv_goto (tgt := 138) hx hb dX11_goStep_133 (by decide) ?_
                  refine va_iast hx hb hK hP hD hS 0 0 rfl rfl (vp_in_nI (by omega) (by decide)) dX11_goStep_138 (fun H locs hP hD hS => ?_)
                  rw [nI_clamp (n := (j91 + 5)) (by omega)] at hP hD
                  have hr538 : kr_t 30 (upd x501 (j91 + 5) 0) := kr_up hr_x501 (kr_ok0)
                  have hk539 : (upd x501 (j91 + 5) 0) 0 = (nI fi) := (pk_un (by omega)).trans hk_x501_0
                  have hk540 : (upd x501 (j91 + 5) 0) 1 = (nI gl) := (pk_un (by omega)).trans hk_x501_1
                  have hP : va_P D vwCl [(to, .inl (y 0, 30, .inl (upd x501 (j91 + 5) 0)))] H := hP
                  have hD : va_D A [(to, .inl (y 0, 30, .inl (upd x501 (j91 + 5) 0)))] := hD
                  refine lv_iload_n hx hb dX11_goStep_139 rfl (lv_at hl 4 rfl) ?_
                  refine lv_iload hx hb dX11_goStep_140 (lv_at hl 1 rfl) ?_
                  refine lv_iload_n hx hb dX11_goStep_142 rfl (lv_at hl 2 rfl) ?_
                  refine lv_imul hx hb dX11_goStep_143 ?_
                  refine lv_iadd hx hb dX11_goStep_144 ?_
                  refine lv_istore_n (lv' := [(1, .int (x186 + (0 * r380))), (5, .int ((x501 (j91 + 5)) - (0 * r380))), (4, .int 0), (3, .int r380), (2, .int (nI j91)), (0, .ref to)]) hx hb dX11_goStep_145 rfl hl (by decide) rfl (fun ls hl => ?_)
                  refine lv_iinc (v := (nI (j91 + 1))) (lv' := [(2, .int (nI (j91 + 1))), (1, .int (x186 + (0 * r380))), (5, .int ((x501 (j91 + 5)) - (0 * r380))), (4, .int 0), (3, .int r380), (0, .ref to)]) hx hb dX11_goStep_146 hl (k := 4) rfl (nI_1 j91) (by decide) rfl (fun ls hl => ?_)
                  refine lv_goto (tgt := 4) hx hb dX11_goStep_149 (by decide) ?_
                  exact ihj91 (j91 + 1) (x186 + (0 * r380)) (upd x501 (j91 + 5) 0) H locs ls (by omega) (by omega) hr538 hk539 hk540 (hP.sub [0] rfl) (hD.sub [0] (by decide) rfl) hS (lv_sub hl [0, 1, 5] rfl)
              · skip
                have h532 : ¬ gl ≤ j92 := fun q9 => h532 ((nI_leI (a := gl) (b := j92) (by omega) (by omega)).mpr q9)
                refine lv_aload_n hx hb dX11_goStep_49 rfl (lv_at hl 5 rfl) ?_
                refine lv_bipush (v := 11) hx hb dX11_goStep_50 (by decide) ?_
                refine lv_iload hx hb dX11_goStep_52 (lv_at hl 0 rfl) ?_
                refine lv_iadd hx hb dX11_goStep_54 ?_
                rw [show 11 + (nI j92) = nI (j92 + 11) from (nI_add 11 j92).trans (congrArg nI (by omega))]
                refine va_iald hx hb hK hP 0 0 rfl rfl (vp_in_nI (by omega) (by decide)) dX11_goStep_55 ?_
                rw [nI_clamp (n := (j92 + 11)) (by omega)]
                obtain ⟨w541, h542, h543⟩ := kr_at hr_x501 (p := (j92 + 11)) (by omega) (by unfold kr_a; omega)
                rw [h543]
                refine lv_iload_n hx hb dX11_goStep_56 rfl (lv_at hl 3 rfl) ?_
                refine lv_icmp_ne (tgt := 73) hx hb dX11_goStep_57 (by decide) (fun h544 => ?_) (fun h545 => ?_)
                · skip
                  have h544 : ¬ w541 = j91 := fun q9 => h544 ((nI_eq (a := w541) (b := j91) (by omega) (by omega)).mpr q9)
                  refine lv_aload_n hx hb dX11_goStep_73 rfl (lv_at hl 5 rfl) ?_
                  refine lv_bipush (v := 16) hx hb dX11_goStep_74 (by decide) ?_
                  refine lv_iload hx hb dX11_goStep_76 (lv_at hl 0 rfl) ?_
                  refine lv_iadd hx hb dX11_goStep_78 ?_
                  rw [show 16 + (nI j92) = nI (j92 + 16) from (nI_add 16 j92).trans (congrArg nI (by omega))]
                  refine va_iald hx hb hK hP 0 0 rfl rfl (vp_in_nI (by omega) (by decide)) dX11_goStep_79 ?_
                  rw [nI_clamp (n := (j92 + 16)) (by omega)]
                  refine lv_istore (lv' := [(6, .int (x501 (j92 + 16))), (5, .int (nI j92)), (4, .int 0), (3, .int r380), (2, .int (nI j91)), (1, .int x186), (0, .ref to)]) hx hb dX11_goStep_80 hl (by decide) rfl (fun ls hl => ?_)
                  refine lv_aload_n hx hb dX11_goStep_82 rfl (lv_at hl 6 rfl) ?_
                  refine lv_bipush (v := 16) hx hb dX11_goStep_83 (by decide) ?_
                  refine lv_iload hx hb dX11_goStep_85 (lv_at hl 1 rfl) ?_
                  refine lv_iadd hx hb dX11_goStep_87 ?_
                  rw [show 16 + (nI j92) = nI (j92 + 16) from (nI_add 16 j92).trans (congrArg nI (by omega))]
                  refine lv_iload hx hb dX11_goStep_88 (lv_at hl 0 rfl) ?_
                  refine lv_sipush (v := 999) hx hb dX11_goStep_90 (by decide) ?_
                  refine lv_icmp_le (tgt := 102) hx hb dX11_goStep_93 (by decide) (fun h546 => ?_) (fun h547 => ?_)
                  · skip
                    refine lv_iload hx hb dX11_goStep_102 (lv_at hl 0 rfl) ?_
                    refine va_iast hx hb hK hP hD hS 0 0 rfl rfl (vp_in_nI (by omega) (by decide)) dX11_goStep_104 (fun H locs hP hD hS => ?_)
                    rw [nI_clamp (n := (j92 + 16)) (by omega)] at hP hD
                    have hr548 : kr_t 30 (upd x501 (j92 + 16) (x501 (j92 + 16))) := kr_up hr_x501 (kr_move (p := (j92 + 16)) (hr_x501 (j92 + 16) (by omega)) (by unfold kr_a; omega) (by unfold kr_s; omega))
                    have hk549 : (upd x501 (j92 + 16) (x501 (j92 + 16))) 0 = (nI fi) := (pk_un (by omega)).trans hk_x501_0
                    have hk550 : (upd x501 (j92 + 16) (x501 (j92 + 16))) 1 = (nI gl) := (pk_un (by omega)).trans hk_x501_1
                    have hP : va_P D vwCl [(to, .inl (y 0, 30, .inl (upd x501 (j92 + 16) (x501 (j92 + 16)))))] H := hP
                    have hD : va_D A [(to, .inl (y 0, 30, .inl (upd x501 (j92 + 16) (x501 (j92 + 16)))))] := hD
                    refine lv_iinc (v := (nI (j92 + 1))) (lv' := [(5, .int (nI (j92 + 1))), (6, .int (x501 (j92 + 16))), (4, .int 0), (3, .int r380), (2, .int (nI j91)), (1, .int x186), (0, .ref to)]) hx hb dX11_goStep_105 hl (k := 1) rfl (nI_1 j92) (by decide) rfl (fun ls hl => ?_)
                    refine lv_goto (tgt := 41) hx hb dX11_goStep_108 (by decide) ?_
                    exact ihj92 (j92 + 1) (upd x501 (j92 + 16) (x501 (j92 + 16))) H locs ls (by omega) (by omega) hr548 hk549 hk550 (hP.sub [0] rfl) (hD.sub [0] (by decide) rfl) hS (lv_sub hl [0, 2, 3, 4, 5, 6] rfl)
                  · skip
                    exact absurd ((hr_x501 (j92 + 16) (by omega)).2 (by unfold kr_s; omega)) h547
                · skip
                  have h545 : w541 = j91 := (nI_eq (a := w541) (b := j91) (by omega) (by omega)).mp h545
                  refine lv_aload_n hx hb dX11_goStep_60 rfl (lv_at hl 5 rfl) ?_
                  refine lv_bipush (v := 16) hx hb dX11_goStep_61 (by decide) ?_
                  refine lv_iload hx hb dX11_goStep_63 (lv_at hl 0 rfl) ?_
                  refine lv_iadd hx hb dX11_goStep_65 ?_
                  rw [show 16 + (nI j92) = nI (j92 + 16) from (nI_add 16 j92).trans (congrArg nI (by omega))]
                  refine va_iald hx hb hK hP 0 0 rfl rfl (vp_in_nI (by omega) (by decide)) dX11_goStep_66 ?_
                  rw [nI_clamp (n := (j92 + 16)) (by omega)]
                  refine lv_iload hx hb dX11_goStep_67 (lv_at hl 1 rfl) ?_
                  refine lv_iadd hx hb dX11_goStep_69 ?_
                  refine lv_goto (tgt := 80) hx hb dX11_goStep_70 (by decide) ?_
                  refine lv_istore (lv' := [(6, .int ((x501 (j92 + 16)) + 0)), (5, .int (nI j92)), (4, .int 0), (3, .int r380), (2, .int (nI j91)), (1, .int x186), (0, .ref to)]) hx hb dX11_goStep_80 hl (by decide) rfl (fun ls hl => ?_)
                  refine lv_aload_n hx hb dX11_goStep_82 rfl (lv_at hl 6 rfl) ?_
                  refine lv_bipush (v := 16) hx hb dX11_goStep_83 (by decide) ?_
                  refine lv_iload hx hb dX11_goStep_85 (lv_at hl 1 rfl) ?_
                  refine lv_iadd hx hb dX11_goStep_87 ?_
                  rw [show 16 + (nI j92) = nI (j92 + 16) from (nI_add 16 j92).trans (congrArg nI (by omega))]
                  refine lv_iload hx hb dX11_goStep_88 (lv_at hl 0 rfl) ?_
                  refine lv_sipush (v := 999) hx hb dX11_goStep_90 (by decide) ?_
                  refine lv_icmp_le (tgt := 102) hx hb dX11_goStep_93 (by decide) (fun h551 => ?_) (fun h552 => ?_)
                  · skip
                    refine lv_iload hx hb dX11_goStep_102 (lv_at hl 0 rfl) ?_
                    refine va_iast hx hb hK hP hD hS 0 0 rfl rfl (vp_in_nI (by omega) (by decide)) dX11_goStep_104 (fun H locs hP hD hS => ?_)
                    rw [nI_clamp (n := (j92 + 16)) (by omega)] at hP hD
                    have hr553 : kr_t 30 (upd x501 (j92 + 16) ((x501 (j92 + 16)) + 0)) := kr_up hr_x501 (kr_oks (by unfold kr_a; omega) (h551))
                    have hk554 : (upd x501 (j92 + 16) ((x501 (j92 + 16)) + 0)) 0 = (nI fi) := (pk_un (by omega)).trans hk_x501_0
                    have hk555 : (upd x501 (j92 + 16) ((x501 (j92 + 16)) + 0)) 1 = (nI gl) := (pk_un (by omega)).trans hk_x501_1
                    have hP : va_P D vwCl [(to, .inl (y 0, 30, .inl (upd x501 (j92 + 16) ((x501 (j92 + 16)) + 0))))] H := hP
                    have hD : va_D A [(to, .inl (y 0, 30, .inl (upd x501 (j92 + 16) ((x501 (j92 + 16)) + 0))))] := hD
                    refine lv_iinc (v := (nI (j92 + 1))) (lv' := [(5, .int (nI (j92 + 1))), (6, .int ((x501 (j92 + 16)) + 0)), (4, .int 0), (3, .int r380), (2, .int (nI j91)), (1, .int x186), (0, .ref to)]) hx hb dX11_goStep_105 hl (k := 1) rfl (nI_1 j92) (by decide) rfl (fun ls hl => ?_)
                    refine lv_goto (tgt := 41) hx hb dX11_goStep_108 (by decide) ?_
                    exact ihj92 (j92 + 1) (upd x501 (j92 + 16) ((x501 (j92 + 16)) + 0)) H locs ls (by omega) (by omega) hr553 hk554 hk555 (hP.sub [0] rfl) (hD.sub [0] (by decide) rfl) hS (lv_sub hl [0, 2, 3, 4, 5, 6] rfl)
                  · skip
                    refine lv_sipush (v := 999) hx hb dX11_goStep_96 (by decide) ?_
                    refine lv_goto (tgt := 104) hx hb dX11_goStep_99 (by decide) ?_
                    refine va_iast hx hb hK hP hD hS 0 0 rfl rfl (vp_in_nI (by omega) (by decide)) dX11_goStep_104 (fun H locs hP hD hS => ?_)
                    rw [nI_clamp (n := (j92 + 16)) (by omega)] at hP hD
                    have hr556 : kr_t 30 (upd x501 (j92 + 16) 999) := kr_up hr_x501 (kr_oks (by unfold kr_a; omega) (by decide))
                    have hk557 : (upd x501 (j92 + 16) 999) 0 = (nI fi) := (pk_un (by omega)).trans hk_x501_0
                    have hk558 : (upd x501 (j92 + 16) 999) 1 = (nI gl) := (pk_un (by omega)).trans hk_x501_1
                    have hP : va_P D vwCl [(to, .inl (y 0, 30, .inl (upd x501 (j92 + 16) 999)))] H := hP
                    have hD : va_D A [(to, .inl (y 0, 30, .inl (upd x501 (j92 + 16) 999)))] := hD
                    refine lv_iinc (v := (nI (j92 + 1))) (lv' := [(5, .int (nI (j92 + 1))), (6, .int ((x501 (j92 + 16)) + 0)), (4, .int 0), (3, .int r380), (2, .int (nI j91)), (1, .int x186), (0, .ref to)]) hx hb dX11_goStep_105 hl (k := 1) rfl (nI_1 j92) (by decide) rfl (fun ls hl => ?_)
                    refine lv_goto (tgt := 41) hx hb dX11_goStep_108 (by decide) ?_
                    exact ihj92 (j92 + 1) (upd x501 (j92 + 16) 999) H locs ls (by omega) (by omega) hr556 hk557 hk558 (hP.sub [0] rfl) (hD.sub [0] (by decide) rfl) hS (lv_sub hl [0, 2, 3, 4, 5, 6] rfl)
          exact lp530 (gl + 1) 0 x187 _ _ _ (by omega) (by omega) hr_x187 hk_x187_0 hk_x187_1 hP hD hS (lv_sub hl [0, 1, 2, 3, 4, 5] rfl)
  exact lp373 (fi + 1) 0 0 ft _ _ _ (by omega) (by omega) hkt hk0_ hk1_ hP hD hS (lv_sub hl [0, 1, 2] rfl)

set_option maxHeartbeats 4000000 in
set_option maxRecDepth 100000 in
theorem gr_goNight228 (l : Launch) (D : va_G) (y : Nat → ClassId) (to : Nat) (ft : Nat → Int32) (fi : Nat) (gl : Nat) (mi : Nat) (no : Nat) (un : Nat) (hk0_ : ft 0 = (nI fi)) (hk1_ : ft 1 = (nI gl)) (hk2_ : ft 2 = (nI mi)) (hk3_ : ft 3 = (nI no)) (hk4_ : ft 4 = (nI un)) (hkt : kr_t 228 ft) (hfi : fi ≤ 6) (hgl : gl ≤ 5) (hmi : mi ≤ 4) (hno : no ≤ 6) (hun : un ≤ 8) : kw_Mv l yX11_goNight wsX11_goNight ({ frames := 2, cells := 0, slots := 0, locals := 80 }) D y [.ref to] [(to, .inl (y 0, 228, .inl ft))] (fun (u : (Nat → Int32)) => kr_t 228 u ∧ u 0 = (nI fi) ∧ u 1 = (nI gl) ∧ u 2 = (nI mi) ∧ u 3 = (nI no) ∧ u 4 = (nI un)) (fun u => [(to, .inl (y 0, 228, .inl u))]) 0 0 := by
  refine kw_Mv.of (cc := cX11_goNight) (maxL := 3) (ret := none) (by decide) rfl ?_
  intro pZ eZ s mZ beZ meZ cZ A hE
  obtain ⟨hx, hb, hr, hml, hts, hown, hlocks, hin, hA, hP, hD, hK, hN⟩ := hE
  have hS : va_S A s.heap s.heap [] := va_S.rf
  have hl := lv_entry ([.ref to]) (n := 3) (Nat.le_of_ble_eq_true rfl)
  rw [lg_entry_eq]
  generalize (lg_sl ([.ref to]) ++ List.replicate (3 - (lg_sl ([.ref to])).length) Slot.unset).toArray = ls at hl ⊢
  have hl : lv_has ls 3 [(0, .ref to)] := hl
  refine lv_iconst (v := 0) hx hb dX11_goNight_0 (by decide) ?_
  refine lv_istore_n (lv' := [(1, .int 0), (0, .ref to)]) hx hb dX11_goNight_1 rfl hl (by decide) rfl (fun ls hl => ?_)
  have lp282 : ∀ (fuj91 j91 : Nat) (x141 : Nat → Int32) (H : Heap) (locs : List Loc) (ls : Array Slot), j91 ≤ gl → gl - j91 < fuj91 → kr_t 228 x141 → x141 0 = (nI fi) → x141 1 = (nI gl) → x141 2 = (nI mi) → x141 3 = (nI no) → x141 4 = (nI un) → va_P D vwCl [(to, .inl (y 0, 228, .inl x141))] H → va_D A [(to, .inl (y 0, 228, .inl x141))] → va_S A s.heap H locs → lv_has ls 3 [(1, .int (nI j91)), (0, .ref to)] → W pZ l eZ ({ frames := 2, cells := 0, slots := 0, locals := 80 }) s mZ [.ref to].toArray beZ meZ cZ H locs 0 0 (MQ beZ (va_Qv (fun (u : (Nat → Int32)) => kr_t 228 u ∧ u 0 = (nI fi) ∧ u 1 = (nI gl) ∧ u 2 = (nI mi) ∧ u 3 = (nI no) ∧ u 4 = (nI un)) (kw_B D (fun u => [(to, .inl (y 0, 228, .inl u))]) A) A) [.ref to].toArray s 0 0 A) (F0 mZ 2 ls []) := by
    intro fuj91
    induction fuj91 with
    | zero => intro j91 x141 H locs ls hj9 hf9; exact absurd hf9 (Nat.not_lt_zero _)
    | succ fuj91 ihj91 =>
      intro j91 x141 H locs ls hj91 hfj91 hr_x141 hk_x141_0 hk_x141_1 hk_x141_2 hk_x141_3 hk_x141_4 hP hD hS hl
      refine lv_iload_n hx hb dX11_goNight_2 rfl (lv_at hl 0 rfl) ?_
      refine lv_aload_n hx hb dX11_goNight_3 rfl (lv_at hl 1 rfl) ?_
      refine lv_iconst (v := 1) hx hb dX11_goNight_4 (by decide) ?_
      refine va_iald hx hb hK hP 0 0 rfl rfl (by unfold vp_in; decide) dX11_goNight_5 ?_
      rw [show ((1 : Int32)).toNatClampNeg = 1 from rfl]
      rw [show (x141 1) = (nI gl) from hk_x141_1]
      refine lv_icmp_ge (tgt := 30) hx hb dX11_goNight_6 (by decide) (fun h283 => ?_) (fun h284 => ?_)
      · skip
        have h283 : gl ≤ j91 := (nI_leI (a := gl) (b := j91) (by omega) (by omega)).mp h283
        refine lv_iconst (v := 0) hx hb dX11_goNight_30 (by decide) ?_
        refine lv_istore_n (lv' := [(1, .int 0), (0, .ref to)]) hx hb dX11_goNight_31 rfl hl (by decide) rfl (fun ls hl => ?_)
        have lp370 : ∀ (fuj92 j92 : Nat) (x327 : Nat → Int32) (H : Heap) (locs : List Loc) (ls : Array Slot), j92 ≤ fi → fi - j92 < fuj92 → kr_t 228 x327 → x327 0 = (nI fi) → x327 1 = (nI gl) → x327 2 = (nI mi) → x327 3 = (nI no) → x327 4 = (nI un) → va_P D vwCl [(to, .inl (y 0, 228, .inl x327))] H → va_D A [(to, .inl (y 0, 228, .inl x327))] → va_S A s.heap H locs → lv_has ls 3 [(1, .int (nI j92)), (0, .ref to)] → W pZ l eZ ({ frames := 2, cells := 0, slots := 0, locals := 80 }) s mZ [.ref to].toArray beZ meZ cZ H locs 0 0 (MQ beZ (va_Qv (fun (u : (Nat → Int32)) => kr_t 228 u ∧ u 0 = (nI fi) ∧ u 1 = (nI gl) ∧ u 2 = (nI mi) ∧ u 3 = (nI no) ∧ u 4 = (nI un)) (kw_B D (fun u => [(to, .inl (y 0, 228, .inl u))]) A) A) [.ref to].toArray s 0 0 A) (F0 mZ 32 ls []) := by
          intro fuj92
          induction fuj92 with
          | zero => intro j92 x327 H locs ls hj9 hf9; exact absurd hf9 (Nat.not_lt_zero _)
          | succ fuj92 ihj92 =>
            intro j92 x327 H locs ls hj92 hfj92 hr_x327 hk_x327_0 hk_x327_1 hk_x327_2 hk_x327_3 hk_x327_4 hP hD hS hl
            refine lv_iload_n hx hb dX11_goNight_32 rfl (lv_at hl 0 rfl) ?_
            refine lv_aload_n hx hb dX11_goNight_33 rfl (lv_at hl 1 rfl) ?_
            refine lv_iconst (v := 0) hx hb dX11_goNight_34 (by decide) ?_
            refine va_iald hx hb hK hP 0 0 rfl rfl (by unfold vp_in; decide) dX11_goNight_35 ?_
            rw [show ((0 : Int32)).toNatClampNeg = 0 from rfl]
            rw [show (x327 0) = (nI fi) from hk_x327_0]
            refine lv_icmp_ge (tgt := 71) hx hb dX11_goNight_36 (by decide) (fun h371 => ?_) (fun h372 => ?_)
            · skip
              have h371 : fi ≤ j92 := (nI_leI (a := fi) (b := j92) (by omega) (by omega)).mp h371
              refine lv_aload_n hx hb dX11_goNight_71 rfl (lv_at hl 1 rfl) ?_
              refine lv_bipush (v := 23) hx hb dX11_goNight_72 (by decide) ?_
              refine lv_dup2_11 hx hb dX11_goNight_74 rfl rfl ?_
              refine va_iald hx hb hK hP 0 0 rfl rfl (by unfold vp_in; decide) dX11_goNight_75 ?_
              rw [show ((23 : Int32)).toNatClampNeg = 23 from rfl]
              refine lv_aload_n hx hb dX11_goNight_76 rfl (lv_at hl 1 rfl) ?_
              refine lv_bipush (v := 23) hx hb dX11_goNight_77 (by decide) ?_
              refine va_iald hx hb hK hP 0 0 rfl rfl (by unfold vp_in; decide) dX11_goNight_79 ?_
              rw [show ((23 : Int32)).toNatClampNeg = 23 from rfl]
              refine lv_sipush (v := 999) hx hb dX11_goNight_80 (by decide) ?_
              refine lv_icmp_ge (tgt := 90) hx hb dX11_goNight_83 (by decide) (fun h373 => ?_) (fun h374 => ?_)
              · skip
                refine lv_iconst (v := 0) hx hb dX11_goNight_90 (by decide) ?_
                refine lv_iadd hx hb dX11_goNight_91 ?_
                refine va_iast hx hb hK hP hD hS 0 0 rfl rfl (by unfold vp_in; decide) dX11_goNight_92 (fun H locs hP hD hS => ?_)
                rw [show ((23 : Int32)).toNatClampNeg = 23 from rfl] at hP hD
                have hr375 : kr_t 228 (upd x327 23 ((x327 23) + 0)) := kr_up hr_x327 (kr_free (by unfold kr_a; omega) (by unfold kr_s; omega))
                have hk376 : (upd x327 23 ((x327 23) + 0)) 0 = (nI fi) := (pk_un (by decide)).trans hk_x327_0
                have hk377 : (upd x327 23 ((x327 23) + 0)) 1 = (nI gl) := (pk_un (by decide)).trans hk_x327_1
                have hk378 : (upd x327 23 ((x327 23) + 0)) 2 = (nI mi) := (pk_un (by decide)).trans hk_x327_2
                have hk379 : (upd x327 23 ((x327 23) + 0)) 3 = (nI no) := (pk_un (by decide)).trans hk_x327_3
                have hk380 : (upd x327 23 ((x327 23) + 0)) 4 = (nI un) := (pk_un (by decide)).trans hk_x327_4
                have hP : va_P D vwCl [(to, .inl (y 0, 228, .inl (upd x327 23 ((x327 23) + 0))))] H := hP
                have hD : va_D A [(to, .inl (y 0, 228, .inl (upd x327 23 ((x327 23) + 0))))] := hD
                refine lv_aload_n hx hb dX11_goNight_93 rfl (lv_at hl 1 rfl) ?_
                refine lv_bipush (v := 21) hx hb dX11_goNight_94 (by decide) ?_
                refine lv_iconst (v := 0) hx hb dX11_goNight_96 (by decide) ?_
                refine va_iast hx hb hK hP hD hS 0 0 rfl rfl (by unfold vp_in; decide) dX11_goNight_97 (fun H locs hP hD hS => ?_)
                rw [show ((21 : Int32)).toNatClampNeg = 21 from rfl] at hP hD
                have hr381 : kr_t 228 (upd (upd x327 23 ((x327 23) + 0)) 21 0) := kr_up hr375 (kr_ok0)
                have hk382 : (upd (upd x327 23 ((x327 23) + 0)) 21 0) 0 = (nI fi) := (pk_un (by decide)).trans hk376
                have hk383 : (upd (upd x327 23 ((x327 23) + 0)) 21 0) 1 = (nI gl) := (pk_un (by decide)).trans hk377
                have hk384 : (upd (upd x327 23 ((x327 23) + 0)) 21 0) 2 = (nI mi) := (pk_un (by decide)).trans hk378
                have hk385 : (upd (upd x327 23 ((x327 23) + 0)) 21 0) 3 = (nI no) := (pk_un (by decide)).trans hk379
                have hk386 : (upd (upd x327 23 ((x327 23) + 0)) 21 0) 4 = (nI un) := (pk_un (by decide)).trans hk380
                have hP : va_P D vwCl [(to, .inl (y 0, 228, .inl (upd (upd x327 23 ((x327 23) + 0)) 21 0)))] H := hP
                have hD : va_D A [(to, .inl (y 0, 228, .inl (upd (upd x327 23 ((x327 23) + 0)) 21 0)))] := hD
                exact W.vret hx hb hr (fun tZ ht hW => ⟨⟨((upd (upd x327 23 ((x327 23) + 0)) 21 0)), rfl, ⟨hr381, hk382, hk383, hk384, hk385, hk386⟩, by rw [ht]; exact hP.sub [0] rfl, hD.sub [0] (by decide) rfl⟩, hS.F ht⟩) hS.2.2 dX11_goNight_98
              · skip
                refine lv_iconst (v := 1) hx hb dX11_goNight_86 (by decide) ?_
                refine lv_goto (tgt := 91) hx hb dX11_goNight_87 (by decide) ?_
                refine lv_iadd hx hb dX11_goNight_91 ?_
                refine va_iast hx hb hK hP hD hS 0 0 rfl rfl (by unfold vp_in; decide) dX11_goNight_92 (fun H locs hP hD hS => ?_)
                rw [show ((23 : Int32)).toNatClampNeg = 23 from rfl] at hP hD
                have hr387 : kr_t 228 (upd x327 23 ((x327 23) + 1)) := kr_up hr_x327 (kr_free (by unfold kr_a; omega) (by unfold kr_s; omega))
                have hk388 : (upd x327 23 ((x327 23) + 1)) 0 = (nI fi) := (pk_un (by decide)).trans hk_x327_0
                have hk389 : (upd x327 23 ((x327 23) + 1)) 1 = (nI gl) := (pk_un (by decide)).trans hk_x327_1
                have hk390 : (upd x327 23 ((x327 23) + 1)) 2 = (nI mi) := (pk_un (by decide)).trans hk_x327_2
                have hk391 : (upd x327 23 ((x327 23) + 1)) 3 = (nI no) := (pk_un (by decide)).trans hk_x327_3
                have hk392 : (upd x327 23 ((x327 23) + 1)) 4 = (nI un) := (pk_un (by decide)).trans hk_x327_4
                have hP : va_P D vwCl [(to, .inl (y 0, 228, .inl (upd x327 23 ((x327 23) + 1))))] H := hP
                have hD : va_D A [(to, .inl (y 0, 228, .inl (upd x327 23 ((x327 23) + 1))))] := hD
                refine lv_aload_n hx hb dX11_goNight_93 rfl (lv_at hl 1 rfl) ?_
                refine lv_bipush (v := 21) hx hb dX11_goNight_94 (by decide) ?_
                refine lv_iconst (v := 0) hx hb dX11_goNight_96 (by decide) ?_
                refine va_iast hx hb hK hP hD hS 0 0 rfl rfl (by unfold vp_in; decide) dX11_goNight_97 (fun H locs hP hD hS => ?_)
                rw [show ((21 : Int32)).toNatClampNeg = 21 from rfl] at hP hD
                have hr393 : kr_t 228 (upd (upd x327 23 ((x327 23) + 1)) 21 0) := kr_up hr387 (kr_ok0)
                have hk394 : (upd (upd x327 23 ((x327 23) + 1)) 21 0) 0 = (nI fi) := (pk_un (by decide)).trans hk388
                have hk395 : (upd (upd x327 23 ((x327 23) + 1)) 21 0) 1 = (nI gl) := (pk_un (by decide)).trans hk389
                have hk396 : (upd (upd x327 23 ((x327 23) + 1)) 21 0) 2 = (nI mi) := (pk_un (by decide)).trans hk390
                have hk397 : (upd (upd x327 23 ((x327 23) + 1)) 21 0) 3 = (nI no) := (pk_un (by decide)).trans hk391
                have hk398 : (upd (upd x327 23 ((x327 23) + 1)) 21 0) 4 = (nI un) := (pk_un (by decide)).trans hk392
                have hP : va_P D vwCl [(to, .inl (y 0, 228, .inl (upd (upd x327 23 ((x327 23) + 1)) 21 0)))] H := hP
                have hD : va_D A [(to, .inl (y 0, 228, .inl (upd (upd x327 23 ((x327 23) + 1)) 21 0)))] := hD
                exact W.vret hx hb hr (fun tZ ht hW => ⟨⟨((upd (upd x327 23 ((x327 23) + 1)) 21 0)), rfl, ⟨hr393, hk394, hk395, hk396, hk397, hk398⟩, by rw [ht]; exact hP.sub [0] rfl, hD.sub [0] (by decide) rfl⟩, hS.F ht⟩) hS.2.2 dX11_goNight_98
            · skip
              have h372 : ¬ fi ≤ j92 := fun q9 => h372 ((nI_leI (a := fi) (b := j92) (by omega) (by omega)).mpr q9)
              refine lv_aload_n hx hb dX11_goNight_39 rfl (lv_at hl 1 rfl) ?_
              refine lv_iconst (v := 5) hx hb dX11_goNight_40 (by decide) ?_
              refine lv_iload_n hx hb dX11_goNight_41 rfl (lv_at hl 0 rfl) ?_
              refine lv_iadd hx hb dX11_goNight_42 ?_
              rw [show 5 + (nI j92) = nI (j92 + 5) from (nI_add 5 j92).trans (congrArg nI (by omega))]
              refine va_iald hx hb hK hP 0 0 rfl rfl (vp_in_nI (by omega) (by decide)) dX11_goNight_43 ?_
              rw [nI_clamp (n := (j92 + 5)) (by omega)]
              refine lv_bipush (v := 20) hx hb dX11_goNight_44 (by decide) ?_
              refine lv_iadd hx hb dX11_goNight_46 ?_
              refine lv_istore_n (lv' := [(2, .int ((x327 (j92 + 5)) + 20)), (1, .int (nI j92)), (0, .ref to)]) hx hb dX11_goNight_47 rfl hl (by decide) rfl (fun ls hl => ?_)
              refine lv_aload_n hx hb dX11_goNight_48 rfl (lv_at hl 2 rfl) ?_
              refine lv_iconst (v := 5) hx hb dX11_goNight_49 (by decide) ?_
              refine lv_iload_n hx hb dX11_goNight_50 rfl (lv_at hl 1 rfl) ?_
              refine lv_iadd hx hb dX11_goNight_51 ?_
              rw [show 5 + (nI j92) = nI (j92 + 5) from (nI_add 5 j92).trans (congrArg nI (by omega))]
              refine lv_iload_n hx hb dX11_goNight_52 rfl (lv_at hl 0 rfl) ?_
              refine lv_bipush (v := 60) hx hb dX11_goNight_53 (by decide) ?_
              refine lv_icmp_le (tgt := 63) hx hb dX11_goNight_55 (by decide) (fun h399 => ?_) (fun h400 => ?_)
              · skip
                refine lv_iload_n hx hb dX11_goNight_63 rfl (lv_at hl 0 rfl) ?_
                refine va_iast hx hb hK hP hD hS 0 0 rfl rfl (vp_in_nI (by omega) (by decide)) dX11_goNight_64 (fun H locs hP hD hS => ?_)
                rw [nI_clamp (n := (j92 + 5)) (by omega)] at hP hD
                have hr401 : kr_t 228 (upd x327 (j92 + 5) ((x327 (j92 + 5)) + 20)) := kr_up hr_x327 (kr_free (by unfold kr_a; omega) (by unfold kr_s; omega))
                have hk402 : (upd x327 (j92 + 5) ((x327 (j92 + 5)) + 20)) 0 = (nI fi) := (pk_un (by omega)).trans hk_x327_0
                have hk403 : (upd x327 (j92 + 5) ((x327 (j92 + 5)) + 20)) 1 = (nI gl) := (pk_un (by omega)).trans hk_x327_1
                have hk404 : (upd x327 (j92 + 5) ((x327 (j92 + 5)) + 20)) 2 = (nI mi) := (pk_un (by omega)).trans hk_x327_2
                have hk405 : (upd x327 (j92 + 5) ((x327 (j92 + 5)) + 20)) 3 = (nI no) := (pk_un (by omega)).trans hk_x327_3
                have hk406 : (upd x327 (j92 + 5) ((x327 (j92 + 5)) + 20)) 4 = (nI un) := (pk_un (by omega)).trans hk_x327_4
                have hP : va_P D vwCl [(to, .inl (y 0, 228, .inl (upd x327 (j92 + 5) ((x327 (j92 + 5)) + 20))))] H := hP
                have hD : va_D A [(to, .inl (y 0, 228, .inl (upd x327 (j92 + 5) ((x327 (j92 + 5)) + 20))))] := hD
                refine lv_iinc (v := (nI (j92 + 1))) (lv' := [(1, .int (nI (j92 + 1))), (2, .int ((x327 (j92 + 5)) + 20)), (0, .ref to)]) hx hb dX11_goNight_65 hl (k := 1) rfl (nI_1 j92) (by decide) rfl (fun ls hl => ?_)
                refine lv_goto (tgt := 32) hx hb dX11_goNight_68 (by decide) ?_
                exact ihj92 (j92 + 1) (upd x327 (j92 + 5) ((x327 (j92 + 5)) + 20)) H locs ls (by omega) (by omega) hr401 hk402 hk403 hk404 hk405 hk406 (hP.sub [0] rfl) (hD.sub [0] (by decide) rfl) hS (lv_sub hl [0, 2] rfl)
              · skip
                refine lv_bipush (v := 60) hx hb dX11_goNight_58 (by decide) ?_
                refine lv_goto (tgt := 64) hx hb dX11_goNight_60 (by decide) ?_
                refine va_iast hx hb hK hP hD hS 0 0 rfl rfl (vp_in_nI (by omega) (by decide)) dX11_goNight_64 (fun H locs hP hD hS => ?_)
                rw [nI_clamp (n := (j92 + 5)) (by omega)] at hP hD
                have hr407 : kr_t 228 (upd x327 (j92 + 5) 60) := kr_up hr_x327 (kr_free (by unfold kr_a; omega) (by unfold kr_s; omega))
                have hk408 : (upd x327 (j92 + 5) 60) 0 = (nI fi) := (pk_un (by omega)).trans hk_x327_0
                have hk409 : (upd x327 (j92 + 5) 60) 1 = (nI gl) := (pk_un (by omega)).trans hk_x327_1
                have hk410 : (upd x327 (j92 + 5) 60) 2 = (nI mi) := (pk_un (by omega)).trans hk_x327_2
                have hk411 : (upd x327 (j92 + 5) 60) 3 = (nI no) := (pk_un (by omega)).trans hk_x327_3
                have hk412 : (upd x327 (j92 + 5) 60) 4 = (nI un) := (pk_un (by omega)).trans hk_x327_4
                have hP : va_P D vwCl [(to, .inl (y 0, 228, .inl (upd x327 (j92 + 5) 60)))] H := hP
                have hD : va_D A [(to, .inl (y 0, 228, .inl (upd x327 (j92 + 5) 60)))] := hD
                refine lv_iinc (v := (nI (j92 + 1))) (lv' := [(1, .int (nI (j92 + 1))), (2, .int ((x327 (j92 + 5)) + 20)), (0, .ref to)]) hx hb dX11_goNight_65 hl (k := 1) rfl (nI_1 j92) (by decide) rfl (fun ls hl => ?_)
                refine lv_goto (tgt := 32) hx hb dX11_goNight_68 (by decide) ?_
                exact ihj92 (j92 + 1) (upd x327 (j92 + 5) 60) H locs ls (by omega) (by omega) hr407 hk408 hk409 hk410 hk411 hk412 (hP.sub [0] rfl) (hD.sub [0] (by decide) rfl) hS (lv_sub hl [0, 2] rfl)
        exact lp370 (fi + 1) 0 x141 _ _ _ (by omega) (by omega) hr_x141 hk_x141_0 hk_x141_1 hk_x141_2 hk_x141_3 hk_x141_4 hP hD hS (lv_sub hl [0, 1] rfl)
      · skip
        have h284 : ¬ gl ≤ j91 := fun q9 => h284 ((nI_leI (a := gl) (b := j91) (by omega) (by omega)).mpr q9)
        refine lv_aload_n hx hb dX11_goNight_9 rfl (lv_at hl 1 rfl) ?_
        refine lv_bipush (v := 16) hx hb dX11_goNight_10 (by decide) ?_
        refine lv_iload_n hx hb dX11_goNight_12 rfl (lv_at hl 0 rfl) ?_
        refine lv_iadd hx hb dX11_goNight_13 ?_
        rw [show 16 + (nI j91) = nI (j91 + 16) from (nI_add 16 j91).trans (congrArg nI (by omega))]
        refine lv_aload_n hx hb dX11_goNight_14 rfl (lv_at hl 1 rfl) ?_
        refine lv_bipush (v := 16) hx hb dX11_goNight_15 (by decide) ?_
        refine lv_iload_n hx hb dX11_goNight_17 rfl (lv_at hl 0 rfl) ?_
        refine lv_iadd hx hb dX11_goNight_18 ?_
        rw [show 16 + (nI j91) = nI (j91 + 16) from (nI_add 16 j91).trans (congrArg nI (by omega))]
        refine va_iald hx hb hK hP 0 0 rfl rfl (vp_in_nI (by omega) (by decide)) dX11_goNight_19 ?_
        rw [nI_clamp (n := (j91 + 16)) (by omega)]
        have hs413 : kw_Split [(to, .inl (y 0, 228, .inl x141))] [] [(to, .inl (y 0, 228, .inl x141))] [] [0] := ⟨rfl, rfl, rfl, rfl, rfl, by decide⟩
        refine kw_go_i hs413 hP hD hS hA (va_runS (As := [.int (x141 (j91 + 16))]) (rest := [.int (nI (j91 + 16)), .ref to]) ⟨hx, hb, hml, hown, hts⟩ (gr_fadedBy l D y (x141 (j91 + 16)) ((hr_x141 (j91 + 16) (by omega)).2 (by unfold kr_s; omega)) _) (va_cwS 1 hts gX11_goNight_X11_fadedBy rfl rfl rfl (by decide +kernel) ⟨Nat.le_of_ble_eq_true rfl, Nat.le_of_ble_eq_true rfl⟩) (kw_PreS hs413 hP hD hK hN) rfl rfl hl.1 rfl (lv_room (Nat.le_of_ble_eq_true rfl)) dX11_goNight_20 ⟨Nat.le_of_ble_eq_true rfl, Nat.le_of_ble_eq_true rfl⟩) (fun r414 u415 H locs hq hP hD hS => ?_)
        obtain ⟨h416, rfl⟩ := hq
        have hP : va_P D vwCl [(to, .inl (y 0, 228, .inl x141))] H := hP
        have hD : va_D A [(to, .inl (y 0, 228, .inl x141))] := hD
        refine va_iast hx hb hK hP hD hS 0 0 rfl rfl (vp_in_nI (by omega) (by decide)) dX11_goNight_23 (fun H locs hP hD hS => ?_)
        rw [nI_clamp (n := (j91 + 16)) (by omega)] at hP hD
        have hr417 : kr_t 228 (upd x141 (j91 + 16) ((x141 (j91 + 16)) - (((x141 (j91 + 16)) + 3) / 4))) := kr_up hr_x141 (kr_oks (by unfold kr_a; omega) (h416))
        have hk418 : (upd x141 (j91 + 16) ((x141 (j91 + 16)) - (((x141 (j91 + 16)) + 3) / 4))) 0 = (nI fi) := (pk_un (by omega)).trans hk_x141_0
        have hk419 : (upd x141 (j91 + 16) ((x141 (j91 + 16)) - (((x141 (j91 + 16)) + 3) / 4))) 1 = (nI gl) := (pk_un (by omega)).trans hk_x141_1
        have hk420 : (upd x141 (j91 + 16) ((x141 (j91 + 16)) - (((x141 (j91 + 16)) + 3) / 4))) 2 = (nI mi) := (pk_un (by omega)).trans hk_x141_2
        have hk421 : (upd x141 (j91 + 16) ((x141 (j91 + 16)) - (((x141 (j91 + 16)) + 3) / 4))) 3 = (nI no) := (pk_un (by omega)).trans hk_x141_3
        have hk422 : (upd x141 (j91 + 16) ((x141 (j91 + 16)) - (((x141 (j91 + 16)) + 3) / 4))) 4 = (nI un) := (pk_un (by omega)).trans hk_x141_4
        have hP : va_P D vwCl [(to, .inl (y 0, 228, .inl (upd x141 (j91 + 16) ((x141 (j91 + 16)) - (((x141 (j91 + 16)) + 3) / 4)))))] H := hP
        have hD : va_D A [(to, .inl (y 0, 228, .inl (upd x141 (j91 + 16) ((x141 (j91 + 16)) - (((x141 (j91 + 16)) + 3) / 4)))))] := hD
        refine lv_iinc (v := (nI (j91 + 1))) (lv' := [(1, .int (nI (j91 + 1))), (0, .ref to)]) hx hb dX11_goNight_24 hl (k := 0) rfl (nI_1 j91) (by decide) rfl (fun ls hl => ?_)
        refine lv_goto (tgt := 2) hx hb dX11_goNight_27 (by decide) ?_
        exact ihj91 (j91 + 1) (upd x141 (j91 + 16) ((x141 (j91 + 16)) - (((x141 (j91 + 16)) + 3) / 4))) H locs ls (by omega) (by omega) hr417 hk418 hk419 hk420 hk421 hk422 (hP.sub [0] rfl) (hD.sub [0] (by decide) rfl) hS (lv_sub hl [0, 1] rfl)
  exact lp282 (gl + 1) 0 ft _ _ _ (by omega) (by omega) hkt hk0_ hk1_ hk2_ hk3_ hk4_ hP hD hS (lv_sub hl [0, 1] rfl)

set_option maxHeartbeats 4000000 in
set_option maxRecDepth 100000 in
theorem gr_goNight30 (l : Launch) (D : va_G) (y : Nat → ClassId) (to : Nat) (ft : Nat → Int32) (fi : Nat) (gl : Nat) (hk0_ : ft 0 = (nI fi)) (hk1_ : ft 1 = (nI gl)) (hkt : kr_t 30 ft) (hfi : fi ≤ 6) (hgl : gl ≤ 5) : kw_Mv l yX11_goNight wsX11_goNight ({ frames := 2, cells := 0, slots := 0, locals := 80 }) D y [.ref to] [(to, .inl (y 0, 30, .inl ft))] (fun (u : (Nat → Int32)) => kr_t 30 u ∧ u 0 = (nI fi) ∧ u 1 = (nI gl)) (fun u => [(to, .inl (y 0, 30, .inl u))]) 0 0 := by
  refine kw_Mv.of (cc := cX11_goNight) (maxL := 3) (ret := none) (by decide) rfl ?_
  intro pZ eZ s mZ beZ meZ cZ A hE
  obtain ⟨hx, hb, hr, hml, hts, hown, hlocks, hin, hA, hP, hD, hK, hN⟩ := hE
  have hS : va_S A s.heap s.heap [] := va_S.rf
  have hl := lv_entry ([.ref to]) (n := 3) (Nat.le_of_ble_eq_true rfl)
  rw [lg_entry_eq]
  generalize (lg_sl ([.ref to]) ++ List.replicate (3 - (lg_sl ([.ref to])).length) Slot.unset).toArray = ls at hl ⊢
  have hl : lv_has ls 3 [(0, .ref to)] := hl
  refine lv_iconst (v := 0) hx hb dX11_goNight_0 (by decide) ?_
  refine lv_istore_n (lv' := [(1, .int 0), (0, .ref to)]) hx hb dX11_goNight_1 rfl hl (by decide) rfl (fun ls hl => ?_)
  have lp168 : ∀ (fuj91 j91 : Nat) (x84 : Nat → Int32) (H : Heap) (locs : List Loc) (ls : Array Slot), j91 ≤ gl → gl - j91 < fuj91 → kr_t 30 x84 → x84 0 = (nI fi) → x84 1 = (nI gl) → va_P D vwCl [(to, .inl (y 0, 30, .inl x84))] H → va_D A [(to, .inl (y 0, 30, .inl x84))] → va_S A s.heap H locs → lv_has ls 3 [(1, .int (nI j91)), (0, .ref to)] → W pZ l eZ ({ frames := 2, cells := 0, slots := 0, locals := 80 }) s mZ [.ref to].toArray beZ meZ cZ H locs 0 0 (MQ beZ (va_Qv (fun (u : (Nat → Int32)) => kr_t 30 u ∧ u 0 = (nI fi) ∧ u 1 = (nI gl)) (kw_B D (fun u => [(to, .inl (y 0, 30, .inl u))]) A) A) [.ref to].toArray s 0 0 A) (F0 mZ 2 ls []) := by
    intro fuj91
    induction fuj91 with
    | zero => intro j91 x84 H locs ls hj9 hf9; exact absurd hf9 (Nat.not_lt_zero _)
    | succ fuj91 ihj91 =>
      intro j91 x84 H locs ls hj91 hfj91 hr_x84 hk_x84_0 hk_x84_1 hP hD hS hl
      refine lv_iload_n hx hb dX11_goNight_2 rfl (lv_at hl 0 rfl) ?_
      refine lv_aload_n hx hb dX11_goNight_3 rfl (lv_at hl 1 rfl) ?_
      refine lv_iconst (v := 1) hx hb dX11_goNight_4 (by decide) ?_
      refine va_iald hx hb hK hP 0 0 rfl rfl (by unfold vp_in; decide) dX11_goNight_5 ?_
      rw [show ((1 : Int32)).toNatClampNeg = 1 from rfl]
      rw [show (x84 1) = (nI gl) from hk_x84_1]
      refine lv_icmp_ge (tgt := 30) hx hb dX11_goNight_6 (by decide) (fun h169 => ?_) (fun h170 => ?_)
      · skip
        have h169 : gl ≤ j91 := (nI_leI (a := gl) (b := j91) (by omega) (by omega)).mp h169
        refine lv_iconst (v := 0) hx hb dX11_goNight_30 (by decide) ?_
        refine lv_istore_n (lv' := [(1, .int 0), (0, .ref to)]) hx hb dX11_goNight_31 rfl hl (by decide) rfl (fun ls hl => ?_)
        have lp220 : ∀ (fuj92 j92 : Nat) (x195 : Nat → Int32) (H : Heap) (locs : List Loc) (ls : Array Slot), j92 ≤ fi → fi - j92 < fuj92 → kr_t 30 x195 → x195 0 = (nI fi) → x195 1 = (nI gl) → va_P D vwCl [(to, .inl (y 0, 30, .inl x195))] H → va_D A [(to, .inl (y 0, 30, .inl x195))] → va_S A s.heap H locs → lv_has ls 3 [(1, .int (nI j92)), (0, .ref to)] → W pZ l eZ ({ frames := 2, cells := 0, slots := 0, locals := 80 }) s mZ [.ref to].toArray beZ meZ cZ H locs 0 0 (MQ beZ (va_Qv (fun (u : (Nat → Int32)) => kr_t 30 u ∧ u 0 = (nI fi) ∧ u 1 = (nI gl)) (kw_B D (fun u => [(to, .inl (y 0, 30, .inl u))]) A) A) [.ref to].toArray s 0 0 A) (F0 mZ 32 ls []) := by
          intro fuj92
          induction fuj92 with
          | zero => intro j92 x195 H locs ls hj9 hf9; exact absurd hf9 (Nat.not_lt_zero _)
          | succ fuj92 ihj92 =>
            intro j92 x195 H locs ls hj92 hfj92 hr_x195 hk_x195_0 hk_x195_1 hP hD hS hl
            refine lv_iload_n hx hb dX11_goNight_32 rfl (lv_at hl 0 rfl) ?_
            refine lv_aload_n hx hb dX11_goNight_33 rfl (lv_at hl 1 rfl) ?_
            refine lv_iconst (v := 0) hx hb dX11_goNight_34 (by decide) ?_
            refine va_iald hx hb hK hP 0 0 rfl rfl (by unfold vp_in; decide) dX11_goNight_35 ?_
            rw [show ((0 : Int32)).toNatClampNeg = 0 from rfl]
            rw [show (x195 0) = (nI fi) from hk_x195_0]
            refine lv_icmp_ge (tgt := 71) hx hb dX11_goNight_36 (by decide) (fun h221 => ?_) (fun h222 => ?_)
            · skip
              have h221 : fi ≤ j92 := (nI_leI (a := fi) (b := j92) (by omega) (by omega)).mp h221
              refine lv_aload_n hx hb dX11_goNight_71 rfl (lv_at hl 1 rfl) ?_
              refine lv_bipush (v := 23) hx hb dX11_goNight_72 (by decide) ?_
              refine lv_dup2_11 hx hb dX11_goNight_74 rfl rfl ?_
              refine va_iald hx hb hK hP 0 0 rfl rfl (by unfold vp_in; decide) dX11_goNight_75 ?_
              rw [show ((23 : Int32)).toNatClampNeg = 23 from rfl]
              refine lv_aload_n hx hb dX11_goNight_76 rfl (lv_at hl 1 rfl) ?_
              refine lv_bipush (v := 23) hx hb dX11_goNight_77 (by decide) ?_
              refine va_iald hx hb hK hP 0 0 rfl rfl (by unfold vp_in; decide) dX11_goNight_79 ?_
              rw [show ((23 : Int32)).toNatClampNeg = 23 from rfl]
              refine lv_sipush (v := 999) hx hb dX11_goNight_80 (by decide) ?_
              refine lv_icmp_ge (tgt := 90) hx hb dX11_goNight_83 (by decide) (fun h223 => ?_) (fun h224 => ?_)
              · skip
                refine lv_iconst (v := 0) hx hb dX11_goNight_90 (by decide) ?_
                refine lv_iadd hx hb dX11_goNight_91 ?_
                refine va_iast hx hb hK hP hD hS 0 0 rfl rfl (by unfold vp_in; decide) dX11_goNight_92 (fun H locs hP hD hS => ?_)
                rw [show ((23 : Int32)).toNatClampNeg = 23 from rfl] at hP hD
                have hr225 : kr_t 30 (upd x195 23 ((x195 23) + 0)) := kr_up hr_x195 (kr_free (by unfold kr_a; omega) (by unfold kr_s; omega))
                have hk226 : (upd x195 23 ((x195 23) + 0)) 0 = (nI fi) := (pk_un (by decide)).trans hk_x195_0
                have hk227 : (upd x195 23 ((x195 23) + 0)) 1 = (nI gl) := (pk_un (by decide)).trans hk_x195_1
                have hP : va_P D vwCl [(to, .inl (y 0, 30, .inl (upd x195 23 ((x195 23) + 0))))] H := hP
                have hD : va_D A [(to, .inl (y 0, 30, .inl (upd x195 23 ((x195 23) + 0))))] := hD
                refine lv_aload_n hx hb dX11_goNight_93 rfl (lv_at hl 1 rfl) ?_
                refine lv_bipush (v := 21) hx hb dX11_goNight_94 (by decide) ?_
                refine lv_iconst (v := 0) hx hb dX11_goNight_96 (by decide) ?_
                refine va_iast hx hb hK hP hD hS 0 0 rfl rfl (by unfold vp_in; decide) dX11_goNight_97 (fun H locs hP hD hS => ?_)
                rw [show ((21 : Int32)).toNatClampNeg = 21 from rfl] at hP hD
                have hr228 : kr_t 30 (upd (upd x195 23 ((x195 23) + 0)) 21 0) := kr_up hr225 (kr_ok0)
                have hk229 : (upd (upd x195 23 ((x195 23) + 0)) 21 0) 0 = (nI fi) := (pk_un (by decide)).trans hk226
                have hk230 : (upd (upd x195 23 ((x195 23) + 0)) 21 0) 1 = (nI gl) := (pk_un (by decide)).trans hk227
                have hP : va_P D vwCl [(to, .inl (y 0, 30, .inl (upd (upd x195 23 ((x195 23) + 0)) 21 0)))] H := hP
                have hD : va_D A [(to, .inl (y 0, 30, .inl (upd (upd x195 23 ((x195 23) + 0)) 21 0)))] := hD
                exact W.vret hx hb hr (fun tZ ht hW => ⟨⟨((upd (upd x195 23 ((x195 23) + 0)) 21 0)), rfl, ⟨hr228, hk229, hk230⟩, by rw [ht]; exact hP.sub [0] rfl, hD.sub [0] (by decide) rfl⟩, hS.F ht⟩) hS.2.2 dX11_goNight_98
              · skip
                refine lv_iconst (v := 1) hx hb dX11_goNight_86 (by decide) ?_
                refine lv_goto (tgt := 91) hx hb dX11_goNight_87 (by decide) ?_
                refine lv_iadd hx hb dX11_goNight_91 ?_
                refine va_iast hx hb hK hP hD hS 0 0 rfl rfl (by unfold vp_in; decide) dX11_goNight_92 (fun H locs hP hD hS => ?_)
                rw [show ((23 : Int32)).toNatClampNeg = 23 from rfl] at hP hD
                have hr231 : kr_t 30 (upd x195 23 ((x195 23) + 1)) := kr_up hr_x195 (kr_free (by unfold kr_a; omega) (by unfold kr_s; omega))
                have hk232 : (upd x195 23 ((x195 23) + 1)) 0 = (nI fi) := (pk_un (by decide)).trans hk_x195_0
                have hk233 : (upd x195 23 ((x195 23) + 1)) 1 = (nI gl) := (pk_un (by decide)).trans hk_x195_1
                have hP : va_P D vwCl [(to, .inl (y 0, 30, .inl (upd x195 23 ((x195 23) + 1))))] H := hP
                have hD : va_D A [(to, .inl (y 0, 30, .inl (upd x195 23 ((x195 23) + 1))))] := hD
                refine lv_aload_n hx hb dX11_goNight_93 rfl (lv_at hl 1 rfl) ?_
                refine lv_bipush (v := 21) hx hb dX11_goNight_94 (by decide) ?_
                refine lv_iconst (v := 0) hx hb dX11_goNight_96 (by decide) ?_
                refine va_iast hx hb hK hP hD hS 0 0 rfl rfl (by unfold vp_in; decide) dX11_goNight_97 (fun H locs hP hD hS => ?_)
                rw [show ((21 : Int32)).toNatClampNeg = 21 from rfl] at hP hD
                have hr234 : kr_t 30 (upd (upd x195 23 ((x195 23) + 1)) 21 0) := kr_up hr231 (kr_ok0)
                have hk235 : (upd (upd x195 23 ((x195 23) + 1)) 21 0) 0 = (nI fi) := (pk_un (by decide)).trans hk232
                have hk236 : (upd (upd x195 23 ((x195 23) + 1)) 21 0) 1 = (nI gl) := (pk_un (by decide)).trans hk233
                have hP : va_P D vwCl [(to, .inl (y 0, 30, .inl (upd (upd x195 23 ((x195 23) + 1)) 21 0)))] H := hP
                have hD : va_D A [(to, .inl (y 0, 30, .inl (upd (upd x195 23 ((x195 23) + 1)) 21 0)))] := hD
                exact W.vret hx hb hr (fun tZ ht hW => ⟨⟨((upd (upd x195 23 ((x195 23) + 1)) 21 0)), rfl, ⟨hr234, hk235, hk236⟩, by rw [ht]; exact hP.sub [0] rfl, hD.sub [0] (by decide) rfl⟩, hS.F ht⟩) hS.2.2 dX11_goNight_98
            · skip
              have h222 : ¬ fi ≤ j92 := fun q9 => h222 ((nI_leI (a := fi) (b := j92) (by omega) (by omega)).mpr q9)
              refine lv_aload_n hx hb dX11_goNight_39 rfl (lv_at hl 1 rfl) ?_
              refine lv_iconst (v := 5) hx hb dX11_goNight_40 (by decide) ?_
              refine lv_iload_n hx hb dX11_goNight_41 rfl (lv_at hl 0 rfl) ?_
              refine lv_iadd hx hb dX11_goNight_42 ?_
              rw [show 5 + (nI j92) = nI (j92 + 5) from (nI_add 5 j92).trans (congrArg nI (by omega))]
              refine va_iald hx hb hK hP 0 0 rfl rfl (vp_in_nI (by omega) (by decide)) dX11_goNight_43 ?_
              rw [nI_clamp (n := (j92 + 5)) (by omega)]
              refine lv_bipush (v := 20) hx hb dX11_goNight_44 (by decide) ?_
              refine lv_iadd hx hb dX11_goNight_46 ?_
              refine lv_istore_n (lv' := [(2, .int ((x195 (j92 + 5)) + 20)), (1, .int (nI j92)), (0, .ref to)]) hx hb dX11_goNight_47 rfl hl (by decide) rfl (fun ls hl => ?_)
              refine lv_aload_n hx hb dX11_goNight_48 rfl (lv_at hl 2 rfl) ?_
              refine lv_iconst (v := 5) hx hb dX11_goNight_49 (by decide) ?_
              refine lv_iload_n hx hb dX11_goNight_50 rfl (lv_at hl 1 rfl) ?_
              refine lv_iadd hx hb dX11_goNight_51 ?_
              rw [show 5 + (nI j92) = nI (j92 + 5) from (nI_add 5 j92).trans (congrArg nI (by omega))]
              refine lv_iload_n hx hb dX11_goNight_52 rfl (lv_at hl 0 rfl) ?_
              refine lv_bipush (v := 60) hx hb dX11_goNight_53 (by decide) ?_
              refine lv_icmp_le (tgt := 63) hx hb dX11_goNight_55 (by decide) (fun h237 => ?_) (fun h238 => ?_)
              · skip
                refine lv_iload_n hx hb dX11_goNight_63 rfl (lv_at hl 0 rfl) ?_
                refine va_iast hx hb hK hP hD hS 0 0 rfl rfl (vp_in_nI (by omega) (by decide)) dX11_goNight_64 (fun H locs hP hD hS => ?_)
                rw [nI_clamp (n := (j92 + 5)) (by omega)] at hP hD
                have hr239 : kr_t 30 (upd x195 (j92 + 5) ((x195 (j92 + 5)) + 20)) := kr_up hr_x195 (kr_free (by unfold kr_a; omega) (by unfold kr_s; omega))
                have hk240 : (upd x195 (j92 + 5) ((x195 (j92 + 5)) + 20)) 0 = (nI fi) := (pk_un (by omega)).trans hk_x195_0
                have hk241 : (upd x195 (j92 + 5) ((x195 (j92 + 5)) + 20)) 1 = (nI gl) := (pk_un (by omega)).trans hk_x195_1
                have hP : va_P D vwCl [(to, .inl (y 0, 30, .inl (upd x195 (j92 + 5) ((x195 (j92 + 5)) + 20))))] H := hP
                have hD : va_D A [(to, .inl (y 0, 30, .inl (upd x195 (j92 + 5) ((x195 (j92 + 5)) + 20))))] := hD
                refine lv_iinc (v := (nI (j92 + 1))) (lv' := [(1, .int (nI (j92 + 1))), (2, .int ((x195 (j92 + 5)) + 20)), (0, .ref to)]) hx hb dX11_goNight_65 hl (k := 1) rfl (nI_1 j92) (by decide) rfl (fun ls hl => ?_)
                refine lv_goto (tgt := 32) hx hb dX11_goNight_68 (by decide) ?_
                exact ihj92 (j92 + 1) (upd x195 (j92 + 5) ((x195 (j92 + 5)) + 20)) H locs ls (by omega) (by omega) hr239 hk240 hk241 (hP.sub [0] rfl) (hD.sub [0] (by decide) rfl) hS (lv_sub hl [0, 2] rfl)
              · skip
                refine lv_bipush (v := 60) hx hb dX11_goNight_58 (by decide) ?_
                refine lv_goto (tgt := 64) hx hb dX11_goNight_60 (by decide) ?_
                refine va_iast hx hb hK hP hD hS 0 0 rfl rfl (vp_in_nI (by omega) (by decide)) dX11_goNight_64 (fun H locs hP hD hS => ?_)
                rw [nI_clamp (n := (j92 + 5)) (by omega)] at hP hD
                have hr242 : kr_t 30 (upd x195 (j92 + 5) 60) := kr_up hr_x195 (kr_free (by unfold kr_a; omega) (by unfold kr_s; omega))
                have hk243 : (upd x195 (j92 + 5) 60) 0 = (nI fi) := (pk_un (by omega)).trans hk_x195_0
                have hk244 : (upd x195 (j92 + 5) 60) 1 = (nI gl) := (pk_un (by omega)).trans hk_x195_1
                have hP : va_P D vwCl [(to, .inl (y 0, 30, .inl (upd x195 (j92 + 5) 60)))] H := hP
                have hD : va_D A [(to, .inl (y 0, 30, .inl (upd x195 (j92 + 5) 60)))] := hD
                refine lv_iinc (v := (nI (j92 + 1))) (lv' := [(1, .int (nI (j92 + 1))), (2, .int ((x195 (j92 + 5)) + 20)), (0, .ref to)]) hx hb dX11_goNight_65 hl (k := 1) rfl (nI_1 j92) (by decide) rfl (fun ls hl => ?_)
                refine lv_goto (tgt := 32) hx hb dX11_goNight_68 (by decide) ?_
                exact ihj92 (j92 + 1) (upd x195 (j92 + 5) 60) H locs ls (by omega) (by omega) hr242 hk243 hk244 (hP.sub [0] rfl) (hD.sub [0] (by decide) rfl) hS (lv_sub hl [0, 2] rfl)
        exact lp220 (fi + 1) 0 x84 _ _ _ (by omega) (by omega) hr_x84 hk_x84_0 hk_x84_1 hP hD hS (lv_sub hl [0, 1] rfl)
      · skip
        have h170 : ¬ gl ≤ j91 := fun q9 => h170 ((nI_leI (a := gl) (b := j91) (by omega) (by omega)).mpr q9)
        refine lv_aload_n hx hb dX11_goNight_9 rfl (lv_at hl 1 rfl) ?_
        refine lv_bipush (v := 16) hx hb dX11_goNight_10 (by decide) ?_
        refine lv_iload_n hx hb dX11_goNight_12 rfl (lv_at hl 0 rfl) ?_
        refine lv_iadd hx hb dX11_goNight_13 ?_
        rw [show 16 + (nI j91) = nI (j91 + 16) from (nI_add 16 j91).trans (congrArg nI (by omega))]
        refine lv_aload_n hx hb dX11_goNight_14 rfl (lv_at hl 1 rfl) ?_
        refine lv_bipush (v := 16) hx hb dX11_goNight_15 (by decide) ?_
        refine lv_iload_n hx hb dX11_goNight_17 rfl (lv_at hl 0 rfl) ?_
        refine lv_iadd hx hb dX11_goNight_18 ?_
        rw [show 16 + (nI j91) = nI (j91 + 16) from (nI_add 16 j91).trans (congrArg nI (by omega))]
        refine va_iald hx hb hK hP 0 0 rfl rfl (vp_in_nI (by omega) (by decide)) dX11_goNight_19 ?_
        rw [nI_clamp (n := (j91 + 16)) (by omega)]
        have hs245 : kw_Split [(to, .inl (y 0, 30, .inl x84))] [] [(to, .inl (y 0, 30, .inl x84))] [] [0] := ⟨rfl, rfl, rfl, rfl, rfl, by decide⟩
        refine kw_go_i hs245 hP hD hS hA (va_runS (As := [.int (x84 (j91 + 16))]) (rest := [.int (nI (j91 + 16)), .ref to]) ⟨hx, hb, hml, hown, hts⟩ (gr_fadedBy l D y (x84 (j91 + 16)) ((hr_x84 (j91 + 16) (by omega)).2 (by unfold kr_s; omega)) _) (va_cwS 1 hts gX11_goNight_X11_fadedBy rfl rfl rfl (by decide +kernel) ⟨Nat.le_of_ble_eq_true rfl, Nat.le_of_ble_eq_true rfl⟩) (kw_PreS hs245 hP hD hK hN) rfl rfl hl.1 rfl (lv_room (Nat.le_of_ble_eq_true rfl)) dX11_goNight_20 ⟨Nat.le_of_ble_eq_true rfl, Nat.le_of_ble_eq_true rfl⟩) (fun r246 u247 H locs hq hP hD hS => ?_)
        obtain ⟨h248, rfl⟩ := hq
        have hP : va_P D vwCl [(to, .inl (y 0, 30, .inl x84))] H := hP
        have hD : va_D A [(to, .inl (y 0, 30, .inl x84))] := hD
        refine va_iast hx hb hK hP hD hS 0 0 rfl rfl (vp_in_nI (by omega) (by decide)) dX11_goNight_23 (fun H locs hP hD hS => ?_)
        rw [nI_clamp (n := (j91 + 16)) (by omega)] at hP hD
        have hr249 : kr_t 30 (upd x84 (j91 + 16) ((x84 (j91 + 16)) - (((x84 (j91 + 16)) + 3) / 4))) := kr_up hr_x84 (kr_oks (by unfold kr_a; omega) (h248))
        have hk250 : (upd x84 (j91 + 16) ((x84 (j91 + 16)) - (((x84 (j91 + 16)) + 3) / 4))) 0 = (nI fi) := (pk_un (by omega)).trans hk_x84_0
        have hk251 : (upd x84 (j91 + 16) ((x84 (j91 + 16)) - (((x84 (j91 + 16)) + 3) / 4))) 1 = (nI gl) := (pk_un (by omega)).trans hk_x84_1
        have hP : va_P D vwCl [(to, .inl (y 0, 30, .inl (upd x84 (j91 + 16) ((x84 (j91 + 16)) - (((x84 (j91 + 16)) + 3) / 4)))))] H := hP
        have hD : va_D A [(to, .inl (y 0, 30, .inl (upd x84 (j91 + 16) ((x84 (j91 + 16)) - (((x84 (j91 + 16)) + 3) / 4)))))] := hD
        refine lv_iinc (v := (nI (j91 + 1))) (lv' := [(1, .int (nI (j91 + 1))), (0, .ref to)]) hx hb dX11_goNight_24 hl (k := 0) rfl (nI_1 j91) (by decide) rfl (fun ls hl => ?_)
        refine lv_goto (tgt := 2) hx hb dX11_goNight_27 (by decide) ?_
        exact ihj91 (j91 + 1) (upd x84 (j91 + 16) ((x84 (j91 + 16)) - (((x84 (j91 + 16)) + 3) / 4))) H locs ls (by omega) (by omega) hr249 hk250 hk251 (hP.sub [0] rfl) (hD.sub [0] (by decide) rfl) hS (lv_sub hl [0, 1] rfl)
  exact lp168 (gl + 1) 0 ft _ _ _ (by omega) (by omega) hkt hk0_ hk1_ hP hD hS (lv_sub hl [0, 1] rfl)
