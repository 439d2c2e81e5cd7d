set_option maxHeartbeats 4000000 in
set_option maxRecDepth 100000 in
theorem gr_pow (l : Launch) (D : va_G) (y : Nat → ClassId) (k : Nat) (hA1 : k < 7) : kw_Mi l yX11_powerOfThree wsX11_powerOfThree ({ frames := 1, cells := 0, slots := 0, locals := 60 }) D y [.int (nI k)] [] (fun (r : Int32) (u : Unit) => kr_pos r) (fun _ => []) 0 0 := by
  refine kw_Mi.of (cc := cX11_powerOfThree) (maxL := 3) (ret := (some .int)) (by decide) rfl ?_
  intro pZ eZ s mZ beZ meZ cZ A hE
  obtain ⟨hx, hb, hr, hml, hts, hown, hlocks, hin, hA, hP, hD, hK, hN⟩ := hE
  have hS : va_S A s.heap s.heap [] := va_S.rf
  have hl := lv_entry ([.int (nI k)]) (n := 3) (Nat.le_of_ble_eq_true rfl)
  rw [lg_entry_eq]
  generalize (lg_sl ([.int (nI k)]) ++ List.replicate (3 - (lg_sl ([.int (nI k)])).length) Slot.unset).toArray = ls at hl ⊢
  have hl : lv_has ls 3 [(0, .int (nI k))] := hl
  rcases (show k = 0 ∨ k = 1 ∨ k = 2 ∨ k = 3 ∨ k = 4 ∨ k = 5 ∨ k = 6 by omega) with rfl | rfl | rfl | rfl | rfl | rfl | rfl
  · skip
    refine lv_iconst (v := 1) hx hb dX11_powerOfThree_0 (by decide) ?_
    refine lv_istore_n (lv' := [(1, .int 1), (0, .int (nI 0))]) hx hb dX11_powerOfThree_1 rfl hl (by decide) rfl (fun ls hl => ?_)
    refine lv_iconst (v := 0) hx hb dX11_powerOfThree_2 (by decide) ?_
    refine lv_istore_n (lv' := [(2, .int 0), (1, .int 1), (0, .int (nI 0))]) hx hb dX11_powerOfThree_3 rfl hl (by decide) rfl (fun ls hl => ?_)
    refine lv_iload_n hx hb dX11_powerOfThree_4 rfl (lv_at hl 0 rfl) ?_
    refine lv_iload_n hx hb dX11_powerOfThree_5 rfl (lv_at hl 2 rfl) ?_
    refine lv_icmp_ge (tgt := 19) hx hb dX11_powerOfThree_6 (by decide) (fun h1 => ?_) (fun h2 => ?_)
    · skip
      have h1 : 0 ≤ 0 := (nI_leI (a := 0) (b := 0) (by omega) (by omega)).mp h1
      refine lv_iload_n hx hb dX11_powerOfThree_19 rfl (lv_at hl 1 rfl) ?_
      exact W.iret (v := 1) hx hb hr (fun tZ ht hW => ⟨⟨1, (), rfl, (show ¬ (1 : Int32) = 0 from by decide), by rw [ht]; exact hP.sub [] rfl, hD.sub [] (by decide) rfl⟩, hS.F ht⟩) hS.2.2 dX11_powerOfThree_20
    · skip
      have h2 : ¬ 0 ≤ 0 := fun q9 => h2 ((nI_leI (a := 0) (b := 0) (by omega) (by omega)).mpr q9)
      exact absurd h2 (by omega)
  · skip
    refine lv_iconst (v := 1) hx hb dX11_powerOfThree_0 (by decide) ?_
    refine lv_istore_n (lv' := [(1, .int 1), (0, .int (nI 1))]) hx hb dX11_powerOfThree_1 rfl hl (by decide) rfl (fun ls hl => ?_)
    refine lv_iconst (v := 0) hx hb dX11_powerOfThree_2 (by decide) ?_
    refine lv_istore_n (lv' := [(2, .int 0), (1, .int 1), (0, .int (nI 1))]) hx hb dX11_powerOfThree_3 rfl hl (by decide) rfl (fun ls hl => ?_)
    refine lv_iload_n hx hb dX11_powerOfThree_4 rfl (lv_at hl 0 rfl) ?_
    refine lv_iload_n hx hb dX11_powerOfThree_5 rfl (lv_at hl 2 rfl) ?_
    refine lv_icmp_ge (tgt := 19) hx hb dX11_powerOfThree_6 (by decide) (fun h3 => ?_) (fun h4 => ?_)
    · skip
      have h3 : 1 ≤ 0 := (nI_leI (a := 1) (b := 0) (by omega) (by omega)).mp h3
      exact absurd h3 (by omega)
    · skip
      have h4 : ¬ 1 ≤ 0 := fun q9 => h4 ((nI_leI (a := 1) (b := 0) (by omega) (by omega)).mpr q9)
      refine lv_iload_n hx hb dX11_powerOfThree_9 rfl (lv_at hl 1 rfl) ?_
      refine lv_iconst (v := 3) hx hb dX11_powerOfThree_10 (by decide) ?_
      refine lv_imul hx hb dX11_powerOfThree_11 ?_
      refine lv_topi (fun z5 hz5 => ?_)
      obtain rfl : z5 = 3 := hz5.trans (by decide)
      refine lv_istore_n (lv' := [(1, .int 3), (2, .int 0), (0, .int (nI 1))]) hx hb dX11_powerOfThree_12 rfl hl (by decide) rfl (fun ls hl => ?_)
      refine lv_iinc (v := 1) (lv' := [(2, .int 1), (1, .int 3), (0, .int (nI 1))]) hx hb dX11_powerOfThree_13 hl (k := 1) rfl (by decide) (by decide) rfl (fun ls hl => ?_)
      refine lv_goto (tgt := 4) hx hb dX11_powerOfThree_16 (by decide) ?_
      refine lv_iload_n hx hb dX11_powerOfThree_4 rfl (lv_at hl 0 rfl) ?_
      refine lv_iload_n hx hb dX11_powerOfThree_5 rfl (lv_at hl 2 rfl) ?_
      refine lv_icmp_ge (tgt := 19) hx hb dX11_powerOfThree_6 (by decide) (fun h6 => ?_) (fun h7 => ?_)
      · skip
        have h6 : 1 ≤ 1 := (nI_leI (a := 1) (b := 1) (by omega) (by omega)).mp h6
        refine lv_iload_n hx hb dX11_powerOfThree_19 rfl (lv_at hl 1 rfl) ?_
        exact W.iret (v := 3) hx hb hr (fun tZ ht hW => ⟨⟨3, (), rfl, (show ¬ (3 : Int32) = 0 from by decide), by rw [ht]; exact hP.sub [] rfl, hD.sub [] (by decide) rfl⟩, hS.F ht⟩) hS.2.2 dX11_powerOfThree_20
      · skip
        have h7 : ¬ 1 ≤ 1 := fun q9 => h7 ((nI_leI (a := 1) (b := 1) (by omega) (by omega)).mpr q9)
        exact absurd h7 (by omega)
  · skip
    refine lv_iconst (v := 1) hx hb dX11_powerOfThree_0 (by decide) ?_
    refine lv_istore_n (lv' := [(1, .int 1), (0, .int (nI 2))]) hx hb dX11_powerOfThree_1 rfl hl (by decide) rfl (fun ls hl => ?_)
    refine lv_iconst (v := 0) hx hb dX11_powerOfThree_2 (by decide) ?_
    refine lv_istore_n (lv' := [(2, .int 0), (1, .int 1), (0, .int (nI 2))]) hx hb dX11_powerOfThree_3 rfl hl (by decide) rfl (fun ls hl => ?_)
    refine lv_iload_n hx hb dX11_powerOfThree_4 rfl (lv_at hl 0 rfl) ?_
    refine lv_iload_n hx hb dX11_powerOfThree_5 rfl (lv_at hl 2 rfl) ?_
    refine lv_icmp_ge (tgt := 19) hx hb dX11_powerOfThree_6 (by decide) (fun h8 => ?_) (fun h9 => ?_)
    · skip
      have h8 : 2 ≤ 0 := (nI_leI (a := 2) (b := 0) (by omega) (by omega)).mp h8
      exact absurd h8 (by omega)
    · skip
      have h9 : ¬ 2 ≤ 0 := fun q9 => h9 ((nI_leI (a := 2) (b := 0) (by omega) (by omega)).mpr q9)
      refine lv_iload_n hx hb dX11_powerOfThree_9 rfl (lv_at hl 1 rfl) ?_
      refine lv_iconst (v := 3) hx hb dX11_powerOfThree_10 (by decide) ?_
      refine lv_imul hx hb dX11_powerOfThree_11 ?_
      refine lv_topi (fun z10 hz10 => ?_)
      obtain rfl : z10 = 3 := hz10.trans (by decide)
      refine lv_istore_n (lv' := [(1, .int 3), (2, .int 0), (0, .int (nI 2))]) hx hb dX11_powerOfThree_12 rfl hl (by decide) rfl (fun ls hl => ?_)
      refine lv_iinc (v := 1) (lv' := [(2, .int 1), (1, .int 3), (0, .int (nI 2))]) hx hb dX11_powerOfThree_13 hl (k := 1) rfl (by decide) (by decide) rfl (fun ls hl => ?_)
      refine lv_goto (tgt := 4) hx hb dX11_powerOfThree_16 (by decide) ?_
      refine lv_iload_n hx hb dX11_powerOfThree_4 rfl (lv_at hl 0 rfl) ?_
      refine lv_iload_n hx hb dX11_powerOfThree_5 rfl (lv_at hl 2 rfl) ?_
      refine lv_icmp_ge (tgt := 19) hx hb dX11_powerOfThree_6 (by decide) (fun h11 => ?_) (fun h12 => ?_)
      · skip
        have h11 : 2 ≤ 1 := (nI_leI (a := 2) (b := 1) (by omega) (by omega)).mp h11
        exact absurd h11 (by omega)
      · skip
        have h12 : ¬ 2 ≤ 1 := fun q9 => h12 ((nI_leI (a := 2) (b := 1) (by omega) (by omega)).mpr q9)
        refine lv_iload_n hx hb dX11_powerOfThree_9 rfl (lv_at hl 1 rfl) ?_
        refine lv_iconst (v := 3) hx hb dX11_powerOfThree_10 (by decide) ?_
        refine lv_imul hx hb dX11_powerOfThree_11 ?_
        refine lv_topi (fun z13 hz13 => ?_)
        obtain rfl : z13 = 9 := hz13.trans (by decide)
        refine lv_istore_n (lv' := [(1, .int 9), (2, .int 1), (0, .int (nI 2))]) hx hb dX11_powerOfThree_12 rfl hl (by decide) rfl (fun ls hl => ?_)
        refine lv_iinc (v := 2) (lv' := [(2, .int 2), (1, .int 9), (0, .int (nI 2))]) hx hb dX11_powerOfThree_13 hl (k := 1) rfl (by decide) (by decide) rfl (fun ls hl => ?_)
        refine lv_goto (tgt := 4) hx hb dX11_powerOfThree_16 (by decide) ?_
        refine lv_iload_n hx hb dX11_powerOfThree_4 rfl (lv_at hl 0 rfl) ?_
        refine lv_iload_n hx hb dX11_powerOfThree_5 rfl (lv_at hl 2 rfl) ?_
        refine lv_icmp_ge (tgt := 19) hx hb dX11_powerOfThree_6 (by decide) (fun h14 => ?_) (fun h15 => ?_)
        · skip
          have h14 : 2 ≤ 2 := (nI_leI (a := 2) (b := 2) (by omega) (by omega)).mp h14
          refine lv_iload_n hx hb dX11_powerOfThree_19 rfl (lv_at hl 1 rfl) ?_
          exact W.iret (v := 9) hx hb hr (fun tZ ht hW => ⟨⟨9, (), rfl, (show ¬ (9 : Int32) = 0 from by decide), by rw [ht]; exact hP.sub [] rfl, hD.sub [] (by decide) rfl⟩, hS.F ht⟩) hS.2.2 dX11_powerOfThree_20
        · skip
          have h15 : ¬ 2 ≤ 2 := fun q9 => h15 ((nI_leI (a := 2) (b := 2) (by omega) (by omega)).mpr q9)
          exact absurd h15 (by omega)
  · skip
    refine lv_iconst (v := 1) hx hb dX11_powerOfThree_0 (by decide) ?_
    refine lv_istore_n (lv' := [(1, .int 1), (0, .int (nI 3))]) hx hb dX11_powerOfThree_1 rfl hl (by decide) rfl (fun ls hl => ?_)
    refine lv_iconst (v := 0) hx hb dX11_powerOfThree_2 (by decide) ?_
    refine lv_istore_n (lv' := [(2, .int 0), (1, .int 1), (0, .int (nI 3))]) hx hb dX11_powerOfThree_3 rfl hl (by decide) rfl (fun ls hl => ?_)
    refine lv_iload_n hx hb dX11_powerOfThree_4 rfl (lv_at hl 0 rfl) ?_
    refine lv_iload_n hx hb dX11_powerOfThree_5 rfl (lv_at hl 2 rfl) ?_
    refine lv_icmp_ge (tgt := 19) hx hb dX11_powerOfThree_6 (by decide) (fun h16 => ?_) (fun h17 => ?_)
    · skip
      have h16 : 3 ≤ 0 := (nI_leI (a := 3) (b := 0) (by omega) (by omega)).mp h16
      exact absurd h16 (by omega)
    · skip
      have h17 : ¬ 3 ≤ 0 := fun q9 => h17 ((nI_leI (a := 3) (b := 0) (by omega) (by omega)).mpr q9)
      refine lv_iload_n hx hb dX11_powerOfThree_9 rfl (lv_at hl 1 rfl) ?_
      refine lv_iconst (v := 3) hx hb dX11_powerOfThree_10 (by decide) ?_
      refine lv_imul hx hb dX11_powerOfThree_11 ?_
      refine lv_topi (fun z18 hz18 => ?_)
      obtain rfl : z18 = 3 := hz18.trans (by decide)
      refine lv_istore_n (lv' := [(1, .int 3), (2, .int 0), (0, .int (nI 3))]) hx hb dX11_powerOfThree_12 rfl hl (by decide) rfl (fun ls hl => ?_)
      refine lv_iinc (v := 1) (lv' := [(2, .int 1), (1, .int 3), (0, .int (nI 3))]) hx hb dX11_powerOfThree_13 hl (k := 1) rfl (by decide) (by decide) rfl (fun ls hl => ?_)
      refine lv_goto (tgt := 4) hx hb dX11_powerOfThree_16 (by decide) ?_
      refine lv_iload_n hx hb dX11_powerOfThree_4 rfl (lv_at hl 0 rfl) ?_
      refine lv_iload_n hx hb dX11_powerOfThree_5 rfl (lv_at hl 2 rfl) ?_
      refine lv_icmp_ge (tgt := 19) hx hb dX11_powerOfThree_6 (by decide) (fun h19 => ?_) (fun h20 => ?_)
      · skip
        have h19 : 3 ≤ 1 := (nI_leI (a := 3) (b := 1) (by omega) (by omega)).mp h19
        exact absurd h19 (by omega)
      · skip
        have h20 : ¬ 3 ≤ 1 := fun q9 => h20 ((nI_leI (a := 3) (b := 1) (by omega) (by omega)).mpr q9)
        refine lv_iload_n hx hb dX11_powerOfThree_9 rfl (lv_at hl 1 rfl) ?_
        refine lv_iconst (v := 3) hx hb dX11_powerOfThree_10 (by decide) ?_
        refine lv_imul hx hb dX11_powerOfThree_11 ?_
        refine lv_topi (fun z21 hz21 => ?_)
        obtain rfl : z21 = 9 := hz21.trans (by decide)
        refine lv_istore_n (lv' := [(1, .int 9), (2, .int 1), (0, .int (nI 3))]) hx hb dX11_powerOfThree_12 rfl hl (by decide) rfl (fun ls hl => ?_)
        refine lv_iinc (v := 2) (lv' := [(2, .int 2), (1, .int 9), (0, .int (nI 3))]) hx hb dX11_powerOfThree_13 hl (k := 1) rfl (by decide) (by decide) rfl (fun ls hl => ?_)
        refine lv_goto (tgt := 4) hx hb dX11_powerOfThree_16 (by decide) ?_
        refine lv_iload_n hx hb dX11_powerOfThree_4 rfl (lv_at hl 0 rfl) ?_
        refine lv_iload_n hx hb dX11_powerOfThree_5 rfl (lv_at hl 2 rfl) ?_
        refine lv_icmp_ge (tgt := 19) hx hb dX11_powerOfThree_6 (by decide) (fun h22 => ?_) (fun h23 => ?_)
        · skip
          have h22 : 3 ≤ 2 := (nI_leI (a := 3) (b := 2) (by omega) (by omega)).mp h22
          exact absurd h22 (by omega)
        · skip
          have h23 : ¬ 3 ≤ 2 := fun q9 => h23 ((nI_leI (a := 3) (b := 2) (by omega) (by omega)).mpr q9)
          refine lv_iload_n hx hb dX11_powerOfThree_9 rfl (lv_at hl 1 rfl) ?_
          refine lv_iconst (v := 3) hx hb dX11_powerOfThree_10 (by decide) ?_
          refine lv_imul hx hb dX11_powerOfThree_11 ?_
          refine lv_topi (fun z24 hz24 => ?_)
          obtain rfl : z24 = 27 := hz24.trans (by decide)
          refine lv_istore_n (lv' := [(1, .int 27), (2, .int 2), (0, .int (nI 3))]) hx hb dX11_powerOfThree_12 rfl hl (by decide) rfl (fun ls hl => ?_)
          refine lv_iinc (v := 3) (lv' := [(2, .int 3), (1, .int 27), (0, .int (nI 3))]) hx hb dX11_powerOfThree_13 hl (k := 1) rfl (by decide) (by decide) rfl (fun ls hl => ?_)
          refine lv_goto (tgt := 4) hx hb dX11_powerOfThree_16 (by decide) ?_
          refine lv_iload_n hx hb dX11_powerOfThree_4 rfl (lv_at hl 0 rfl) ?_
          refine lv_iload_n hx hb dX11_powerOfThree_5 rfl (lv_at hl 2 rfl) ?_
          refine lv_icmp_ge (tgt := 19) hx hb dX11_powerOfThree_6 (by decide) (fun h25 => ?_) (fun h26 => ?_)
          · skip
            have h25 : 3 ≤ 3 := (nI_leI (a := 3) (b := 3) (by omega) (by omega)).mp h25
            refine lv_iload_n hx hb dX11_powerOfThree_19 rfl (lv_at hl 1 rfl) ?_
            exact W.iret (v := 27) hx hb hr (fun tZ ht hW => ⟨⟨27, (), rfl, (show ¬ (27 : Int32) = 0 from by decide), by rw [ht]; exact hP.sub [] rfl, hD.sub [] (by decide) rfl⟩, hS.F ht⟩) hS.2.2 dX11_powerOfThree_20
          · skip
            have h26 : ¬ 3 ≤ 3 := fun q9 => h26 ((nI_leI (a := 3) (b := 3) (by omega) (by omega)).mpr q9)
            exact absurd h26 (by omega)
  · skip
    refine lv_iconst (v := 1) hx hb dX11_powerOfThree_0 (by decide) ?_
    refine lv_istore_n (lv' := [(1, .int 1), (0, .int (nI 4))]) hx hb dX11_powerOfThree_1 rfl hl (by decide) rfl (fun ls hl => ?_)
    refine lv_iconst (v := 0) hx hb dX11_powerOfThree_2 (by decide) ?_
    refine lv_istore_n (lv' := [(2, .int 0), (1, .int 1), (0, .int (nI 4))]) hx hb dX11_powerOfThree_3 rfl hl (by decide) rfl (fun ls hl => ?_)
    refine lv_iload_n hx hb dX11_powerOfThree_4 rfl (lv_at hl 0 rfl) ?_
    refine lv_iload_n hx hb dX11_powerOfThree_5 rfl (lv_at hl 2 rfl) ?_
    refine lv_icmp_ge (tgt := 19) hx hb dX11_powerOfThree_6 (by decide) (fun h27 => ?_) (fun h28 => ?_)
    · skip
      have h27 : 4 ≤ 0 := (nI_leI (a := 4) (b := 0) (by omega) (by omega)).mp h27
      exact absurd h27 (by omega)
    · skip
      have h28 : ¬ 4 ≤ 0 := fun q9 => h28 ((nI_leI (a := 4) (b := 0) (by omega) (by omega)).mpr q9)
      refine lv_iload_n hx hb dX11_powerOfThree_9 rfl (lv_at hl 1 rfl) ?_
      refine lv_iconst (v := 3) hx hb dX11_powerOfThree_10 (by decide) ?_
      refine lv_imul hx hb dX11_powerOfThree_11 ?_
      refine lv_topi (fun z29 hz29 => ?_)
      obtain rfl : z29 = 3 := hz29.trans (by decide)
      refine lv_istore_n (lv' := [(1, .int 3), (2, .int 0), (0, .int (nI 4))]) hx hb dX11_powerOfThree_12 rfl hl (by decide) rfl (fun ls hl => ?_)
      refine lv_iinc (v := 1) (lv' := [(2, .int 1), (1, .int 3), (0, .int (nI 4))]) hx hb dX11_powerOfThree_13 hl (k := 1) rfl (by decide) (by decide) rfl (fun ls hl => ?_)
      refine lv_goto (tgt := 4) hx hb dX11_powerOfThree_16 (by decide) ?_
      refine lv_iload_n hx hb dX11_powerOfThree_4 rfl (lv_at hl 0 rfl) ?_
      refine lv_iload_n hx hb dX11_powerOfThree_5 rfl (lv_at hl 2 rfl) ?_
      refine lv_icmp_ge (tgt := 19) hx hb dX11_powerOfThree_6 (by decide) (fun h30 => ?_) (fun h31 => ?_)
      · skip
        have h30 : 4 ≤ 1 := (nI_leI (a := 4) (b := 1) (by omega) (by omega)).mp h30
        exact absurd h30 (by omega)
      · skip
        have h31 : ¬ 4 ≤ 1 := fun q9 => h31 ((nI_leI (a := 4) (b := 1) (by omega) (by omega)).mpr q9)
        refine lv_iload_n hx hb dX11_powerOfThree_9 rfl (lv_at hl 1 rfl) ?_
        refine lv_iconst (v := 3) hx hb dX11_powerOfThree_10 (by decide) ?_
        refine lv_imul hx hb dX11_powerOfThree_11 ?_
        refine lv_topi (fun z32 hz32 => ?_)
        obtain rfl : z32 = 9 := hz32.trans (by decide)
        refine lv_istore_n (lv' := [(1, .int 9), (2, .int 1), (0, .int (nI 4))]) hx hb dX11_powerOfThree_12 rfl hl (by decide) rfl (fun ls hl => ?_)
        refine lv_iinc (v := 2) (lv' := [(2, .int 2), (1, .int 9), (0, .int (nI 4))]) hx hb dX11_powerOfThree_13 hl (k := 1) rfl (by decide) (by decide) rfl (fun ls hl => ?_)
        refine lv_goto (tgt := 4) hx hb dX11_powerOfThree_16 (by decide) ?_
        refine lv_iload_n hx hb dX11_powerOfThree_4 rfl (lv_at hl 0 rfl) ?_
        refine lv_iload_n hx hb dX11_powerOfThree_5 rfl (lv_at hl 2 rfl) ?_
        refine lv_icmp_ge (tgt := 19) hx hb dX11_powerOfThree_6 (by decide) (fun h33 => ?_) (fun h34 => ?_)
        · skip
          have h33 : 4 ≤ 2 := (nI_leI (a := 4) (b := 2) (by omega) (by omega)).mp h33
          exact absurd h33 (by omega)
        · skip
          have h34 : ¬ 4 ≤ 2 := fun q9 => h34 ((nI_leI (a := 4) (b := 2) (by omega) (by omega)).mpr q9)
          refine lv_iload_n hx hb dX11_powerOfThree_9 rfl (lv_at hl 1 rfl) ?_
          refine lv_iconst (v := 3) hx hb dX11_powerOfThree_10 (by decide) ?_
          refine lv_imul hx hb dX11_powerOfThree_11 ?_
          refine lv_topi (fun z35 hz35 => ?_)
          obtain rfl : z35 = 27 := hz35.trans (by decide)
          refine lv_istore_n (lv' := [(1, .int 27), (2, .int 2), (0, .int (nI 4))]) hx hb dX11_powerOfThree_12 rfl hl (by decide) rfl (fun ls hl => ?_)
          refine lv_iinc (v := 3) (lv' := [(2, .int 3), (1, .int 27), (0, .int (nI 4))]) hx hb dX11_powerOfThree_13 hl (k := 1) rfl (by decide) (by decide) rfl (fun ls hl => ?_)
          refine lv_goto (tgt := 4) hx hb dX11_powerOfThree_16 (by decide) ?_
          refine lv_iload_n hx hb dX11_powerOfThree_4 rfl (lv_at hl 0 rfl) ?_
          refine lv_iload_n hx hb dX11_powerOfThree_5 rfl (lv_at hl 2 rfl) ?_
          refine lv_icmp_ge (tgt := 19) hx hb dX11_powerOfThree_6 (by decide) (fun h36 => ?_) (fun h37 => ?_)
          · skip
            have h36 : 4 ≤ 3 := (nI_leI (a := 4) (b := 3) (by omega) (by omega)).mp h36
            exact absurd h36 (by omega)
          · skip
            have h37 : ¬ 4 ≤ 3 := fun q9 => h37 ((nI_leI (a := 4) (b := 3) (by omega) (by omega)).mpr q9)
            refine lv_iload_n hx hb dX11_powerOfThree_9 rfl (lv_at hl 1 rfl) ?_
            refine lv_iconst (v := 3) hx hb dX11_powerOfThree_10 (by decide) ?_
            refine lv_imul hx hb dX11_powerOfThree_11 ?_
            refine lv_topi (fun z38 hz38 => ?_)
            obtain rfl : z38 = 81 := hz38.trans (by decide)
            refine lv_istore_n (lv' := [(1, .int 81), (2, .int 3), (0, .int (nI 4))]) hx hb dX11_powerOfThree_12 rfl hl (by decide) rfl (fun ls hl => ?_)
            refine lv_iinc (v := 4) (lv' := [(2, .int 4), (1, .int 81), (0, .int (nI 4))]) hx hb dX11_powerOfThree_13 hl (k := 1) rfl (by decide) (by decide) rfl (fun ls hl => ?_)
            refine lv_goto (tgt := 4) hx hb dX11_powerOfThree_16 (by decide) ?_
            refine lv_iload_n hx hb dX11_powerOfThree_4 rfl (lv_at hl 0 rfl) ?_
            refine lv_iload_n hx hb dX11_powerOfThree_5 rfl (lv_at hl 2 rfl) ?_
            refine lv_icmp_ge (tgt := 19) hx hb dX11_powerOfThree_6 (by decide) (fun h39 => ?_) (fun h40 => ?_)
            · skip
              have h39 : 4 ≤ 4 := (nI_leI (a := 4) (b := 4) (by omega) (by omega)).mp h39
              refine lv_iload_n hx hb dX11_powerOfThree_19 rfl (lv_at hl 1 rfl) ?_
              exact W.iret (v := 81) hx hb hr (fun tZ ht hW => ⟨⟨81, (), rfl, (show ¬ (81 : Int32) = 0 from by decide), by rw [ht]; exact hP.sub [] rfl, hD.sub [] (by decide) rfl⟩, hS.F ht⟩) hS.2.2 dX11_powerOfThree_20
            · skip
              have h40 : ¬ 4 ≤ 4 := fun q9 => h40 ((nI_leI (a := 4) (b := 4) (by omega) (by omega)).mpr q9)
              exact absurd h40 (by omega)
  · skip
    refine lv_iconst (v := 1) hx hb dX11_powerOfThree_0 (by decide) ?_
    refine lv_istore_n (lv' := [(1, .int 1), (0, .int (nI 5))]) hx hb dX11_powerOfThree_1 rfl hl (by decide) rfl (fun ls hl => ?_)
    refine lv_iconst (v := 0) hx hb dX11_powerOfThree_2 (by decide) ?_
    refine lv_istore_n (lv' := [(2, .int 0), (1, .int 1), (0, .int (nI 5))]) hx hb dX11_powerOfThree_3 rfl hl (by decide) rfl (fun ls hl => ?_)
    refine lv_iload_n hx hb dX11_powerOfThree_4 rfl (lv_at hl 0 rfl) ?_
    refine lv_iload_n hx hb dX11_powerOfThree_5 rfl (lv_at hl 2 rfl) ?_
    refine lv_icmp_ge (tgt := 19) hx hb dX11_powerOfThree_6 (by decide) (fun h41 => ?_) (fun h42 => ?_)
    · skip
      have h41 : 5 ≤ 0 := (nI_leI (a := 5) (b := 0) (by omega) (by omega)).mp h41
      exact absurd h41 (by omega)
    · skip
      have h42 : ¬ 5 ≤ 0 := fun q9 => h42 ((nI_leI (a := 5) (b := 0) (by omega) (by omega)).mpr q9)
      refine lv_iload_n hx hb dX11_powerOfThree_9 rfl (lv_at hl 1 rfl) ?_
      refine lv_iconst (v := 3) hx hb dX11_powerOfThree_10 (by decide) ?_
      refine lv_imul hx hb dX11_powerOfThree_11 ?_
      refine lv_topi (fun z43 hz43 => ?_)
      obtain rfl : z43 = 3 := hz43.trans (by decide)
      refine lv_istore_n (lv' := [(1, .int 3), (2, .int 0), (0, .int (nI 5))]) hx hb dX11_powerOfThree_12 rfl hl (by decide) rfl (fun ls hl => ?_)
      refine lv_iinc (v := 1) (lv' := [(2, .int 1), (1, .int 3), (0, .int (nI 5))]) hx hb dX11_powerOfThree_13 hl (k := 1) rfl (by decide) (by decide) rfl (fun ls hl => ?_)
      refine lv_goto (tgt := 4) hx hb dX11_powerOfThree_16 (by decide) ?_
      refine lv_iload_n hx hb dX11_powerOfThree_4 rfl (lv_at hl 0 rfl) ?_
      refine lv_iload_n hx hb dX11_powerOfThree_5 rfl (lv_at hl 2 rfl) ?_
      refine lv_icmp_ge (tgt := 19) hx hb dX11_powerOfThree_6 (by decide) (fun h44 => ?_) (fun h45 => ?_)
      · skip
        have h44 : 5 ≤ 1 := (nI_leI (a := 5) (b := 1) (by omega) (by omega)).mp h44
        exact absurd h44 (by omega)
      · skip
        have h45 : ¬ 5 ≤ 1 := fun q9 => h45 ((nI_leI (a := 5) (b := 1) (by omega) (by omega)).mpr q9)
        refine lv_iload_n hx hb dX11_powerOfThree_9 rfl (lv_at hl 1 rfl) ?_
        refine lv_iconst (v := 3) hx hb dX11_powerOfThree_10 (by decide) ?_
        refine lv_imul hx hb dX11_powerOfThree_11 ?_
        refine lv_topi (fun z46 hz46 => ?_)
        obtain rfl : z46 = 9 := hz46.trans (by decide)
        refine lv_istore_n (lv' := [(1, .int 9), (2, .int 1), (0, .int (nI 5))]) hx hb dX11_powerOfThree_12 rfl hl (by decide) rfl (fun ls hl => ?_)
        refine lv_iinc (v := 2) (lv' := [(2, .int 2), (1, .int 9), (0, .int (nI 5))]) hx hb dX11_powerOfThree_13 hl (k := 1) rfl (by decide) (by decide) rfl (fun ls hl => ?_)
        refine lv_goto (tgt := 4) hx hb dX11_powerOfThree_16 (by decide) ?_
        refine lv_iload_n hx hb dX11_powerOfThree_4 rfl (lv_at hl 0 rfl) ?_
        refine lv_iload_n hx hb dX11_powerOfThree_5 rfl (lv_at hl 2 rfl) ?_
        refine lv_icmp_ge (tgt := 19) hx hb dX11_powerOfThree_6 (by decide) (fun h47 => ?_) (fun h48 => ?_)
        · skip
          have h47 : 5 ≤ 2 := (nI_leI (a := 5) (b := 2) (by omega) (by omega)).mp h47
          exact absurd h47 (by omega)
        · skip
          have h48 : ¬ 5 ≤ 2 := fun q9 => h48 ((nI_leI (a := 5) (b := 2) (by omega) (by omega)).mpr q9)
          refine lv_iload_n hx hb dX11_powerOfThree_9 rfl (lv_at hl 1 rfl) ?_
          refine lv_iconst (v := 3) hx hb dX11_powerOfThree_10 (by decide) ?_
          refine lv_imul hx hb dX11_powerOfThree_11 ?_
          refine lv_topi (fun z49 hz49 => ?_)
          obtain rfl : z49 = 27 := hz49.trans (by decide)
          refine lv_istore_n (lv' := [(1, .int 27), (2, .int 2), (0, .int (nI 5))]) hx hb dX11_powerOfThree_12 rfl hl (by decide) rfl (fun ls hl => ?_)
          refine lv_iinc (v := 3) (lv' := [(2, .int 3), (1, .int 27), (0, .int (nI 5))]) hx hb dX11_powerOfThree_13 hl (k := 1) rfl (by decide) (by decide) rfl (fun ls hl => ?_)
          refine lv_goto (tgt := 4) hx hb dX11_powerOfThree_16 (by decide) ?_
          refine lv_iload_n hx hb dX11_powerOfThree_4 rfl (lv_at hl 0 rfl) ?_
          refine lv_iload_n hx hb dX11_powerOfThree_5 rfl (lv_at hl 2 rfl) ?_
          refine lv_icmp_ge (tgt := 19) hx hb dX11_powerOfThree_6 (by decide) (fun h50 => ?_) (fun h51 => ?_)
          · skip
            have h50 : 5 ≤ 3 := (nI_leI (a := 5) (b := 3) (by omega) (by omega)).mp h50
            exact absurd h50 (by omega)
          · skip
            have h51 : ¬ 5 ≤ 3 := fun q9 => h51 ((nI_leI (a := 5) (b := 3) (by omega) (by omega)).mpr q9)
            refine lv_iload_n hx hb dX11_powerOfThree_9 rfl (lv_at hl 1 rfl) ?_
            refine lv_iconst (v := 3) hx hb dX11_powerOfThree_10 (by decide) ?_
            refine lv_imul hx hb dX11_powerOfThree_11 ?_
            refine lv_topi (fun z52 hz52 => ?_)
            obtain rfl : z52 = 81 := hz52.trans (by decide)
            refine lv_istore_n (lv' := [(1, .int 81), (2, .int 3), (0, .int (nI 5))]) hx hb dX11_powerOfThree_12 rfl hl (by decide) rfl (fun ls hl => ?_)
            refine lv_iinc (v := 4) (lv' := [(2, .int 4), (1, .int 81), (0, .int (nI 5))]) hx hb dX11_powerOfThree_13 hl (k := 1) rfl (by decide) (by decide) rfl (fun ls hl => ?_)
            refine lv_goto (tgt := 4) hx hb dX11_powerOfThree_16 (by decide) ?_
            refine lv_iload_n hx hb dX11_powerOfThree_4 rfl (lv_at hl 0 rfl) ?_
            refine lv_iload_n hx hb dX11_powerOfThree_5 rfl (lv_at hl 2 rfl) ?_
            refine lv_icmp_ge (tgt := 19) hx hb dX11_powerOfThree_6 (by decide) (fun h53 => ?_) (fun h54 => ?_)
            · skip
              have h53 : 5 ≤ 4 := (nI_leI (a := 5) (b := 4) (by omega) (by omega)).mp h53
              exact absurd h53 (by omega)
            · skip
              have h54 : ¬ 5 ≤ 4 := fun q9 => h54 ((nI_leI (a := 5) (b := 4) (by omega) (by omega)).mpr q9)
              refine lv_iload_n hx hb dX11_powerOfThree_9 rfl (lv_at hl 1 rfl) ?_
              refine lv_iconst (v := 3) hx hb dX11_powerOfThree_10 (by decide) ?_
              refine lv_imul hx hb dX11_powerOfThree_11 ?_
              refine lv_topi (fun z55 hz55 => ?_)
              obtain rfl : z55 = 243 := hz55.trans (by decide)
              refine lv_istore_n (lv' := [(1, .int 243), (2, .int 4), (0, .int (nI 5))]) hx hb dX11_powerOfThree_12 rfl hl (by decide) rfl (fun ls hl => ?_)
              refine lv_iinc (v := 5) (lv' := [(2, .int 5), (1, .int 243), (0, .int (nI 5))]) hx hb dX11_powerOfThree_13 hl (k := 1) rfl (by decide) (by decide) rfl (fun ls hl => ?_)
              refine lv_goto (tgt := 4) hx hb dX11_powerOfThree_16 (by decide) ?_
              refine lv_iload_n hx hb dX11_powerOfThree_4 rfl (lv_at hl 0 rfl) ?_
              refine lv_iload_n hx hb dX11_powerOfThree_5 rfl (lv_at hl 2 rfl) ?_
              refine lv_icmp_ge (tgt := 19) hx hb dX11_powerOfThree_6 (by decide) (fun h56 => ?_) (fun h57 => ?_)
              · skip
                have h56 : 5 ≤ 5 := (nI_leI (a := 5) (b := 5) (by omega) (by omega)).mp h56
                refine lv_iload_n hx hb dX11_powerOfThree_19 rfl (lv_at hl 1 rfl) ?_
                exact W.iret (v := 243) hx hb hr (fun tZ ht hW => ⟨⟨243, (), rfl, (show ¬ (243 : Int32) = 0 from by decide), by rw [ht]; exact hP.sub [] rfl, hD.sub [] (by decide) rfl⟩, hS.F ht⟩) hS.2.2 dX11_powerOfThree_20
              · skip
                have h57 : ¬ 5 ≤ 5 := fun q9 => h57 ((nI_leI (a := 5) (b := 5) (by omega) (by omega)).mpr q9)
                exact absurd h57 (by omega)
  · skip
    refine lv_iconst (v := 1) hx hb dX11_powerOfThree_0 (by decide) ?_
    refine lv_istore_n (lv' := [(1, .int 1), (0, .int (nI 6))]) hx hb dX11_powerOfThree_1 rfl hl (by decide) rfl (fun ls hl => ?_)
    refine lv_iconst (v := 0) hx hb dX11_powerOfThree_2 (by decide) ?_
    refine lv_istore_n (lv' := [(2, .int 0), (1, .int 1), (0, .int (nI 6))]) hx hb dX11_powerOfThree_3 rfl hl (by decide) rfl (fun ls hl => ?_)
    refine lv_iload_n hx hb dX11_powerOfThree_4 rfl (lv_at hl 0 rfl) ?_
    refine lv_iload_n hx hb dX11_powerOfThree_5 rfl (lv_at hl 2 rfl) ?_
    refine lv_icmp_ge (tgt := 19) hx hb dX11_powerOfThree_6 (by decide) (fun h58 => ?_) (fun h59 => ?_)
    · skip
      have h58 : 6 ≤ 0 := (nI_leI (a := 6) (b := 0) (by omega) (by omega)).mp h58
      exact absurd h58 (by omega)
    · skip
      have h59 : ¬ 6 ≤ 0 := fun q9 => h59 ((nI_leI (a := 6) (b := 0) (by omega) (by omega)).mpr q9)
      refine lv_iload_n hx hb dX11_powerOfThree_9 rfl (lv_at hl 1 rfl) ?_
      refine lv_iconst (v := 3) hx hb dX11_powerOfThree_10 (by decide) ?_
      refine lv_imul hx hb dX11_powerOfThree_11 ?_
      refine lv_topi (fun z60 hz60 => ?_)
      obtain rfl : z60 = 3 := hz60.trans (by decide)
      refine lv_istore_n (lv' := [(1, .int 3), (2, .int 0), (0, .int (nI 6))]) hx hb dX11_powerOfThree_12 rfl hl (by decide) rfl (fun ls hl => ?_)
      refine lv_iinc (v := 1) (lv' := [(2, .int 1), (1, .int 3), (0, .int (nI 6))]) hx hb dX11_powerOfThree_13 hl (k := 1) rfl (by decide) (by decide) rfl (fun ls hl => ?_)
      refine lv_goto (tgt := 4) hx hb dX11_powerOfThree_16 (by decide) ?_
      refine lv_iload_n hx hb dX11_powerOfThree_4 rfl (lv_at hl 0 rfl) ?_
      refine lv_iload_n hx hb dX11_powerOfThree_5 rfl (lv_at hl 2 rfl) ?_
      refine lv_icmp_ge (tgt := 19) hx hb dX11_powerOfThree_6 (by decide) (fun h61 => ?_) (fun h62 => ?_)
      · skip
        have h61 : 6 ≤ 1 := (nI_leI (a := 6) (b := 1) (by omega) (by omega)).mp h61
        exact absurd h61 (by omega)
      · skip
        have h62 : ¬ 6 ≤ 1 := fun q9 => h62 ((nI_leI (a := 6) (b := 1) (by omega) (by omega)).mpr q9)
        refine lv_iload_n hx hb dX11_powerOfThree_9 rfl (lv_at hl 1 rfl) ?_
        refine lv_iconst (v := 3) hx hb dX11_powerOfThree_10 (by decide) ?_
        refine lv_imul hx hb dX11_powerOfThree_11 ?_
        refine lv_topi (fun z63 hz63 => ?_)
        obtain rfl : z63 = 9 := hz63.trans (by decide)
        refine lv_istore_n (lv' := [(1, .int 9), (2, .int 1), (0, .int (nI 6))]) hx hb dX11_powerOfThree_12 rfl hl (by decide) rfl (fun ls hl => ?_)
        refine lv_iinc (v := 2) (lv' := [(2, .int 2), (1, .int 9), (0, .int (nI 6))]) hx hb dX11_powerOfThree_13 hl (k := 1) rfl (by decide) (by decide) rfl (fun ls hl => ?_)
        refine lv_goto (tgt := 4) hx hb dX11_powerOfThree_16 (by decide) ?_
        refine lv_iload_n hx hb dX11_powerOfThree_4 rfl (lv_at hl 0 rfl) ?_
        refine lv_iload_n hx hb dX11_powerOfThree_5 rfl (lv_at hl 2 rfl) ?_
        refine lv_icmp_ge (tgt := 19) hx hb dX11_powerOfThree_6 (by decide) (fun h64 => ?_) (fun h65 => ?_)
        · skip
          have h64 : 6 ≤ 2 := (nI_leI (a := 6) (b := 2) (by omega) (by omega)).mp h64
          exact absurd h64 (by omega)
        · skip
          have h65 : ¬ 6 ≤ 2 := fun q9 => h65 ((nI_leI (a := 6) (b := 2) (by omega) (by omega)).mpr q9)
          refine lv_iload_n hx hb dX11_powerOfThree_9 rfl (lv_at hl 1 rfl) ?_
          refine lv_iconst (v := 3) hx hb dX11_powerOfThree_10 (by decide) ?_
          refine lv_imul hx hb dX11_powerOfThree_11 ?_
          refine lv_topi (fun z66 hz66 => ?_)
          obtain rfl : z66 = 27 := hz66.trans (by decide)
          refine lv_istore_n (lv' := [(1, .int 27), (2, .int 2), (0, .int (nI 6))]) hx hb dX11_powerOfThree_12 rfl hl (by decide) rfl (fun ls hl => ?_)
          refine lv_iinc (v := 3) (lv' := [(2, .int 3), (1, .int 27), (0, .int (nI 6))]) hx hb dX11_powerOfThree_13 hl (k := 1) rfl (by decide) (by decide) rfl (fun ls hl => ?_)
          refine lv_goto (tgt := 4) hx hb dX11_powerOfThree_16 (by decide) ?_
          refine lv_iload_n hx hb dX11_powerOfThree_4 rfl (lv_at hl 0 rfl) ?_
          refine lv_iload_n hx hb dX11_powerOfThree_5 rfl (lv_at hl 2 rfl) ?_
          refine lv_icmp_ge (tgt := 19) hx hb dX11_powerOfThree_6 (by decide) (fun h67 => ?_) (fun h68 => ?_)
          · skip
            have h67 : 6 ≤ 3 := (nI_leI (a := 6) (b := 3) (by omega) (by omega)).mp h67
            exact absurd h67 (by omega)
          · skip
            have h68 : ¬ 6 ≤ 3 := fun q9 => h68 ((nI_leI (a := 6) (b := 3) (by omega) (by omega)).mpr q9)
            refine lv_iload_n hx hb dX11_powerOfThree_9 rfl (lv_at hl 1 rfl) ?_
            refine lv_iconst (v := 3) hx hb dX11_powerOfThree_10 (by decide) ?_
            refine lv_imul hx hb dX11_powerOfThree_11 ?_
            refine lv_topi (fun z69 hz69 => ?_)
            obtain rfl : z69 = 81 := hz69.trans (by decide)
            refine lv_istore_n (lv' := [(1, .int 81), (2, .int 3), (0, .int (nI 6))]) hx hb dX11_powerOfThree_12 rfl hl (by decide) rfl (fun ls hl => ?_)
            refine lv_iinc (v := 4) (lv' := [(2, .int 4), (1, .int 81), (0, .int (nI 6))]) hx hb dX11_powerOfThree_13 hl (k := 1) rfl (by decide) (by decide) rfl (fun ls hl => ?_)
            refine lv_goto (tgt := 4) hx hb dX11_powerOfThree_16 (by decide) ?_
            refine lv_iload_n hx hb dX11_powerOfThree_4 rfl (lv_at hl 0 rfl) ?_
            refine lv_iload_n hx hb dX11_powerOfThree_5 rfl (lv_at hl 2 rfl) ?_
            refine lv_icmp_ge (tgt := 19) hx hb dX11_powerOfThree_6 (by decide) (fun h70 => ?_) (fun h71 => ?_)
            · skip
              have h70 : 6 ≤ 4 := (nI_leI (a := 6) (b := 4) (by omega) (by omega)).mp h70
              exact absurd h70 (by omega)
            · skip
              have h71 : ¬ 6 ≤ 4 := fun q9 => h71 ((nI_leI (a := 6) (b := 4) (by omega) (by omega)).mpr q9)
              refine lv_iload_n hx hb dX11_powerOfThree_9 rfl (lv_at hl 1 rfl) ?_
              refine lv_iconst (v := 3) hx hb dX11_powerOfThree_10 (by decide) ?_
              refine lv_imul hx hb dX11_powerOfThree_11 ?_
              refine lv_topi (fun z72 hz72 => ?_)
              obtain rfl : z72 = 243 := hz72.trans (by decide)
              refine lv_istore_n (lv' := [(1, .int 243), (2, .int 4), (0, .int (nI 6))]) hx hb dX11_powerOfThree_12 rfl hl (by decide) rfl (fun ls hl => ?_)
              refine lv_iinc (v := 5) (lv' := [(2, .int 5), (1, .int 243), (0, .int (nI 6))]) hx hb dX11_powerOfThree_13 hl (k := 1) rfl (by decide) (by decide) rfl (fun ls hl => ?_)
              refine lv_goto (tgt := 4) hx hb dX11_powerOfThree_16 (by decide) ?_
              refine lv_iload_n hx hb dX11_powerOfThree_4 rfl (lv_at hl 0 rfl) ?_
              refine lv_iload_n hx hb dX11_powerOfThree_5 rfl (lv_at hl 2 rfl) ?_
              refine lv_icmp_ge (tgt := 19) hx hb dX11_powerOfThree_6 (by decide) (fun h73 => ?_) (fun h74 => ?_)
              · skip
                have h73 : 6 ≤ 5 := (nI_leI (a := 6) (b := 5) (by omega) (by omega)).mp h73
                exact absurd h73 (by omega)
              · skip
                have h74 : ¬ 6 ≤ 5 := fun q9 => h74 ((nI_leI (a := 6) (b := 5) (by omega) (by omega)).mpr q9)
                refine lv_iload_n hx hb dX11_powerOfThree_9 rfl (lv_at hl 1 rfl) ?_
                refine lv_iconst (v := 3) hx hb dX11_powerOfThree_10 (by decide) ?_
                refine lv_imul hx hb dX11_powerOfThree_11 ?_
                refine lv_topi (fun z75 hz75 => ?_)
                obtain rfl : z75 = 729 := hz75.trans (by decide)
                refine lv_istore_n (lv' := [(1, .int 729), (2, .int 5), (0, .int (nI 6))]) hx hb dX11_powerOfThree_12 rfl hl (by decide) rfl (fun ls hl => ?_)
                refine lv_iinc (v := 6) (lv' := [(2, .int 6), (1, .int 729), (0, .int (nI 6))]) hx hb dX11_powerOfThree_13 hl (k := 1) rfl (by decide) (by decide) rfl (fun ls hl => ?_)
                refine lv_goto (tgt := 4) hx hb dX11_powerOfThree_16 (by decide) ?_
                refine lv_iload_n hx hb dX11_powerOfThree_4 rfl (lv_at hl 0 rfl) ?_
                refine lv_iload_n hx hb dX11_powerOfThree_5 rfl (lv_at hl 2 rfl) ?_
                refine lv_icmp_ge (tgt := 19) hx hb dX11_powerOfThree_6 (by decide) (fun h76 => ?_) (fun h77 => ?_)
                · skip
                  have h76 : 6 ≤ 6 := (nI_leI (a := 6) (b := 6) (by omega) (by omega)).mp h76
                  refine lv_iload_n hx hb dX11_powerOfThree_19 rfl (lv_at hl 1 rfl) ?_
                  exact W.iret (v := 729) hx hb hr (fun tZ ht hW => ⟨⟨729, (), rfl, (show ¬ (729 : Int32) = 0 from by decide), by rw [ht]; exact hP.sub [] rfl, hD.sub [] (by decide) rfl⟩, hS.F ht⟩) hS.2.2 dX11_powerOfThree_20
                · skip
                  have h77 : ¬ 6 ≤ 6 := fun q9 => h77 ((nI_leI (a := 6) (b := 6) (by omega) (by omega)).mpr q9)
                  exact absurd h77 (by omega)

set_option maxHeartbeats 4000000 in
set_option maxRecDepth 100000 in
theorem gr_roundBy (l : Launch) (D : va_G) (y : Nat → ClassId) (mo : Nat) (to : Nat) (ke : Nat) (ik : Nat) (mrf : Nat) (ha : Nat) (r0 : Nat) (mbr : Nat) (mbp : Nat) (mby : Nat) (an : Nat) (va : Nat) (mab : Int64) (mbl : Int64) (bl : Nat) (ta : Nat) (tl : Nat) (tk : Nat) (vv : Int32) (ft : Nat → Int32) (fi : Nat) (gl : Nat) (mi : Nat) (no : Nat) (un : Nat) (fh : Nat → Int32) (fr0 : Nat → Int32) (k : Nat) (n : Nat) (x : Int32) (hk0_ : ft 0 = (nI fi)) (hk1_ : ft 1 = (nI gl)) (hk2_ : ft 2 = (nI mi)) (hk3_ : ft 3 = (nI no)) (hk4_ : ft 4 = (nI un)) (hkt : kr_t 228 ft) (hfi : fi ≤ 6) (hgl : gl ≤ 5) (hmi : mi ≤ 4) (hno : no ≤ 6) (hun : un ≤ 8) (hkh : kr_t 30 fh) (hA1 : k < gl) (hA2 : 1 ≤ n) (hA3 : n ≤ 6) : kw_Mi l yX11_roundBy wsX11_roundBy ({ frames := 5, cells := 0, slots := 0, locals := 151 }) D y [.ref mo, .int (nI k), .int (nI n), .int x] [(mo, .inr (11, [.ref to, .ref ke, .ref ik, .ref mrf, .long mab, .long mbl, .ref ha, .ref r0, .ref mbr, .ref mbp, .ref mby, .int (nI bl), .int (nI ta), .int (nI tl), .int (nI tk), .int vv, .ref an, .ref va])), (to, .inl (y 0, 228, .inl ft)), (ha, .inl (y 0, 30, .inl fh)), (r0, .inl (y 0, 6, .inl fr0))] (fun (r : Int32) (u : (Nat → Int32) × (Nat → Int32)) => kr_t 30 u.1) (fun u => [(mo, .inr (11, [.ref to, .ref ke, .ref ik, .ref mrf, .long mab, .long mbl, .ref ha, .ref r0, .ref mbr, .ref mbp, .ref mby, .int (nI bl), .int (nI ta), .int (nI tl), .int (nI tk), .int vv, .ref an, .ref va])), (to, .inl (y 0, 228, .inl ft)), (ha, .inl (y 0, 30, .inl u.1)), (r0, .inl (y 0, 6, .inl u.2))]) 0 0 := by
  refine kw_Mi.of (cc := cX11_roundBy) (maxL := 10) (ret := (some .int)) (by decide) rfl ?_
  intro pZ eZ s mZ beZ meZ cZ A hE
  obtain ⟨hx, hb, hr, hml, hts, hown, hlocks, hin, hA, hP, hD, hK, hN⟩ := hE
  have hS : va_S A s.heap s.heap [] := va_S.rf
  have hl := lv_entry ([.ref mo, .int (nI k), .int (nI n), .int x]) (n := 10) (Nat.le_of_ble_eq_true rfl)
  rw [lg_entry_eq]
  generalize (lg_sl ([.ref mo, .int (nI k), .int (nI n), .int x]) ++ List.replicate (10 - (lg_sl ([.ref mo, .int (nI k), .int (nI n), .int x])).length) Slot.unset).toArray = ls at hl ⊢
  have hl : lv_has ls 10 [(0, .ref mo), (1, .int (nI k)), (2, .int (nI n)), (3, .int x)] := hl
  have fw1 := hts (.fieldLink RX11 7 "GleanDuskModel" "told" "[I") (List.mem_of_getElem? (i := 1) rfl)
  have fw2 := hts (.fieldLink RX11 27 "GleanDuskModel" "hand" "[I") (List.mem_of_getElem? (i := 2) rfl)
  have fw3 := hts (.fieldLink RX11 30 "GleanDuskModel" "round0" "[I") (List.mem_of_getElem? (i := 3) rfl)
  have iw11 : ∀ w ∈ wsX110, w ∈ wsX11_roundBy := fun _ h => List.mem_cons_of_mem _ (List.mem_append_right _ h)
  refine lv_aload_n hx hb dX11_roundBy_0 rfl (lv_at hl 0 rfl) ?_
  refine va_get (D := D) (ci := 11) (v := .ref to) (C := RX11) (T := TX11) (N := 18) hx hb hts iw11 hown hK hP 0 rfl rfl 0 (by decide) fw1 (fun _ h9 => h9) rfl dX11_roundBy_1 ?_
  refine lv_bipush (v := 11) hx hb dX11_roundBy_4 (by decide) ?_
  refine lv_iload_n hx hb dX11_roundBy_6 rfl (lv_at hl 1 rfl) ?_
  refine lv_iadd hx hb dX11_roundBy_7 ?_
  rw [show 11 + (nI k) = nI (k + 11) from (nI_add 11 k).trans (congrArg nI (by omega))]
  refine va_iald hx hb hK hP 1 0 rfl rfl (vp_in_nI (by omega) (by decide)) dX11_roundBy_8 ?_
  rw [nI_clamp (n := (k + 11)) (by omega)]
  obtain ⟨w1, h2, h3⟩ := kr_at hkt (p := (k + 11)) (by omega) (by unfold kr_a; omega)
  rw [h3]
  refine lv_istore (lv' := [(4, .int (nI w1)), (0, .ref mo), (1, .int (nI k)), (2, .int (nI n)), (3, .int x)]) hx hb dX11_roundBy_9 hl (by decide) rfl (fun ls hl => ?_)
  refine lv_iconst (v := 0) hx hb dX11_roundBy_11 (by decide) ?_
  refine lv_istore (lv' := [(5, .int 0), (4, .int (nI w1)), (0, .ref mo), (1, .int (nI k)), (2, .int (nI n)), (3, .int x)]) hx hb dX11_roundBy_12 hl (by decide) rfl (fun ls hl => ?_)
  refine lv_aload_n hx hb dX11_roundBy_14 rfl (lv_at hl 2 rfl) ?_
  have hs4 : kw_Split [(mo, .inr (11, [.ref to, .ref ke, .ref ik, .ref mrf, .long mab, .long mbl, .ref ha, .ref r0, .ref mbr, .ref mbp, .ref mby, .int (nI bl), .int (nI ta), .int (nI tl), .int (nI tk), .int vv, .ref an, .ref va])), (to, .inl (y 0, 228, .inl ft)), (ha, .inl (y 0, 30, .inl fh)), (r0, .inl (y 0, 6, .inl fr0))] [(mo, .inr (11, [.ref to, .ref ke, .ref ik, .ref mrf, .long mab, .long mbl, .ref ha, .ref r0, .ref mbr, .ref mbp, .ref mby, .int (nI bl), .int (nI ta), .int (nI tl), .int (nI tk), .int vv, .ref an, .ref va])), (to, .inl (y 0, 228, .inl ft)), (ha, .inl (y 0, 30, .inl fh))] [(r0, .inl (y 0, 6, .inl fr0))] [0, 1, 2] [3] := ⟨rfl, rfl, rfl, rfl, rfl, by decide⟩
  refine kw_go_v hs4 hP hD hS hA (va_runV (As := []) (rest := []) ⟨hx, hb, hml, hown, hts⟩ (gr_layHand l D y mo to ke ik mrf ha r0 mbr mbp mby an va mab mbl bl ta tl tk vv ft fi gl mi no un fh hk0_ hk1_ hk2_ hk3_ hk4_ hkt hfi hgl hmi hno hun hkh _) (cwV 0 hts gX11_roundBy_X11_layHand rfl rfl rfl (by decide +kernel) ⟨Nat.le_of_ble_eq_true rfl, Nat.le_of_ble_eq_true rfl⟩) (kw_PreV (ci := 11) (q0 := 0) hs4 hP hD hK hN rfl rfl) rfl rfl hl.1 rfl (lv_room (Nat.le_of_ble_eq_true rfl)) dX11_roundBy_15 ⟨Nat.le_of_ble_eq_true rfl, Nat.le_of_ble_eq_true rfl⟩) (fun u6 H locs hq hP hD hS => ?_)
  have h7 := hq
  have hk8 : (kr_cp fh ft 30) 0 = (nI fi) := ((kr_cp_lt (by decide)).trans hk0_)
  have hk9 : (kr_cp fh ft 30) 1 = (nI gl) := ((kr_cp_lt (by decide)).trans hk1_)
  have hP : va_P D vwCl [(r0, .inl (y 0, 6, .inl fr0)), (mo, .inr (11, [.ref to, .ref ke, .ref ik, .ref mrf, .long mab, .long mbl, .ref ha, .ref r0, .ref mbr, .ref mbp, .ref mby, .int (nI bl), .int (nI ta), .int (nI tl), .int (nI tk), .int vv, .ref an, .ref va])), (to, .inl (y 0, 228, .inl ft)), (ha, .inl (y 0, 30, .inl (kr_cp fh ft 30)))] H := hP
  have hD : va_D A [(r0, .inl (y 0, 6, .inl fr0)), (mo, .inr (11, [.ref to, .ref ke, .ref ik, .ref mrf, .long mab, .long mbl, .ref ha, .ref r0, .ref mbr, .ref mbp, .ref mby, .int (nI bl), .int (nI ta), .int (nI tl), .int (nI tk), .int vv, .ref an, .ref va])), (to, .inl (y 0, 228, .inl ft)), (ha, .inl (y 0, 30, .inl (kr_cp fh ft 30)))] := hD
  refine lv_iconst (v := 0) hx hb dX11_roundBy_18 (by decide) ?_
  refine lv_istore (lv' := [(6, .int 0), (5, .int 0), (4, .int (nI w1)), (0, .ref mo), (1, .int (nI k)), (2, .int (nI n)), (3, .int x)]) hx hb dX11_roundBy_19 hl (by decide) rfl (fun ls hl => ?_)
  have lp98 : ∀ (fuj91 j91 : Nat) (x53 : Nat) (x54 : Nat → Int32) (x55 : Nat → Int32) (x56 : Int32) (H : Heap) (locs : List Loc) (ls : Array Slot), j91 ≤ n → n - j91 < fuj91 → kr_t 30 x55 → x55 0 = (nI fi) → x55 1 = (nI gl) → x53 ≤ 5 → va_P D vwCl [(r0, .inl (y 0, 6, .inl x54)), (mo, .inr (11, [.ref to, .ref ke, .ref ik, .ref mrf, .long mab, .long mbl, .ref ha, .ref r0, .ref mbr, .ref mbp, .ref mby, .int (nI bl), .int (nI ta), .int (nI tl), .int (nI tk), .int vv, .ref an, .ref va])), (to, .inl (y 0, 228, .inl ft)), (ha, .inl (y 0, 30, .inl x55))] H → va_D A [(r0, .inl (y 0, 6, .inl x54)), (mo, .inr (11, [.ref to, .ref ke, .ref ik, .ref mrf, .long mab, .long mbl, .ref ha, .ref r0, .ref mbr, .ref mbp, .ref mby, .int (nI bl), .int (nI ta), .int (nI tl), .int (nI tk), .int vv, .ref an, .ref va])), (to, .inl (y 0, 228, .inl ft)), (ha, .inl (y 0, 30, .inl x55))] → va_S A s.heap H locs → lv_has ls 10 [(6, .int (nI j91)), (5, .int x56), (4, .int (nI x53)), (0, .ref mo), (1, .int (nI k)), (2, .int (nI n)), (3, .int x)] → W pZ l eZ ({ frames := 5, cells := 0, slots := 0, locals := 151 }) s mZ [.ref mo, .int (nI k), .int (nI n), .int x].toArray beZ meZ cZ H locs 0 0 (MQ beZ (va_Qi (fun (r : Int32) (u : (Nat → Int32) × (Nat → Int32)) => kr_t 30 u.1) (kw_B D (fun u => [(mo, .inr (11, [.ref to, .ref ke, .ref ik, .ref mrf, .long mab, .long mbl, .ref ha, .ref r0, .ref mbr, .ref mbp, .ref mby, .int (nI bl), .int (nI ta), .int (nI tl), .int (nI tk), .int vv, .ref an, .ref va])), (to, .inl (y 0, 228, .inl ft)), (ha, .inl (y 0, 30, .inl u.1)), (r0, .inl (y 0, 6, .inl u.2))]) A) A) [.ref mo, .int (nI k), .int (nI n), .int x].toArray s 0 0 A) (F0 mZ 21 ls []) := by
    intro fuj91
    induction fuj91 with
    | zero => intro j91 x53 x54 x55 x56 H locs ls hj9 hf9; exact absurd hf9 (Nat.not_lt_zero _)
    | succ fuj91 ihj91 =>
      intro j91 x53 x54 x55 x56 H locs ls hj91 hfj91 hr_x55 hk_x55_0 hk_x55_1 hn_x53 hP hD hS hl
      refine lv_iload hx hb dX11_roundBy_21 (lv_at hl 0 rfl) ?_
      refine lv_iload_n hx hb dX11_roundBy_23 rfl (lv_at hl 5 rfl) ?_
      refine lv_icmp_ge (tgt := 148) hx hb dX11_roundBy_24 (by decide) (fun h99 => ?_) (fun h100 => ?_)
      · skip
        have h99 : n ≤ j91 := (nI_leI (a := n) (b := j91) (by omega) (by omega)).mp h99
        refine lv_iload hx hb dX11_roundBy_148 (lv_at hl 1 rfl) ?_
        exact W.iret (v := x56) hx hb hr (fun tZ ht hW => ⟨⟨x56, (x55, x54), rfl, hr_x55, by rw [ht]; exact hP.sub [1, 2, 3, 0] rfl, hD.sub [1, 2, 3, 0] (by decide) rfl⟩, hS.F ht⟩) hS.2.2 dX11_roundBy_150
      · skip
        have h100 : ¬ n ≤ j91 := fun q9 => h100 ((nI_leI (a := n) (b := j91) (by omega) (by omega)).mpr q9)
        refine lv_iload_n hx hb dX11_roundBy_27 rfl (lv_at hl 6 rfl) ?_
        refine lv_iload_n hx hb dX11_roundBy_28 rfl (lv_at hl 5 rfl) ?_
        refine lv_iconst (v := 1) hx hb dX11_roundBy_29 (by decide) ?_
        refine lv_isub hx hb dX11_roundBy_30 ?_
        rw [show (nI n) - 1 = nI (n - 1) from pk_sub (a := n) (b := 1) (by omega)]
        refine lv_iload hx hb dX11_roundBy_31 (lv_at hl 0 rfl) ?_
        refine lv_isub hx hb dX11_roundBy_33 ?_
        rw [show (nI (n - 1)) - (nI j91) = nI ((n - 1) - j91) from pk_sub (a := (n - 1)) (b := j91) (by omega)]
        have hs101 : kw_Split [(r0, .inl (y 0, 6, .inl x54)), (mo, .inr (11, [.ref to, .ref ke, .ref ik, .ref mrf, .long mab, .long mbl, .ref ha, .ref r0, .ref mbr, .ref mbp, .ref mby, .int (nI bl), .int (nI ta), .int (nI tl), .int (nI tk), .int vv, .ref an, .ref va])), (to, .inl (y 0, 228, .inl ft)), (ha, .inl (y 0, 30, .inl x55))] [] [(r0, .inl (y 0, 6, .inl x54)), (mo, .inr (11, [.ref to, .ref ke, .ref ik, .ref mrf, .long mab, .long mbl, .ref ha, .ref r0, .ref mbr, .ref mbp, .ref mby, .int (nI bl), .int (nI ta), .int (nI tl), .int (nI tk), .int vv, .ref an, .ref va])), (to, .inl (y 0, 228, .inl ft)), (ha, .inl (y 0, 30, .inl x55))] [] [0, 1, 2, 3] := ⟨rfl, rfl, rfl, rfl, rfl, by decide⟩
        refine kw_go_i hs101 hP hD hS hA (va_runS (As := [.int (nI ((n - 1) - j91))]) (rest := [.int x]) ⟨hx, hb, hml, hown, hts⟩ (gr_pow l D y ((n - 1) - j91) (by omega) _) (va_cwS 1 hts gX11_roundBy_X11_powerOfThree rfl rfl rfl (by decide +kernel) ⟨Nat.le_of_ble_eq_true rfl, Nat.le_of_ble_eq_true rfl⟩) (kw_PreS hs101 hP hD hK hN) rfl rfl hl.1 rfl (lv_room (Nat.le_of_ble_eq_true rfl)) dX11_roundBy_34 ⟨Nat.le_of_ble_eq_true rfl, Nat.le_of_ble_eq_true rfl⟩) (fun r102 u103 H locs hq hP hD hS => ?_)
        have h104 := hq
        have hP : va_P D vwCl [(r0, .inl (y 0, 6, .inl x54)), (mo, .inr (11, [.ref to, .ref ke, .ref ik, .ref mrf, .long mab, .long mbl, .ref ha, .ref r0, .ref mbr, .ref mbp, .ref mby, .int (nI bl), .int (nI ta), .int (nI tl), .int (nI tk), .int vv, .ref an, .ref va])), (to, .inl (y 0, 228, .inl ft)), (ha, .inl (y 0, 30, .inl x55))] H := hP
        have hD : va_D A [(r0, .inl (y 0, 6, .inl x54)), (mo, .inr (11, [.ref to, .ref ke, .ref ik, .ref mrf, .long mab, .long mbl, .ref ha, .ref r0, .ref mbr, .ref mbp, .ref mby, .int (nI bl), .int (nI ta), .int (nI tl), .int (nI tk), .int vv, .ref an, .ref va])), (to, .inl (y 0, 228, .inl ft)), (ha, .inl (y 0, 30, .inl x55))] := hD
        refine lv_idiv hx hb dX11_roundBy_37 (h104) ?_
        refine lv_iconst (v := 3) hx hb dX11_roundBy_38 (by decide) ?_
        refine lv_irem hx hb dX11_roundBy_39 (by decide) ?_
        refine lv_iconst (v := 1) hx hb dX11_roundBy_40 (by decide) ?_
        refine lv_isub hx hb dX11_roundBy_41 ?_
        refine lv_istore (lv' := [(7, .int (((x / r102) - (x / r102) / 3 * 3) - 1)), (6, .int (nI j91)), (5, .int x56), (4, .int (nI x53)), (0, .ref mo), (1, .int (nI k)), (2, .int (nI n)), (3, .int x)]) hx hb dX11_roundBy_42 hl (by decide) rfl (fun ls hl => ?_)
        refine lv_iload hx hb dX11_roundBy_44 (lv_at hl 0 rfl) ?_
        refine lv_if_ne (tgt := 71) hx hb dX11_roundBy_46 (by decide) (fun h105 => ?_) (fun h106 => ?_)
        · skip
          refine lv_iconst (v := 0) hx hb dX11_roundBy_71 (by decide) ?_
          refine lv_istore (lv' := [(8, .int 0), (7, .int (((x / r102) - (x / r102) / 3 * 3) - 1)), (6, .int (nI j91)), (5, .int x56), (4, .int (nI x53)), (0, .ref mo), (1, .int (nI k)), (2, .int (nI n)), (3, .int x)]) hx hb dX11_roundBy_72 hl (by decide) rfl (fun ls hl => ?_)
          refine lv_iload hx hb dX11_roundBy_74 (lv_at hl 4 rfl) ?_
          refine lv_iload hx hb dX11_roundBy_76 (lv_at hl 1 rfl) ?_
          refine lv_iadd hx hb dX11_roundBy_78 ?_
          refine lv_istore (lv' := [(4, .int ((nI x53) + (((x / r102) - (x / r102) / 3 * 3) - 1))), (8, .int 0), (7, .int (((x / r102) - (x / r102) / 3 * 3) - 1)), (6, .int (nI j91)), (5, .int x56), (0, .ref mo), (1, .int (nI k)), (2, .int (nI n)), (3, .int x)]) hx hb dX11_roundBy_79 hl (by decide) rfl (fun ls hl => ?_)
          generalize ((nI x53) + (((x / r102) - (x / r102) / 3 * 3) - 1)) = xg107 at hl
          have hl : lv_has ls 10 [(4, .int xg107), (8, .int 0), (7, .int (((x / r102) - (x / r102) / 3 * 3) - 1)), (6, .int (nI j91)), (5, .int x56), (0, .ref mo), (1, .int (nI k)), (2, .int (nI n)), (3, .int x)] := hl
          refine lv_aload_n hx hb dX11_roundBy_81 rfl (lv_at hl 5 rfl) ?_
          refine lv_iload hx hb dX11_roundBy_82 (lv_at hl 0 rfl) ?_
          have hs108 : kw_Split [(r0, .inl (y 0, 6, .inl x54)), (mo, .inr (11, [.ref to, .ref ke, .ref ik, .ref mrf, .long mab, .long mbl, .ref ha, .ref r0, .ref mbr, .ref mbp, .ref mby, .int (nI bl), .int (nI ta), .int (nI tl), .int (nI tk), .int vv, .ref an, .ref va])), (to, .inl (y 0, 228, .inl ft)), (ha, .inl (y 0, 30, .inl x55))] [(mo, .inr (11, [.ref to, .ref ke, .ref ik, .ref mrf, .long mab, .long mbl, .ref ha, .ref r0, .ref mbr, .ref mbp, .ref mby, .int (nI bl), .int (nI ta), .int (nI tl), .int (nI tk), .int vv, .ref an, .ref va])), (to, .inl (y 0, 228, .inl ft))] [(r0, .inl (y 0, 6, .inl x54)), (ha, .inl (y 0, 30, .inl x55))] [1, 2] [0, 3] := ⟨rfl, rfl, rfl, rfl, rfl, by decide⟩
          refine kw_go_i hs108 hP hD hS hA (va_runV (As := [.int xg107]) (rest := []) ⟨hx, hb, hml, hown, hts⟩ (gr_isField l D y mo to ke ik mrf ha r0 mbr mbp mby an va mab mbl bl ta tl tk vv ft fi gl mi no un xg107 hk0_ hk1_ hk2_ hk3_ hk4_ hkt hfi hgl hmi hno hun _) (cwV 1 hts gX11_roundBy_X11_isField rfl rfl rfl (by decide +kernel) ⟨Nat.le_of_ble_eq_true rfl, Nat.le_of_ble_eq_true rfl⟩) (kw_PreV (ci := 11) (q0 := 1) hs108 hP hD hK hN rfl rfl) rfl rfl hl.1 rfl (lv_room (Nat.le_of_ble_eq_true rfl)) dX11_roundBy_84 ⟨Nat.le_of_ble_eq_true rfl, Nat.le_of_ble_eq_true rfl⟩) (fun r109 u110 H locs hq hP hD hS => ?_)
          rcases hq with ⟨j111, h112, rfl, rfl⟩ | ⟨h113, rfl⟩
          · skip
            have hP : va_P D vwCl [(r0, .inl (y 0, 6, .inl x54)), (ha, .inl (y 0, 30, .inl x55)), (mo, .inr (11, [.ref to, .ref ke, .ref ik, .ref mrf, .long mab, .long mbl, .ref ha, .ref r0, .ref mbr, .ref mbp, .ref mby, .int (nI bl), .int (nI ta), .int (nI tl), .int (nI tk), .int vv, .ref an, .ref va])), (to, .inl (y 0, 228, .inl ft))] H := hP
            have hD : va_D A [(r0, .inl (y 0, 6, .inl x54)), (ha, .inl (y 0, 30, .inl x55)), (mo, .inr (11, [.ref to, .ref ke, .ref ik, .ref mrf, .long mab, .long mbl, .ref ha, .ref r0, .ref mbr, .ref mbp, .ref mby, .int (nI bl), .int (nI ta), .int (nI tl), .int (nI tk), .int vv, .ref an, .ref va])), (to, .inl (y 0, 228, .inl ft))] := hD
            refine lv_if_ne (tgt := 92) hx hb dX11_roundBy_87 (by decide) (fun _ => ?_) (fun h9 => absurd h9 (by decide))
            refine lv_aload_n hx hb dX11_roundBy_92 rfl (lv_at hl 5 rfl) ?_
            refine va_get (D := D) (ci := 11) (v := .ref ha) (C := RX11) (T := TX11) (N := 18) hx hb hts iw11 hown hK hP 2 rfl rfl 6 (by decide) fw2 (fun _ h9 => h9) rfl dX11_roundBy_93 ?_
            refine lv_iconst (v := 5) hx hb dX11_roundBy_96 (by decide) ?_
            refine lv_iload hx hb dX11_roundBy_97 (lv_at hl 0 rfl) ?_
            refine lv_iadd hx hb dX11_roundBy_99 ?_
            rw [show 5 + (nI j111) = nI (j111 + 5) from (nI_add 5 j111).trans (congrArg nI (by omega))]
            refine va_iald hx hb hK hP 1 0 rfl rfl (vp_in_nI (by omega) (by decide)) dX11_roundBy_100 ?_
            rw [nI_clamp (n := (j111 + 5)) (by omega)]
            refine lv_iload hx hb dX11_roundBy_101 (lv_at hl 1 rfl) ?_
            refine lv_isub hx hb dX11_roundBy_103 ?_
            refine lv_istore (lv' := [(9, .int ((x55 (j111 + 5)) - 0)), (4, .int (nI j111)), (8, .int 0), (7, .int (((x / r102) - (x / r102) / 3 * 3) - 1)), (6, .int (nI j91)), (5, .int x56), (0, .ref mo), (1, .int (nI k)), (2, .int (nI n)), (3, .int x)]) hx hb dX11_roundBy_104 hl (by decide) rfl (fun ls hl => ?_)
            refine lv_aload_n hx hb dX11_roundBy_106 rfl (lv_at hl 6 rfl) ?_
            refine va_get (D := D) (ci := 11) (v := .ref ha) (C := RX11) (T := TX11) (N := 18) hx hb hts iw11 hown hK hP 2 rfl rfl 6 (by decide) fw2 (fun _ h9 => h9) rfl dX11_roundBy_107 ?_
            refine lv_iconst (v := 5) hx hb dX11_roundBy_110 (by decide) ?_
            refine lv_iload hx hb dX11_roundBy_111 (lv_at hl 1 rfl) ?_
            refine lv_iadd hx hb dX11_roundBy_113 ?_
            rw [show 5 + (nI j111) = nI (j111 + 5) from (nI_add 5 j111).trans (congrArg nI (by omega))]
            refine lv_iload hx hb dX11_roundBy_114 (lv_at hl 0 rfl) ?_
            refine lv_if_ge (tgt := 123) hx hb dX11_roundBy_116 (by decide) (fun h114 => ?_) (fun h115 => ?_)
            · skip
              refine lv_iload hx hb dX11_roundBy_123 (lv_at hl 0 rfl) ?_
              refine va_iast hx hb hK hP hD hS 1 0 rfl rfl (vp_in_nI (by omega) (by decide)) dX11_roundBy_125 (fun H locs hP hD hS => ?_)
              rw [nI_clamp (n := (j111 + 5)) (by omega)] at hP hD
              have hr116 : kr_t 30 (upd x55 (j111 + 5) ((x55 (j111 + 5)) - 0)) := kr_up hr_x55 (kr_free (by unfold kr_a; omega) (by unfold kr_s; omega))
              have hk117 : (upd x55 (j111 + 5) ((x55 (j111 + 5)) - 0)) 0 = (nI fi) := (pk_un (by omega)).trans hk_x55_0
              have hk118 : (upd x55 (j111 + 5) ((x55 (j111 + 5)) - 0)) 1 = (nI gl) := (pk_un (by omega)).trans hk_x55_1
              have hP : va_P D vwCl [(r0, .inl (y 0, 6, .inl x54)), (ha, .inl (y 0, 30, .inl (upd x55 (j111 + 5) ((x55 (j111 + 5)) - 0)))), (mo, .inr (11, [.ref to, .ref ke, .ref ik, .ref mrf, .long mab, .long mbl, .ref ha, .ref r0, .ref mbr, .ref mbp, .ref mby, .int (nI bl), .int (nI ta), .int (nI tl), .int (nI tk), .int vv, .ref an, .ref va])), (to, .inl (y 0, 228, .inl ft))] H := hP
              have hD : va_D A [(r0, .inl (y 0, 6, .inl x54)), (ha, .inl (y 0, 30, .inl (upd x55 (j111 + 5) ((x55 (j111 + 5)) - 0)))), (mo, .inr (11, [.ref to, .ref ke, .ref ik, .ref mrf, .long mab, .long mbl, .ref ha, .ref r0, .ref mbr, .ref mbp, .ref mby, .int (nI bl), .int (nI ta), .int (nI tl), .int (nI tk), .int vv, .ref an, .ref va])), (to, .inl (y 0, 228, .inl ft))] := hD
              refine lv_iload hx hb dX11_roundBy_126 (lv_at hl 5 rfl) ?_
              refine lv_iload hx hb dX11_roundBy_128 (lv_at hl 2 rfl) ?_
              refine lv_iadd hx hb dX11_roundBy_130 ?_
              refine lv_istore (lv' := [(5, .int (x56 + 0)), (9, .int ((x55 (j111 + 5)) - 0)), (4, .int (nI j111)), (8, .int 0), (7, .int (((x / r102) - (x / r102) / 3 * 3) - 1)), (6, .int (nI j91)), (0, .ref mo), (1, .int (nI k)), (2, .int (nI n)), (3, .int x)]) hx hb dX11_roundBy_131 hl (by decide) rfl (fun ls hl => ?_)
              refine lv_aload_n hx hb dX11_roundBy_133 rfl (lv_at hl 6 rfl) ?_
              refine va_get (D := D) (ci := 11) (v := .ref r0) (C := RX11) (T := TX11) (N := 18) hx hb hts iw11 hown hK hP 2 rfl rfl 7 (by decide) fw3 (fun _ h9 => h9) rfl dX11_roundBy_134 ?_
              refine lv_iload hx hb dX11_roundBy_137 (lv_at hl 5 rfl) ?_
              refine lv_iload hx hb dX11_roundBy_139 (lv_at hl 2 rfl) ?_
              refine va_iast hx hb hK hP hD hS 0 0 rfl rfl (vp_in_nI (by omega) (by decide)) dX11_roundBy_141 (fun H locs hP hD hS => ?_)
              rw [nI_clamp (n := j91) (by omega)] at hP hD
              have hP : va_P D vwCl [(r0, .inl (y 0, 6, .inl (upd x54 j91 (nI j111)))), (ha, .inl (y 0, 30, .inl (upd x55 (j111 + 5) ((x55 (j111 + 5)) - 0)))), (mo, .inr (11, [.ref to, .ref ke, .ref ik, .ref mrf, .long mab, .long mbl, .ref ha, .ref r0, .ref mbr, .ref mbp, .ref mby, .int (nI bl), .int (nI ta), .int (nI tl), .int (nI tk), .int vv, .ref an, .ref va])), (to, .inl (y 0, 228, .inl ft))] H := hP
              have hD : va_D A [(r0, .inl (y 0, 6, .inl (upd x54 j91 (nI j111)))), (ha, .inl (y 0, 30, .inl (upd x55 (j111 + 5) ((x55 (j111 + 5)) - 0)))), (mo, .inr (11, [.ref to, .ref ke, .ref ik, .ref mrf, .long mab, .long mbl, .ref ha, .ref r0, .ref mbr, .ref mbp, .ref mby, .int (nI bl), .int (nI ta), .int (nI tl), .int (nI tk), .int vv, .ref an, .ref va])), (to, .inl (y 0, 228, .inl ft))] := hD
              refine lv_iinc (v := (nI (j91 + 1))) (lv' := [(6, .int (nI (j91 + 1))), (5, .int (x56 + 0)), (9, .int ((x55 (j111 + 5)) - 0)), (4, .int (nI j111)), (8, .int 0), (7, .int (((x / r102) - (x / r102) / 3 * 3) - 1)), (0, .ref mo), (1, .int (nI k)), (2, .int (nI n)), (3, .int x)]) hx hb dX11_roundBy_142 hl (k := 5) rfl (nI_1 j91) (by decide) rfl (fun ls hl => ?_)
              refine lv_goto (tgt := 21) hx hb dX11_roundBy_145 (by decide) ?_
              exact ihj91 (j91 + 1) j111 (upd x54 j91 (nI j111)) (upd x55 (j111 + 5) ((x55 (j111 + 5)) - 0)) (x56 + 0) H locs ls (by omega) (by omega) hr116 hk117 hk118 (by omega) (hP.sub [0, 2, 3, 1] rfl) (hD.sub [0, 2, 3, 1] (by decide) rfl) hS (lv_sub hl [0, 1, 3, 6, 7, 8, 9] rfl)
            · skip
              refine lv_iconst (v := 0) hx hb dX11_roundBy_119 (by decide) ?_
              refine lv_goto (tgt := 125) hx hb dX11_roundBy_120 (by decide) ?_
              refine va_iast hx hb hK hP hD hS 1 0 rfl rfl (vp_in_nI (by omega) (by decide)) dX11_roundBy_125 (fun H locs hP hD hS => ?_)
              rw [nI_clamp (n := (j111 + 5)) (by omega)] at hP hD
              have hr119 : kr_t 30 (upd x55 (j111 + 5) 0) := kr_up hr_x55 (kr_ok0)
              have hk120 : (upd x55 (j111 + 5) 0) 0 = (nI fi) := (pk_un (by omega)).trans hk_x55_0
              have hk121 : (upd x55 (j111 + 5) 0) 1 = (nI gl) := (pk_un (by omega)).trans hk_x55_1
              have hP : va_P D vwCl [(r0, .inl (y 0, 6, .inl x54)), (ha, .inl (y 0, 30, .inl (upd x55 (j111 + 5) 0))), (mo, .inr (11, [.ref to, .ref ke, .ref ik, .ref mrf, .long mab, .long mbl, .ref ha, .ref r0, .ref mbr, .ref mbp, .ref mby, .int (nI bl), .int (nI ta), .int (nI tl), .int (nI tk), .int vv, .ref an, .ref va])), (to, .inl (y 0, 228, .inl ft))] H := hP
              have hD : va_D A [(r0, .inl (y 0, 6, .inl x54)), (ha, .inl (y 0, 30, .inl (upd x55 (j111 + 5) 0))), (mo, .inr (11, [.ref to, .ref ke, .ref ik, .ref mrf, .long mab, .long mbl, .ref ha, .ref r0, .ref mbr, .ref mbp, .ref mby, .int (nI bl), .int (nI ta), .int (nI tl), .int (nI tk), .int vv, .ref an, .ref va])), (to, .inl (y 0, 228, .inl ft))] := hD
              refine lv_iload hx hb dX11_roundBy_126 (lv_at hl 5 rfl) ?_
              refine lv_iload hx hb dX11_roundBy_128 (lv_at hl 2 rfl) ?_
              refine lv_iadd hx hb dX11_roundBy_130 ?_
              refine lv_istore (lv' := [(5, .int (x56 + 0)), (9, .int ((x55 (j111 + 5)) - 0)), (4, .int (nI j111)), (8, .int 0), (7, .int (((x / r102) - (x / r102) / 3 * 3) - 1)), (6, .int (nI j91)), (0, .ref mo), (1, .int (nI k)), (2, .int (nI n)), (3, .int x)]) hx hb dX11_roundBy_131 hl (by decide) rfl (fun ls hl => ?_)
              refine lv_aload_n hx hb dX11_roundBy_133 rfl (lv_at hl 6 rfl) ?_
              refine va_get (D := D) (ci := 11) (v := .ref r0) (C := RX11) (T := TX11) (N := 18) hx hb hts iw11 hown hK hP 2 rfl rfl 7 (by decide) fw3 (fun _ h9 => h9) rfl dX11_roundBy_134 ?_
              refine lv_iload hx hb dX11_roundBy_137 (lv_at hl 5 rfl) ?_
              refine lv_iload hx hb dX11_roundBy_139 (lv_at hl 2 rfl) ?_
              refine va_iast hx hb hK hP hD hS 0 0 rfl rfl (vp_in_nI (by omega) (by decide)) dX11_roundBy_141 (fun H locs hP hD hS => ?_)
              rw [nI_clamp (n := j91) (by omega)] at hP hD
              have hP : va_P D vwCl [(r0, .inl (y 0, 6, .inl (upd x54 j91 (nI j111)))), (ha, .inl (y 0, 30, .inl (upd x55 (j111 + 5) 0))), (mo, .inr (11, [.ref to, .ref ke, .ref ik, .ref mrf, .long mab, .long mbl, .ref ha, .ref r0, .ref mbr, .ref mbp, .ref mby, .int (nI bl), .int (nI ta), .int (nI tl), .int (nI tk), .int vv, .ref an, .ref va])), (to, .inl (y 0, 228, .inl ft))] H := hP
              have hD : va_D A [(r0, .inl (y 0, 6, .inl (upd x54 j91 (nI j111)))), (ha, .inl (y 0, 30, .inl (upd x55 (j111 + 5) 0))), (mo, .inr (11, [.ref to, .ref ke, .ref ik, .ref mrf, .long mab, .long mbl, .ref ha, .ref r0, .ref mbr, .ref mbp, .ref mby, .int (nI bl), .int (nI ta), .int (nI tl), .int (nI tk), .int vv, .ref an, .ref va])), (to, .inl (y 0, 228, .inl ft))] := hD
              refine lv_iinc (v := (nI (j91 + 1))) (lv' := [(6, .int (nI (j91 + 1))), (5, .int (x56 + 0)), (9, .int ((x55 (j111 + 5)) - 0)), (4, .int (nI j111)), (8, .int 0), (7, .int (((x / r102) - (x / r102) / 3 * 3) - 1)), (0, .ref mo), (1, .int (nI k)), (2, .int (nI n)), (3, .int x)]) hx hb dX11_roundBy_142 hl (k := 5) rfl (nI_1 j91) (by decide) rfl (fun ls hl => ?_)
              refine lv_goto (tgt := 21) hx hb dX11_roundBy_145 (by decide) ?_
              exact ihj91 (j91 + 1) j111 (upd x54 j91 (nI j111)) (upd x55 (j111 + 5) 0) (x56 + 0) H locs ls (by omega) (by omega) hr119 hk120 hk121 (by omega) (hP.sub [0, 2, 3, 1] rfl) (hD.sub [0, 2, 3, 1] (by decide) rfl) hS (lv_sub hl [0, 1, 3, 6, 7, 8, 9] rfl)
          · skip
            have hP : va_P D vwCl [(r0, .inl (y 0, 6, .inl x54)), (ha, .inl (y 0, 30, .inl x55)), (mo, .inr (11, [.ref to, .ref ke, .ref ik, .ref mrf, .long mab, .long mbl, .ref ha, .ref r0, .ref mbr, .ref mbp, .ref mby, .int (nI bl), .int (nI ta), .int (nI tl), .int (nI tk), .int vv, .ref an, .ref va])), (to, .inl (y 0, 228, .inl ft))] H := hP
            have hD : va_D A [(r0, .inl (y 0, 6, .inl x54)), (ha, .inl (y 0, 30, .inl x55)), (mo, .inr (11, [.ref to, .ref ke, .ref ik, .ref mrf, .long mab, .long mbl, .ref ha, .ref r0, .ref mbr, .ref mbp, .ref mby, .int (nI bl), .int (nI ta), .int (nI tl), .int (nI tk), .int vv, .ref an, .ref va])), (to, .inl (y 0, 228, .inl ft))] := hD
            refine lv_if_ne (tgt := 92) hx hb dX11_roundBy_87 (by decide) (fun h9 => absurd h9 (by decide)) (fun _ => ?_)
            refine lv_iconst (v := (-1)) hx hb dX11_roundBy_90 (by decide) ?_
            exact W.iret (v := (-1)) hx hb hr (fun tZ ht hW => ⟨⟨(-1), (x55, x54), rfl, hr_x55, by rw [ht]; exact hP.sub [2, 3, 1, 0] rfl, hD.sub [2, 3, 1, 0] (by decide) rfl⟩, hS.F ht⟩) hS.2.2 dX11_roundBy_91
        · skip
          refine lv_aload_n hx hb dX11_roundBy_49 rfl (lv_at hl 4 rfl) ?_
          refine va_get (D := D) (ci := 11) (v := .ref ha) (C := RX11) (T := TX11) (N := 18) hx hb hts iw11 hown hK hP 1 rfl rfl 6 (by decide) fw2 (fun _ h9 => h9) rfl dX11_roundBy_50 ?_
          refine lv_iload hx hb dX11_roundBy_53 (lv_at hl 3 rfl) ?_
          refine lv_aload_n hx hb dX11_roundBy_55 rfl (lv_at hl 4 rfl) ?_
          refine va_get (D := D) (ci := 11) (v := .ref ha) (C := RX11) (T := TX11) (N := 18) hx hb hts iw11 hown hK hP 1 rfl rfl 6 (by decide) fw2 (fun _ h9 => h9) rfl dX11_roundBy_56 ?_
          refine lv_bipush (v := 21) hx hb dX11_roundBy_59 (by decide) ?_
          refine va_iald hx hb hK hP 3 0 rfl rfl (by unfold vp_in; decide) dX11_roundBy_61 ?_
          rw [show ((21 : Int32)).toNatClampNeg = 21 from rfl]
          refine lv_iload hx hb dX11_roundBy_62 (lv_at hl 1 rfl) ?_
          refine lv_iadd hx hb dX11_roundBy_64 ?_
          have hs122 : kw_Split [(r0, .inl (y 0, 6, .inl x54)), (mo, .inr (11, [.ref to, .ref ke, .ref ik, .ref mrf, .long mab, .long mbl, .ref ha, .ref r0, .ref mbr, .ref mbp, .ref mby, .int (nI bl), .int (nI ta), .int (nI tl), .int (nI tk), .int vv, .ref an, .ref va])), (to, .inl (y 0, 228, .inl ft)), (ha, .inl (y 0, 30, .inl x55))] [(ha, .inl (y 0, 30, .inl x55))] [(r0, .inl (y 0, 6, .inl x54)), (mo, .inr (11, [.ref to, .ref ke, .ref ik, .ref mrf, .long mab, .long mbl, .ref ha, .ref r0, .ref mbr, .ref mbp, .ref mby, .int (nI bl), .int (nI ta), .int (nI tl), .int (nI tk), .int vv, .ref an, .ref va])), (to, .inl (y 0, 228, .inl ft))] [3] [0, 1, 2] := ⟨rfl, rfl, rfl, rfl, rfl, by decide⟩
          refine kw_go_i hs122 hP hD hS hA (va_runS (As := [.ref ha, .int (nI x53), .int ((x55 21) + (nI j91))]) (rest := []) ⟨hx, hb, hml, hown, hts⟩ (gr_seenOn30 l D y ha x55 fi gl x53 ((x55 21) + (nI j91)) hk_x55_0 hk_x55_1 hr_x55 hfi hgl (by omega) _) (va_cwS 3 hts gX11_roundBy_X11_seenOn rfl rfl rfl (by decide +kernel) ⟨Nat.le_of_ble_eq_true rfl, Nat.le_of_ble_eq_true rfl⟩) (kw_PreS hs122 hP hD hK hN) rfl rfl hl.1 rfl (lv_room (Nat.le_of_ble_eq_true rfl)) dX11_roundBy_65 ⟨Nat.le_of_ble_eq_true rfl, Nat.le_of_ble_eq_true rfl⟩) (fun r123 u124 H locs hq hP hD hS => ?_)
          have hP : va_P D vwCl [(r0, .inl (y 0, 6, .inl x54)), (mo, .inr (11, [.ref to, .ref ke, .ref ik, .ref mrf, .long mab, .long mbl, .ref ha, .ref r0, .ref mbr, .ref mbp, .ref mby, .int (nI bl), .int (nI ta), .int (nI tl), .int (nI tk), .int vv, .ref an, .ref va])), (to, .inl (y 0, 228, .inl ft)), (ha, .inl (y 0, 30, .inl x55))] H := hP
          have hD : va_D A [(r0, .inl (y 0, 6, .inl x54)), (mo, .inr (11, [.ref to, .ref ke, .ref ik, .ref mrf, .long mab, .long mbl, .ref ha, .ref r0, .ref mbr, .ref mbp, .ref mby, .int (nI bl), .int (nI ta), .int (nI tl), .int (nI tk), .int vv, .ref an, .ref va])), (to, .inl (y 0, 228, .inl ft)), (ha, .inl (y 0, 30, .inl x55))] := hD
          refine lv_goto (tgt := 72) hx hb dX11_roundBy_68 (by decide) ?_
          refine lv_istore (lv' := [(8, .int r123), (7, .int (((x / r102) - (x / r102) / 3 * 3) - 1)), (6, .int (nI j91)), (5, .int x56), (4, .int (nI x53)), (0, .ref mo), (1, .int (nI k)), (2, .int (nI n)), (3, .int x)]) hx hb dX11_roundBy_72 hl (by decide) rfl (fun ls hl => ?_)
          refine lv_iload hx hb dX11_roundBy_74 (lv_at hl 4 rfl) ?_
          refine lv_iload hx hb dX11_roundBy_76 (lv_at hl 1 rfl) ?_
          refine lv_iadd hx hb dX11_roundBy_78 ?_
          refine lv_istore (lv' := [(4, .int ((nI x53) + (((x / r102) - (x / r102) / 3 * 3) - 1))), (8, .int r123), (7, .int (((x / r102) - (x / r102) / 3 * 3) - 1)), (6, .int (nI j91)), (5, .int x56), (0, .ref mo), (1, .int (nI k)), (2, .int (nI n)), (3, .int x)]) hx hb dX11_roundBy_79 hl (by decide) rfl (fun ls hl => ?_)
          generalize ((nI x53) + (((x / r102) - (x / r102) / 3 * 3) - 1)) = xg125 at hl
          have hl : lv_has ls 10 [(4, .int xg125), (8, .int r123), (7, .int (((x / r102) - (x / r102) / 3 * 3) - 1)), (6, .int (nI j91)), (5, .int x56), (0, .ref mo), (1, .int (nI k)), (2, .int (nI n)), (3, .int x)] := hl
          refine lv_aload_n hx hb dX11_roundBy_81 rfl (lv_at hl 5 rfl) ?_
          refine lv_iload hx hb dX11_roundBy_82 (lv_at hl 0 rfl) ?_
          have hs126 : kw_Split [(r0, .inl (y 0, 6, .inl x54)), (mo, .inr (11, [.ref to, .ref ke, .ref ik, .ref mrf, .long mab, .long mbl, .ref ha, .ref r0, .ref mbr, .ref mbp, .ref mby, .int (nI bl), .int (nI ta), .int (nI tl), .int (nI tk), .int vv, .ref an, .ref va])), (to, .inl (y 0, 228, .inl ft)), (ha, .inl (y 0, 30, .inl x55))] [(mo, .inr (11, [.ref to, .ref ke, .ref ik, .ref mrf, .long mab, .long mbl, .ref ha, .ref r0, .ref mbr, .ref mbp, .ref mby, .int (nI bl), .int (nI ta), .int (nI tl), .int (nI tk), .int vv, .ref an, .ref va])), (to, .inl (y 0, 228, .inl ft))] [(r0, .inl (y 0, 6, .inl x54)), (ha, .inl (y 0, 30, .inl x55))] [1, 2] [0, 3] := ⟨rfl, rfl, rfl, rfl, rfl, by decide⟩
          refine kw_go_i hs126 hP hD hS hA (va_runV (As := [.int xg125]) (rest := []) ⟨hx, hb, hml, hown, hts⟩ (gr_isField l D y mo to ke ik mrf ha r0 mbr mbp mby an va mab mbl bl ta tl tk vv ft fi gl mi no un xg125 hk0_ hk1_ hk2_ hk3_ hk4_ hkt hfi hgl hmi hno hun _) (cwV 1 hts gX11_roundBy_X11_isField rfl rfl rfl (by decide +kernel) ⟨Nat.le_of_ble_eq_true rfl, Nat.le_of_ble_eq_true rfl⟩) (kw_PreV (ci := 11) (q0 := 1) hs126 hP hD hK hN rfl rfl) rfl rfl hl.1 rfl (lv_room (Nat.le_of_ble_eq_true rfl)) dX11_roundBy_84 ⟨Nat.le_of_ble_eq_true rfl, Nat.le_of_ble_eq_true rfl⟩) (fun r127 u128 H locs hq hP hD hS => ?_)
          rcases hq with ⟨j129, h130, rfl, rfl⟩ | ⟨h131, rfl⟩
          · skip
            have hP : va_P D vwCl [(r0, .inl (y 0, 6, .inl x54)), (ha, .inl (y 0, 30, .inl x55)), (mo, .inr (11, [.ref to, .ref ke, .ref ik, .ref mrf, .long mab, .long mbl, .ref ha, .ref r0, .ref mbr, .ref mbp, .ref mby, .int (nI bl), .int (nI ta), .int (nI tl), .int (nI tk), .int vv, .ref an, .ref va])), (to, .inl (y 0, 228, .inl ft))] H := hP
            have hD : va_D A [(r0, .inl (y 0, 6, .inl x54)), (ha, .inl (y 0, 30, .inl x55)), (mo, .inr (11, [.ref to, .ref ke, .ref ik, .ref mrf, .long mab, .long mbl, .ref ha, .ref r0, .ref mbr, .ref mbp, .ref mby, .int (nI bl), .int (nI ta), .int (nI tl), .int (nI tk), .int vv, .ref an, .ref va])), (to, .inl (y 0, 228, .inl ft))] := hD
            refine lv_if_ne (tgt := 92) hx hb dX11_roundBy_87 (by decide) (fun _ => ?_) (fun h9 => absurd h9 (by decide))
            refine lv_aload_n hx hb dX11_roundBy_92 rfl (lv_at hl 5 rfl) ?_
            refine va_get (D := D) (ci := 11) (v := .ref ha) (C := RX11) (T := TX11) (N := 18) hx hb hts iw11 hown hK hP 2 rfl rfl 6 (by decide) fw2 (fun _ h9 => h9) rfl dX11_roundBy_93 ?_
            refine lv_iconst (v := 5) hx hb dX11_roundBy_96 (by decide) ?_
            refine lv_iload hx hb dX11_roundBy_97 (lv_at hl 0 rfl) ?_
            refine lv_iadd hx hb dX11_roundBy_99 ?_
            rw [show 5 + (nI j129) = nI (j129 + 5) from (nI_add 5 j129).trans (congrArg nI (by omega))]
            refine va_iald hx hb hK hP 1 0 rfl rfl (vp_in_nI (by omega) (by decide)) dX11_roundBy_100 ?_
            rw [nI_clamp (n := (j129 + 5)) (by omega)]
            refine lv_iload hx hb dX11_roundBy_101 (lv_at hl 1 rfl) ?_
            refine lv_isub hx hb dX11_roundBy_103 ?_
            refine lv_istore (lv' := [(9, .int ((x55 (j129 + 5)) - r123)), (4, .int (nI j129)), (8, .int r123), (7, .int (((x / r102) - (x / r102) / 3 * 3) - 1)), (6, .int (nI j91)), (5, .int x56), (0, .ref mo), (1, .int (nI k)), (2, .int (nI n)), (3, .int x)]) hx hb dX11_roundBy_104 hl (by decide) rfl (fun ls hl => ?_)
            refine lv_aload_n hx hb dX11_roundBy_106 rfl (lv_at hl 6 rfl) ?_
            refine va_get (D := D) (ci := 11) (v := .ref ha) (C := RX11) (T := TX11) (N := 18) hx hb hts iw11 hown hK hP 2 rfl rfl 6 (by decide) fw2 (fun _ h9 => h9) rfl dX11_roundBy_107 ?_
            refine lv_iconst (v := 5) hx hb dX11_roundBy_110 (by decide) ?_
            refine lv_iload hx hb dX11_roundBy_111 (lv_at hl 1 rfl) ?_
            refine lv_iadd hx hb dX11_roundBy_113 ?_
            rw [show 5 + (nI j129) = nI (j129 + 5) from (nI_add 5 j129).trans (congrArg nI (by omega))]
            refine lv_iload hx hb dX11_roundBy_114 (lv_at hl 0 rfl) ?_
            refine lv_if_ge (tgt := 123) hx hb dX11_roundBy_116 (by decide) (fun h132 => ?_) (fun h133 => ?_)
            · skip
              refine lv_iload hx hb dX11_roundBy_123 (lv_at hl 0 rfl) ?_
              refine va_iast hx hb hK hP hD hS 1 0 rfl rfl (vp_in_nI (by omega) (by decide)) dX11_roundBy_125 (fun H locs hP hD hS => ?_)
              rw [nI_clamp (n := (j129 + 5)) (by omega)] at hP hD
              have hr134 : kr_t 30 (upd x55 (j129 + 5) ((x55 (j129 + 5)) - r123)) := kr_up hr_x55 (kr_free (by unfold kr_a; omega) (by unfold kr_s; omega))
              have hk135 : (upd x55 (j129 + 5) ((x55 (j129 + 5)) - r123)) 0 = (nI fi) := (pk_un (by omega)).trans hk_x55_0
              have hk136 : (upd x55 (j129 + 5) ((x55 (j129 + 5)) - r123)) 1 = (nI gl) := (pk_un (by omega)).trans hk_x55_1
              have hP : va_P D vwCl [(r0, .inl (y 0, 6, .inl x54)), (ha, .inl (y 0, 30, .inl (upd x55 (j129 + 5) ((x55 (j129 + 5)) - r123)))), (mo, .inr (11, [.ref to, .ref ke, .ref ik, .ref mrf, .long mab, .long mbl, .ref ha, .ref r0, .ref mbr, .ref mbp, .ref mby, .int (nI bl), .int (nI ta), .int (nI tl), .int (nI tk), .int vv, .ref an, .ref va])), (to, .inl (y 0, 228, .inl ft))] H := hP
              have hD : va_D A [(r0, .inl (y 0, 6, .inl x54)), (ha, .inl (y 0, 30, .inl (upd x55 (j129 + 5) ((x55 (j129 + 5)) - r123)))), (mo, .inr (11, [.ref to, .ref ke, .ref ik, .ref mrf, .long mab, .long mbl, .ref ha, .ref r0, .ref mbr, .ref mbp, .ref mby, .int (nI bl), .int (nI ta), .int (nI tl), .int (nI tk), .int vv, .ref an, .ref va])), (to, .inl (y 0, 228, .inl ft))] := hD
              refine lv_iload hx hb dX11_roundBy_126 (lv_at hl 5 rfl) ?_
              refine lv_iload hx hb dX11_roundBy_128 (lv_at hl 2 rfl) ?_
              refine lv_iadd hx hb dX11_roundBy_130 ?_
              refine lv_istore (lv' := [(5, .int (x56 + r123)), (9, .int ((x55 (j129 + 5)) - r123)), (4, .int (nI j129)), (8, .int r123), (7, .int (((x / r102) - (x / r102) / 3 * 3) - 1)), (6, .int (nI j91)), (0, .ref mo), (1, .int (nI k)), (2, .int (nI n)), (3, .int x)]) hx hb dX11_roundBy_131 hl (by decide) rfl (fun ls hl => ?_)
              refine lv_aload_n hx hb dX11_roundBy_133 rfl (lv_at hl 6 rfl) ?_
              refine va_get (D := D) (ci := 11) (v := .ref r0) (C := RX11) (T := TX11) (N := 18) hx hb hts iw11 hown hK hP 2 rfl rfl 7 (by decide) fw3 (fun _ h9 => h9) rfl dX11_roundBy_134 ?_
              refine lv_iload hx hb dX11_roundBy_137 (lv_at hl 5 rfl) ?_
              refine lv_iload hx hb dX11_roundBy_139 (lv_at hl 2 rfl) ?_
              refine va_iast hx hb hK hP hD hS 0 0 rfl rfl (vp_in_nI (by omega) (by decide)) dX11_roundBy_141 (fun H locs hP hD hS => ?_)
              rw [nI_clamp (n := j91) (by omega)] at hP hD
              have hP : va_P D vwCl [(r0, .inl (y 0, 6, .inl (upd x54 j91 (nI j129)))), (ha, .inl (y 0, 30, .inl (upd x55 (j129 + 5) ((x55 (j129 + 5)) - r123)))), (mo, .inr (11, [.ref to, .ref ke, .ref ik, .ref mrf, .long mab, .long mbl, .ref ha, .ref r0, .ref mbr, .ref mbp, .ref mby, .int (nI bl), .int (nI ta), .int (nI tl), .int (nI tk), .int vv, .ref an, .ref va])), (to, .inl (y 0, 228, .inl ft))] H := hP
              have hD : va_D A [(r0, .inl (y 0, 6, .inl (upd x54 j91 (nI j129)))), (ha, .inl (y 0, 30, .inl (upd x55 (j129 + 5) ((x55 (j129 + 5)) - r123)))), (mo, .inr (11, [.ref to, .ref ke, .ref ik, .ref mrf, .long mab, .long mbl, .ref ha, .ref r0, .ref mbr, .ref mbp, .ref mby, .int (nI bl), .int (nI ta), .int (nI tl), .int (nI tk), .int vv, .ref an, .ref va])), (to, .inl (y 0, 228, .inl ft))] := hD
              refine lv_iinc (v := (nI (j91 + 1))) (lv' := [(6, .int (nI (j91 + 1))), (5, .int (x56 + r123)), (9, .int ((x55 (j129 + 5)) - r123)), (4, .int (nI j129)), (8, .int r123), (7, .int (((x / r102) - (x / r102) / 3 * 3) - 1)), (0, .ref mo), (1, .int (nI k)), (2, .int (nI n)), (3, .int x)]) hx hb dX11_roundBy_142 hl (k := 5) rfl (nI_1 j91) (by decide) rfl (fun ls hl => ?_)
              refine lv_goto (tgt := 21) hx hb dX11_roundBy_145 (by decide) ?_
              exact ihj91 (j91 + 1) j129 (upd x54 j91 (nI j129)) (upd x55 (j129 + 5) ((x55 (j129 + 5)) - r123)) (x56 + r123) H locs ls (by omega) (by omega) hr134 hk135 hk136 (by omega) (hP.sub [0, 2, 3, 1] rfl) (hD.sub [0, 2, 3, 1] (by decide) rfl) hS (lv_sub hl [0, 1, 3, 6, 7, 8, 9] rfl)
            · skip
              refine lv_iconst (v := 0) hx hb dX11_roundBy_119 (by decide) ?_
              refine lv_goto (tgt := 125) hx hb dX11_roundBy_120 (by decide) ?_
              refine va_iast hx hb hK hP hD hS 1 0 rfl rfl (vp_in_nI (by omega) (by decide)) dX11_roundBy_125 (fun H locs hP hD hS => ?_)
              rw [nI_clamp (n := (j129 + 5)) (by omega)] at hP hD
              have hr137 : kr_t 30 (upd x55 (j129 + 5) 0) := kr_up hr_x55 (kr_ok0)
              have hk138 : (upd x55 (j129 + 5) 0) 0 = (nI fi) := (pk_un (by omega)).trans hk_x55_0
              have hk139 : (upd x55 (j129 + 5) 0) 1 = (nI gl) := (pk_un (by omega)).trans hk_x55_1
              have hP : va_P D vwCl [(r0, .inl (y 0, 6, .inl x54)), (ha, .inl (y 0, 30, .inl (upd x55 (j129 + 5) 0))), (mo, .inr (11, [.ref to, .ref ke, .ref ik, .ref mrf, .long mab, .long mbl, .ref ha, .ref r0, .ref mbr, .ref mbp, .ref mby, .int (nI bl), .int (nI ta), .int (nI tl), .int (nI tk), .int vv, .ref an, .ref va])), (to, .inl (y 0, 228, .inl ft))] H := hP
              have hD : va_D A [(r0, .inl (y 0, 6, .inl x54)), (ha, .inl (y 0, 30, .inl (upd x55 (j129 + 5) 0))), (mo, .inr (11, [.ref to, .ref ke, .ref ik, .ref mrf, .long mab, .long mbl, .ref ha, .ref r0, .ref mbr, .ref mbp, .ref mby, .int (nI bl), .int (nI ta), .int (nI tl), .int (nI tk), .int vv, .ref an, .ref va])), (to, .inl (y 0, 228, .inl ft))] := hD
              refine lv_iload hx hb dX11_roundBy_126 (lv_at hl 5 rfl) ?_
              refine lv_iload hx hb dX11_roundBy_128 (lv_at hl 2 rfl) ?_
              refine lv_iadd hx hb dX11_roundBy_130 ?_
              refine lv_istore (lv' := [(5, .int (x56 + r123)), (9, .int ((x55 (j129 + 5)) - r123)), (4, .int (nI j129)), (8, .int r123), (7, .int (((x / r102) - (x / r102) / 3 * 3) - 1)), (6, .int (nI j91)), (0, .ref mo), (1, .int (nI k)), (2, .int (nI n)), (3, .int x)]) hx hb dX11_roundBy_131 hl (by decide) rfl (fun ls hl => ?_)
              refine lv_aload_n hx hb dX11_roundBy_133 rfl (lv_at hl 6 rfl) ?_
              refine va_get (D := D) (ci := 11) (v := .ref r0) (C := RX11) (T := TX11) (N := 18) hx hb hts iw11 hown hK hP 2 rfl rfl 7 (by decide) fw3 (fun _ h9 => h9) rfl dX11_roundBy_134 ?_
              refine lv_iload hx hb dX11_roundBy_137 (lv_at hl 5 rfl) ?_
              refine lv_iload hx hb dX11_roundBy_139 (lv_at hl 2 rfl) ?_
              refine va_iast hx hb hK hP hD hS 0 0 rfl rfl (vp_in_nI (by omega) (by decide)) dX11_roundBy_141 (fun H locs hP hD hS => ?_)
              rw [nI_clamp (n := j91) (by omega)] at hP hD
              have hP : va_P D vwCl [(r0, .inl (y 0, 6, .inl (upd x54 j91 (nI j129)))), (ha, .inl (y 0, 30, .inl (upd x55 (j129 + 5) 0))), (mo, .inr (11, [.ref to, .ref ke, .ref ik, .ref mrf, .long mab, .long mbl, .ref ha, .ref r0, .ref mbr, .ref mbp, .ref mby, .int (nI bl), .int (nI ta), .int (nI tl), .int (nI tk), .int vv, .ref an, .ref va])), (to, .inl (y 0, 228, .inl ft))] H := hP
              have hD : va_D A [(r0, .inl (y 0, 6, .inl (upd x54 j91 (nI j129)))), (ha, .inl (y 0, 30, .inl (upd x55 (j129 + 5) 0))), (mo, .inr (11, [.ref to, .ref ke, .ref ik, .ref mrf, .long mab, .long mbl, .ref ha, .ref r0, .ref mbr, .ref mbp, .ref mby, .int (nI bl), .int (nI ta), .int (nI tl), .int (nI tk), .int vv, .ref an, .ref va])), (to, .inl (y 0, 228, .inl ft))] := hD
              refine lv_iinc (v := (nI (j91 + 1))) (lv' := [(6, .int (nI (j91 + 1))), (5, .int (x56 + r123)), (9, .int ((x55 (j129 + 5)) - r123)), (4, .int (nI j129)), (8, .int r123), (7, .int (((x / r102) - (x / r102) / 3 * 3) - 1)), (0, .ref mo), (1, .int (nI k)), (2, .int (nI n)), (3, .int x)]) hx hb dX11_roundBy_142 hl (k := 5) rfl (nI_1 j91) (by decide) rfl (fun ls hl => ?_)
              refine lv_goto (tgt := 21) hx hb dX11_roundBy_145 (by decide) ?_
              exact ihj91 (j91 + 1) j129 (upd x54 j91 (nI j129)) (upd x55 (j129 + 5) 0) (x56 + r123) H locs ls (by omega) (by omega) hr137 hk138 hk139 (by omega) (hP.sub [0, 2, 3, 1] rfl) (hD.sub [0, 2, 3, 1] (by decide) rfl) hS (lv_sub hl [0, 1, 3, 6, 7, 8, 9] rfl)
          · skip
            have hP : va_P D vwCl [(r0, .inl (y 0, 6, .inl x54)), (ha, .inl (y 0, 30, .inl x55)), (mo, .inr (11, [.ref to, .ref ke, .ref ik, .ref mrf, .long mab, .long mbl, .ref ha, .ref r0, .ref mbr, .ref mbp, .ref mby, .int (nI bl), .int (nI ta), .int (nI tl), .int (nI tk), .int vv, .ref an, .ref va])), (to, .inl (y 0, 228, .inl ft))] H := hP
            have hD : va_D A [(r0, .inl (y 0, 6, .inl x54)), (ha, .inl (y 0, 30, .inl x55)), (mo, .inr (11, [.ref to, .ref ke, .ref ik, .ref mrf, .long mab, .long mbl, .ref ha, .ref r0, .ref mbr, .ref mbp, .ref mby, .int (nI bl), .int (nI ta), .int (nI tl), .int (nI tk), .int vv, .ref an, .ref va])), (to, .inl (y 0, 228, .inl ft))] := hD
            refine lv_if_ne (tgt := 92) hx hb dX11_roundBy_87 (by decide) (fun h9 => absurd h9 (by decide)) (fun _ => ?_)
            refine lv_iconst (v := (-1)) hx hb dX11_roundBy_90 (by decide) ?_
            exact W.iret (v := (-1)) hx hb hr (fun tZ ht hW => ⟨⟨(-1), (x55, x54), rfl, hr_x55, by rw [ht]; exact hP.sub [2, 3, 1, 0] rfl, hD.sub [2, 3, 1, 0] (by decide) rfl⟩, hS.F ht⟩) hS.2.2 dX11_roundBy_91
  exact lp98 (n + 1) 0 w1 fr0 (kr_cp fh ft 30) 0 _ _ _ (by omega) (by omega) h7 hk8 hk9 (by omega) hP hD hS (lv_sub hl [0, 1, 2, 3, 4, 5, 6] rfl)

set_option maxHeartbeats 4000000 in
set_option maxRecDepth 100000 in
theorem gq_round (l : Launch) (D : va_G) (y : Nat → ClassId) (mo : Nat) (to : Nat) (ke : Nat) (ik : Nat) (mrf : Nat) (ha : Nat) (r0 : Nat) (mbr : Nat) (mbp : Nat) (mby : Nat) (an : Nat) (va : Nat) (mab : Int64) (mbl : Int64) (bl : Nat) (ta : Nat) (tl : Nat) (tk : Nat) (vv : Int32) (frf : Nat → Int32) (ft : Nat → Int32) (fi : Nat) (gl : Nat) (mi : Nat) (no : Nat) (un : Nat) (fh : Nat → Int32) (fr0 : Nat → Int32) (fbr : Nat → Int32) (x : Int32) (x2 : Int32) (x3 : Int32) (hk0_ : ft 0 = (nI fi)) (hk1_ : ft 1 = (nI gl)) (hk2_ : ft 2 = (nI mi)) (hk3_ : ft 3 = (nI no)) (hk4_ : ft 4 = (nI un)) (hkt : kr_t 228 ft) (hfi : fi ≤ 6) (hgl : gl ≤ 5) (hmi : mi ≤ 4) (hno : no ≤ 6) (hun : un ≤ 8) (hgf : (gl = 0 ∨ 0 < fi)) (hkh : kr_t 30 fh) : kw_Mi l yX11_round wsX11_round ({ frames := 6, cells := 0, slots := 0, locals := 180 }) D y [.ref mo, .int x, .int x2, .int x3] [(mo, .inr (11, [.ref to, .ref ke, .ref ik, .ref mrf, .long mab, .long mbl, .ref ha, .ref r0, .ref mbr, .ref mbp, .ref mby, .int (nI bl), .int (nI ta), .int (nI tl), .int (nI tk), .int vv, .ref an, .ref va])), (mrf, .inl (y 0, 3, .inl frf)), (to, .inl (y 0, 228, .inl ft)), (ha, .inl (y 0, 30, .inl fh)), (r0, .inl (y 0, 6, .inl fr0)), (mbr, .inl (y 0, 6, .inl fbr))] (fun (r : Int32) (u : (Nat → Int32) × (Nat → Int32) × (Nat → Int32) × (Nat → Int32)) => kr_t 30 u.2.1 ∧ (gl = 0 ∨ 0 < fi)) (fun u => [(mo, .inr (11, [.ref to, .ref ke, .ref ik, .ref mrf, .long mab, .long mbl, .ref ha, .ref r0, .ref mbr, .ref mbp, .ref mby, .int (nI bl), .int (nI ta), .int (nI tl), .int (nI tk), .int vv, .ref an, .ref va])), (mrf, .inl (y 0, 3, .inl u.1)), (to, .inl (y 0, 228, .inl ft)), (ha, .inl (y 0, 30, .inl u.2.1)), (r0, .inl (y 0, 6, .inl u.2.2.1)), (mbr, .inl (y 0, 6, .inl u.2.2.2))]) 0 0 := by
  refine kw_Mi.of (cc := cX11_round) (maxL := 8) (ret := (some .int)) (by decide) rfl ?_
  intro pZ eZ s mZ beZ meZ cZ A hE
  obtain ⟨hx, hb, hr, hml, hts, hown, hlocks, hin, hA, hP, hD, hK, hN⟩ := hE
  have hS : va_S A s.heap s.heap [] := va_S.rf
  have hl := lv_entry ([.ref mo, .int x, .int x2, .int x3]) (n := 8) (Nat.le_of_ble_eq_true rfl)
  rw [lg_entry_eq]
  generalize (lg_sl ([.ref mo, .int x, .int x2, .int x3]) ++ List.replicate (8 - (lg_sl ([.ref mo, .int x, .int x2, .int x3])).length) Slot.unset).toArray = ls at hl ⊢
  have hl : lv_has ls 8 [(0, .ref mo), (1, .int x), (2, .int x2), (3, .int x3)] := hl
  have fw1 := hts (.constantLong RX11 153 (6)) (List.mem_of_getElem? (i := 1) rfl)
  have fw2 := hts (.fieldLink RX11 33 "GleanDuskModel" "bestRound" "[I") (List.mem_of_getElem? (i := 2) rfl)
  have fw3 := hts (.fieldLink RX11 30 "GleanDuskModel" "round0" "[I") (List.mem_of_getElem? (i := 3) rfl)
  have iw11 : ∀ w ∈ wsX110, w ∈ wsX11_round := fun _ h => List.mem_cons_of_mem _ (List.mem_append_right _ h)
  refine lv_aload_n hx hb dX11_round_0 rfl (lv_at hl 0 rfl) ?_
  refine lv_iload_n hx hb dX11_round_1 rfl (lv_at hl 1 rfl) ?_
  have hs1 : kw_Split [(mo, .inr (11, [.ref to, .ref ke, .ref ik, .ref mrf, .long mab, .long mbl, .ref ha, .ref r0, .ref mbr, .ref mbp, .ref mby, .int (nI bl), .int (nI ta), .int (nI tl), .int (nI tk), .int vv, .ref an, .ref va])), (mrf, .inl (y 0, 3, .inl frf)), (to, .inl (y 0, 228, .inl ft)), (ha, .inl (y 0, 30, .inl fh)), (r0, .inl (y 0, 6, .inl fr0)), (mbr, .inl (y 0, 6, .inl fbr))] [(mo, .inr (11, [.ref to, .ref ke, .ref ik, .ref mrf, .long mab, .long mbl, .ref ha, .ref r0, .ref mbr, .ref mbp, .ref mby, .int (nI bl), .int (nI ta), .int (nI tl), .int (nI tk), .int vv, .ref an, .ref va])), (to, .inl (y 0, 228, .inl ft))] [(mrf, .inl (y 0, 3, .inl frf)), (ha, .inl (y 0, 30, .inl fh)), (r0, .inl (y 0, 6, .inl fr0)), (mbr, .inl (y 0, 6, .inl fbr))] [0, 2] [1, 3, 4, 5] := ⟨rfl, rfl, rfl, rfl, rfl, by decide⟩
  refine kw_go_i hs1 hP hD hS hA (va_runV (As := [.int x]) (rest := []) ⟨hx, hb, hml, hown, hts⟩ (gr_isGleaner l D y mo to ke ik mrf ha r0 mbr mbp mby an va mab mbl bl ta tl tk vv ft fi gl mi no un x hk0_ hk1_ hk2_ hk3_ hk4_ hkt hfi hgl hmi hno hun _) (cwV 1 hts gX11_round_X11_isGleaner rfl rfl rfl (by decide +kernel) ⟨Nat.le_of_ble_eq_true rfl, Nat.le_of_ble_eq_true rfl⟩) (kw_PreV (ci := 11) (q0 := 0) hs1 hP hD hK hN rfl rfl) rfl rfl hl.1 rfl (lv_room (Nat.le_of_ble_eq_true rfl)) dX11_round_2 ⟨Nat.le_of_ble_eq_true rfl, Nat.le_of_ble_eq_true rfl⟩) (fun r2 u3 H locs hq hP hD hS => ?_)
  rcases hq with ⟨j4, h5, rfl, rfl⟩ | ⟨h6, rfl⟩
  · skip
    have hP : va_P D vwCl [(mrf, .inl (y 0, 3, .inl frf)), (ha, .inl (y 0, 30, .inl fh)), (r0, .inl (y 0, 6, .inl fr0)), (mbr, .inl (y 0, 6, .inl fbr)), (mo, .inr (11, [.ref to, .ref ke, .ref ik, .ref mrf, .long mab, .long mbl, .ref ha, .ref r0, .ref mbr, .ref mbp, .ref mby, .int (nI bl), .int (nI ta), .int (nI tl), .int (nI tk), .int vv, .ref an, .ref va])), (to, .inl (y 0, 228, .inl ft))] H := hP
    have hD : va_D A [(mrf, .inl (y 0, 3, .inl frf)), (ha, .inl (y 0, 30, .inl fh)), (r0, .inl (y 0, 6, .inl fr0)), (mbr, .inl (y 0, 6, .inl fbr)), (mo, .inr (11, [.ref to, .ref ke, .ref ik, .ref mrf, .long mab, .long mbl, .ref ha, .ref r0, .ref mbr, .ref mbp, .ref mby, .int (nI bl), .int (nI ta), .int (nI tl), .int (nI tk), .int vv, .ref an, .ref va])), (to, .inl (y 0, 228, .inl ft))] := hD
    refine lv_if_eq (tgt := 25) hx hb dX11_round_5 (by decide) (fun h9 => absurd h9 (by decide)) (fun _ => ?_)
    refine lv_iload_n hx hb dX11_round_8 rfl (lv_at hl 2 rfl) ?_
    refine lv_i2l (v := x2.toInt64) hx hb dX11_round_9 (rfl) ?_
    refine lv_lconst (v := 1) hx hb dX11_round_10 (by decide) ?_
    refine lv_ldc2 (v := 6) hx hb hown fw1 dX11_round_11 ?_
    have hs7 : kw_Split [(mrf, .inl (y 0, 3, .inl frf)), (ha, .inl (y 0, 30, .inl fh)), (r0, .inl (y 0, 6, .inl fr0)), (mbr, .inl (y 0, 6, .inl fbr)), (mo, .inr (11, [.ref to, .ref ke, .ref ik, .ref mrf, .long mab, .long mbl, .ref ha, .ref r0, .ref mbr, .ref mbp, .ref mby, .int (nI bl), .int (nI ta), .int (nI tl), .int (nI tk), .int vv, .ref an, .ref va])), (to, .inl (y 0, 228, .inl ft))] [] [(mrf, .inl (y 0, 3, .inl frf)), (ha, .inl (y 0, 30, .inl fh)), (r0, .inl (y 0, 6, .inl fr0)), (mbr, .inl (y 0, 6, .inl fbr)), (mo, .inr (11, [.ref to, .ref ke, .ref ik, .ref mrf, .long mab, .long mbl, .ref ha, .ref r0, .ref mbr, .ref mbp, .ref mby, .int (nI bl), .int (nI ta), .int (nI tl), .int (nI tk), .int vv, .ref an, .ref va])), (to, .inl (y 0, 228, .inl ft))] [] [0, 1, 2, 3, 4, 5] := ⟨rfl, rfl, rfl, rfl, rfl, by decide⟩
    refine kw_go_i hs7 hP hD hS hA (va_runS (As := [.long x2.toInt64, .long 1, .long 6]) (rest := []) ⟨hx, hb, hml, hown, hts⟩ (gr_in l D y x2 1 6 (by omega) (by omega) _) (va_cwS 3 hts gX11_round_X11_in rfl rfl rfl (by decide +kernel) ⟨Nat.le_of_ble_eq_true rfl, Nat.le_of_ble_eq_true rfl⟩) (kw_PreS hs7 hP hD hK hN) rfl rfl hl.1 rfl (lv_room (Nat.le_of_ble_eq_true rfl)) dX11_round_14 ⟨Nat.le_of_ble_eq_true rfl, Nat.le_of_ble_eq_true rfl⟩) (fun r8 u9 H locs hq hP hD hS => ?_)
    rcases hq with ⟨j10, h11, h12, rfl, rfl⟩ | ⟨h13, rfl⟩
    · skip
      have hP : va_P D vwCl [(mrf, .inl (y 0, 3, .inl frf)), (ha, .inl (y 0, 30, .inl fh)), (r0, .inl (y 0, 6, .inl fr0)), (mbr, .inl (y 0, 6, .inl fbr)), (mo, .inr (11, [.ref to, .ref ke, .ref ik, .ref mrf, .long mab, .long mbl, .ref ha, .ref r0, .ref mbr, .ref mbp, .ref mby, .int (nI bl), .int (nI ta), .int (nI tl), .int (nI tk), .int vv, .ref an, .ref va])), (to, .inl (y 0, 228, .inl ft))] H := hP
      have hD : va_D A [(mrf, .inl (y 0, 3, .inl frf)), (ha, .inl (y 0, 30, .inl fh)), (r0, .inl (y 0, 6, .inl fr0)), (mbr, .inl (y 0, 6, .inl fbr)), (mo, .inr (11, [.ref to, .ref ke, .ref ik, .ref mrf, .long mab, .long mbl, .ref ha, .ref r0, .ref mbr, .ref mbp, .ref mby, .int (nI bl), .int (nI ta), .int (nI tl), .int (nI tk), .int vv, .ref an, .ref va])), (to, .inl (y 0, 228, .inl ft))] := hD
      refine lv_if_eq (tgt := 25) hx hb dX11_round_17 (by decide) (fun h9 => absurd h9 (by decide)) (fun _ => ?_)
      refine lv_iload_n hx hb dX11_round_20 rfl (lv_at hl 3 rfl) ?_
      refine lv_iconst (v := (-1)) hx hb dX11_round_21 (by decide) ?_
      refine lv_icmp_ge (tgt := 32) hx hb dX11_round_22 (by decide) (fun h14 => ?_) (fun h15 => ?_)
      · skip
        rcases (show j10 = 1 ∨ j10 = 2 ∨ j10 = 3 ∨ j10 = 4 ∨ j10 = 5 ∨ j10 = 6 by omega) with rfl | rfl | rfl | rfl | rfl | rfl
        · skip
          refine lv_iconst (v := (-1)) hx hb dX11_round_32 (by decide) ?_
          refine lv_istore (lv' := [(4, .int (-1)), (0, .ref mo), (1, .int (nI j4)), (2, .int (nI 1)), (3, .int x3)]) hx hb dX11_round_33 hl (by decide) rfl (fun ls hl => ?_)
          refine lv_iconst (v := 0) hx hb dX11_round_35 (by decide) ?_
          refine lv_istore (lv' := [(5, .int 0), (4, .int (-1)), (0, .ref mo), (1, .int (nI j4)), (2, .int (nI 1)), (3, .int x3)]) hx hb dX11_round_36 hl (by decide) rfl (fun ls hl => ?_)
          have lp102 : ∀ (fuj91 j91 : Nat) (x57 : Nat → Int32) (x58 : Nat → Int32) (x59 : Int32) (x60 : Nat → Int32) (H : Heap) (locs : List Loc) (ls : Array Slot), j91 ≤ 3 → 3 - j91 < fuj91 → kr_t 30 x57 → va_P D vwCl [(mrf, .inl (y 0, 3, .inl frf)), (ha, .inl (y 0, 30, .inl x57)), (r0, .inl (y 0, 6, .inl x58)), (mbr, .inl (y 0, 6, .inl x60)), (mo, .inr (11, [.ref to, .ref ke, .ref ik, .ref mrf, .long mab, .long mbl, .ref ha, .ref r0, .ref mbr, .ref mbp, .ref mby, .int (nI bl), .int (nI ta), .int (nI tl), .int (nI tk), .int vv, .ref an, .ref va])), (to, .inl (y 0, 228, .inl ft))] H → va_D A [(mrf, .inl (y 0, 3, .inl frf)), (ha, .inl (y 0, 30, .inl x57)), (r0, .inl (y 0, 6, .inl x58)), (mbr, .inl (y 0, 6, .inl x60)), (mo, .inr (11, [.ref to, .ref ke, .ref ik, .ref mrf, .long mab, .long mbl, .ref ha, .ref r0, .ref mbr, .ref mbp, .ref mby, .int (nI bl), .int (nI ta), .int (nI tl), .int (nI tk), .int vv, .ref an, .ref va])), (to, .inl (y 0, 228, .inl ft))] → va_S A s.heap H locs → lv_has ls 8 [(5, .int (nI j91)), (4, .int x59), (0, .ref mo), (1, .int (nI j4)), (2, .int (nI 1)), (3, .int x3)] → W pZ l eZ ({ frames := 6, cells := 0, slots := 0, locals := 180 }) s mZ [.ref mo, .int (nI j4), .int (nI 1), .int x3].toArray beZ meZ cZ H locs 0 0 (MQ beZ (va_Qi (fun (r : Int32) (u : (Nat → Int32) × (Nat → Int32) × (Nat → Int32) × (Nat → Int32)) => kr_t 30 u.2.1 ∧ (gl = 0 ∨ 0 < fi)) (kw_B D (fun u => [(mo, .inr (11, [.ref to, .ref ke, .ref ik, .ref mrf, .long mab, .long mbl, .ref ha, .ref r0, .ref mbr, .ref mbp, .ref mby, .int (nI bl), .int (nI ta), .int (nI tl), .int (nI tk), .int vv, .ref an, .ref va])), (mrf, .inl (y 0, 3, .inl u.1)), (to, .inl (y 0, 228, .inl ft)), (ha, .inl (y 0, 30, .inl u.2.1)), (r0, .inl (y 0, 6, .inl u.2.2.1)), (mbr, .inl (y 0, 6, .inl u.2.2.2))]) A) A) [.ref mo, .int (nI j4), .int (nI 1), .int x3].toArray s 0 0 A) (F0 mZ 38 ls []) := by
            intro fuj91
            induction fuj91 with
            | zero => intro j91 x57 x58 x59 x60 H locs ls hj9 hf9; exact absurd hf9 (Nat.not_lt_zero _)
            | succ fuj91 ihj91 =>
              intro j91 x57 x58 x59 x60 H locs ls hj91 hfj91 hr_x57 hP hD hS hl
              refine lv_iload hx hb dX11_round_38 (lv_at hl 0 rfl) ?_
              refine lv_iload_n hx hb dX11_round_40 rfl (lv_at hl 4 rfl) ?_
              have hs103 : kw_Split [(mrf, .inl (y 0, 3, .inl frf)), (ha, .inl (y 0, 30, .inl x57)), (r0, .inl (y 0, 6, .inl x58)), (mbr, .inl (y 0, 6, .inl x60)), (mo, .inr (11, [.ref to, .ref ke, .ref ik, .ref mrf, .long mab, .long mbl, .ref ha, .ref r0, .ref mbr, .ref mbp, .ref mby, .int (nI bl), .int (nI ta), .int (nI tl), .int (nI tk), .int vv, .ref an, .ref va])), (to, .inl (y 0, 228, .inl ft))] [] [(mrf, .inl (y 0, 3, .inl frf)), (ha, .inl (y 0, 30, .inl x57)), (r0, .inl (y 0, 6, .inl x58)), (mbr, .inl (y 0, 6, .inl x60)), (mo, .inr (11, [.ref to, .ref ke, .ref ik, .ref mrf, .long mab, .long mbl, .ref ha, .ref r0, .ref mbr, .ref mbp, .ref mby, .int (nI bl), .int (nI ta), .int (nI tl), .int (nI tk), .int vv, .ref an, .ref va])), (to, .inl (y 0, 228, .inl ft))] [] [0, 1, 2, 3, 4, 5] := ⟨rfl, rfl, rfl, rfl, rfl, by decide⟩
              refine kw_go_i hs103 hP hD hS hA (va_runS (As := [.int (nI 1)]) (rest := [.int (nI j91)]) ⟨hx, hb, hml, hown, hts⟩ (gr_pow1 l D y   _) (va_cwS 1 hts gX11_round_X11_powerOfThree rfl rfl rfl (by decide +kernel) ⟨Nat.le_of_ble_eq_true rfl, Nat.le_of_ble_eq_true rfl⟩) (kw_PreS hs103 hP hD hK hN) rfl rfl hl.1 rfl (lv_room (Nat.le_of_ble_eq_true rfl)) dX11_round_41 ⟨Nat.le_of_ble_eq_true rfl, Nat.le_of_ble_eq_true rfl⟩) (fun r104 u105 H locs hq hP hD hS => ?_)
              obtain rfl := hq
              have hP : va_P D vwCl [(mrf, .inl (y 0, 3, .inl frf)), (ha, .inl (y 0, 30, .inl x57)), (r0, .inl (y 0, 6, .inl x58)), (mbr, .inl (y 0, 6, .inl x60)), (mo, .inr (11, [.ref to, .ref ke, .ref ik, .ref mrf, .long mab, .long mbl, .ref ha, .ref r0, .ref mbr, .ref mbp, .ref mby, .int (nI bl), .int (nI ta), .int (nI tl), .int (nI tk), .int vv, .ref an, .ref va])), (to, .inl (y 0, 228, .inl ft))] H := hP
              have hD : va_D A [(mrf, .inl (y 0, 3, .inl frf)), (ha, .inl (y 0, 30, .inl x57)), (r0, .inl (y 0, 6, .inl x58)), (mbr, .inl (y 0, 6, .inl x60)), (mo, .inr (11, [.ref to, .ref ke, .ref ik, .ref mrf, .long mab, .long mbl, .ref ha, .ref r0, .ref mbr, .ref mbp, .ref mby, .int (nI bl), .int (nI ta), .int (nI tl), .int (nI tk), .int vv, .ref an, .ref va])), (to, .inl (y 0, 228, .inl ft))] := hD
              refine lv_icmp_ge (tgt := 115) hx hb dX11_round_44 (by decide) (fun h106 => ?_) (fun h107 => ?_)
              · skip
                have h106 : 3 ≤ j91 := (nI_leI (a := 3) (b := j91) (by omega) (by omega)).mp h106
                refine lv_iload_n hx hb dX11_round_115 rfl (lv_at hl 5 rfl) ?_
                refine lv_iconst (v := (-1)) hx hb dX11_round_116 (by decide) ?_
                refine lv_icmp_ne (tgt := 125) hx hb dX11_round_117 (by decide) (fun h108 => ?_) (fun h109 => ?_)
                · skip
                  refine lv_iload_n hx hb dX11_round_125 rfl (lv_at hl 5 rfl) ?_
                  refine lv_iload_n hx hb dX11_round_126 rfl (lv_at hl 4 rfl) ?_
                  refine lv_icmp_ge (tgt := 139) hx hb dX11_round_127 (by decide) (fun h110 => ?_) (fun h111 => ?_)
                  · skip
                    refine lv_bipush (v := (-5)) hx hb dX11_round_139 (by decide) ?_
                    exact W.iret (v := (-5)) hx hb hr (fun tZ ht hW => ⟨⟨(-5), (frf, x57, x58, x60), rfl, ⟨hr_x57, by first | omega | (dsimp only; omega)⟩, by rw [ht]; exact hP.sub [4, 0, 5, 1, 2, 3] rfl, hD.sub [4, 0, 5, 1, 2, 3] (by decide) rfl⟩, hS.F ht⟩) hS.2.2 dX11_round_141
                  · skip
                    refine lv_aload_n hx hb dX11_round_130 rfl (lv_at hl 2 rfl) ?_
                    refine va_get (D := D) (ci := 11) (v := .ref mbr) (C := RX11) (T := TX11) (N := 18) hx hb hts iw11 hown hK hP 4 rfl rfl 8 (by decide) fw2 (fun _ h9 => h9) rfl dX11_round_131 ?_
                    refine lv_iload_n hx hb dX11_round_134 rfl (lv_at hl 5 rfl) ?_
                    refine va_iald hx hb hK hP 3 0 rfl rfl (kw_rr (Int32.not_lt.mpr h14) (Int32.not_le.mp h111) h108 (by omega) (by decide)) dX11_round_135 ?_
                    refine lv_goto (tgt := 141) hx hb dX11_round_136 (by decide) ?_
                    exact W.iret (v := (x60 (x3.toNatClampNeg))) hx hb hr (fun tZ ht hW => ⟨⟨(x60 (x3.toNatClampNeg)), (frf, x57, x58, x60), rfl, ⟨hr_x57, by first | omega | (dsimp only; omega)⟩, by rw [ht]; exact hP.sub [4, 0, 5, 1, 2, 3] rfl, hD.sub [4, 0, 5, 1, 2, 3] (by decide) rfl⟩, hS.F ht⟩) hS.2.2 dX11_round_141
                · skip
                  refine lv_iload hx hb dX11_round_120 (lv_at hl 1 rfl) ?_
                  refine lv_goto (tgt := 141) hx hb dX11_round_122 (by decide) ?_
                  exact W.iret (v := x59) hx hb hr (fun tZ ht hW => ⟨⟨x59, (frf, x57, x58, x60), rfl, ⟨hr_x57, by first | omega | (dsimp only; omega)⟩, by rw [ht]; exact hP.sub [4, 0, 5, 1, 2, 3] rfl, hD.sub [4, 0, 5, 1, 2, 3] (by decide) rfl⟩, hS.F ht⟩) hS.2.2 dX11_round_141
              · skip
                have h107 : ¬ 3 ≤ j91 := fun q9 => h107 ((nI_leI (a := 3) (b := j91) (by omega) (by omega)).mpr q9)
                refine lv_aload_n hx hb dX11_round_47 rfl (lv_at hl 2 rfl) ?_
                refine lv_iload_n hx hb dX11_round_48 rfl (lv_at hl 3 rfl) ?_
                refine lv_iload_n hx hb dX11_round_49 rfl (lv_at hl 4 rfl) ?_
                refine lv_iload hx hb dX11_round_50 (lv_at hl 0 rfl) ?_
                have hs112 : kw_Split [(mrf, .inl (y 0, 3, .inl frf)), (ha, .inl (y 0, 30, .inl x57)), (r0, .inl (y 0, 6, .inl x58)), (mbr, .inl (y 0, 6, .inl x60)), (mo, .inr (11, [.ref to, .ref ke, .ref ik, .ref mrf, .long mab, .long mbl, .ref ha, .ref r0, .ref mbr, .ref mbp, .ref mby, .int (nI bl), .int (nI ta), .int (nI tl), .int (nI tk), .int vv, .ref an, .ref va])), (to, .inl (y 0, 228, .inl ft))] [(mo, .inr (11, [.ref to, .ref ke, .ref ik, .ref mrf, .long mab, .long mbl, .ref ha, .ref r0, .ref mbr, .ref mbp, .ref mby, .int (nI bl), .int (nI ta), .int (nI tl), .int (nI tk), .int vv, .ref an, .ref va])), (to, .inl (y 0, 228, .inl ft)), (ha, .inl (y 0, 30, .inl x57)), (r0, .inl (y 0, 6, .inl x58))] [(mrf, .inl (y 0, 3, .inl frf)), (mbr, .inl (y 0, 6, .inl x60))] [4, 5, 1, 2] [0, 3] := ⟨rfl, rfl, rfl, rfl, rfl, by decide⟩
                refine kw_go_i hs112 hP hD hS hA (va_runV (As := [.int (nI j4), .int (nI 1), .int (nI j91)]) (rest := []) ⟨hx, hb, hml, hown, hts⟩ (gr_roundBy l D y mo to ke ik mrf ha r0 mbr mbp mby an va mab mbl bl ta tl tk vv ft fi gl mi no un x57 x58 j4 1 (nI j91) hk0_ hk1_ hk2_ hk3_ hk4_ hkt hfi hgl hmi hno hun hr_x57 h5 h11 h12 _) (cwV 3 hts gX11_round_X11_roundBy rfl rfl rfl (by decide +kernel) ⟨Nat.le_of_ble_eq_true rfl, Nat.le_of_ble_eq_true rfl⟩) (kw_PreV (ci := 11) (q0 := 4) hs112 hP hD hK hN rfl rfl) rfl rfl hl.1 rfl (lv_room (Nat.le_of_ble_eq_true rfl)) dX11_round_52 ⟨Nat.le_of_ble_eq_true rfl, Nat.le_of_ble_eq_true rfl⟩) (fun r113 u114 H locs hq hP hD hS => ?_)
                obtain ⟨v115, v116⟩ := u114
                try dsimp only at hq
                have h117 := hq
                have hP : va_P D vwCl [(mrf, .inl (y 0, 3, .inl frf)), (mbr, .inl (y 0, 6, .inl x60)), (mo, .inr (11, [.ref to, .ref ke, .ref ik, .ref mrf, .long mab, .long mbl, .ref ha, .ref r0, .ref mbr, .ref mbp, .ref mby, .int (nI bl), .int (nI ta), .int (nI tl), .int (nI tk), .int vv, .ref an, .ref va])), (to, .inl (y 0, 228, .inl ft)), (ha, .inl (y 0, 30, .inl v115)), (r0, .inl (y 0, 6, .inl v116))] H := hP
                have hD : va_D A [(mrf, .inl (y 0, 3, .inl frf)), (mbr, .inl (y 0, 6, .inl x60)), (mo, .inr (11, [.ref to, .ref ke, .ref ik, .ref mrf, .long mab, .long mbl, .ref ha, .ref r0, .ref mbr, .ref mbp, .ref mby, .int (nI bl), .int (nI ta), .int (nI tl), .int (nI tk), .int vv, .ref an, .ref va])), (to, .inl (y 0, 228, .inl ft)), (ha, .inl (y 0, 30, .inl v115)), (r0, .inl (y 0, 6, .inl v116))] := hD
                refine lv_istore (lv' := [(6, .int r113), (5, .int (nI j91)), (4, .int x59), (0, .ref mo), (1, .int (nI j4)), (2, .int (nI 1)), (3, .int x3)]) hx hb dX11_round_55 hl (by decide) rfl (fun ls hl => ?_)
                refine lv_iconst (v := 0) hx hb dX11_round_57 (by decide) ?_
                refine lv_istore (lv' := [(7, .int 0), (6, .int r113), (5, .int (nI j91)), (4, .int x59), (0, .ref mo), (1, .int (nI j4)), (2, .int (nI 1)), (3, .int x3)]) hx hb dX11_round_58 hl (by decide) rfl (fun ls hl => ?_)
                have lp135 : ∀ (fuj92 j92 : Nat) (x126 : Nat → Int32) (H : Heap) (locs : List Loc) (ls : Array Slot), j92 ≤ 1 → 1 - j92 < fuj92 → va_P D vwCl [(mrf, .inl (y 0, 3, .inl frf)), (mbr, .inl (y 0, 6, .inl x126)), (mo, .inr (11, [.ref to, .ref ke, .ref ik, .ref mrf, .long mab, .long mbl, .ref ha, .ref r0, .ref mbr, .ref mbp, .ref mby, .int (nI bl), .int (nI ta), .int (nI tl), .int (nI tk), .int vv, .ref an, .ref va])), (to, .inl (y 0, 228, .inl ft)), (ha, .inl (y 0, 30, .inl v115)), (r0, .inl (y 0, 6, .inl v116))] H → va_D A [(mrf, .inl (y 0, 3, .inl frf)), (mbr, .inl (y 0, 6, .inl x126)), (mo, .inr (11, [.ref to, .ref ke, .ref ik, .ref mrf, .long mab, .long mbl, .ref ha, .ref r0, .ref mbr, .ref mbp, .ref mby, .int (nI bl), .int (nI ta), .int (nI tl), .int (nI tk), .int vv, .ref an, .ref va])), (to, .inl (y 0, 228, .inl ft)), (ha, .inl (y 0, 30, .inl v115)), (r0, .inl (y 0, 6, .inl v116))] → va_S A s.heap H locs → lv_has ls 8 [(7, .int (nI j92)), (6, .int r113), (5, .int (nI j91)), (4, .int x59), (0, .ref mo), (1, .int (nI j4)), (2, .int (nI 1)), (3, .int x3)] → W pZ l eZ ({ frames := 6, cells := 0, slots := 0, locals := 180 }) s mZ [.ref mo, .int (nI j4), .int (nI 1), .int x3].toArray beZ meZ cZ H locs 0 0 (MQ beZ (va_Qi (fun (r : Int32) (u : (Nat → Int32) × (Nat → Int32) × (Nat → Int32) × (Nat → Int32)) => kr_t 30 u.2.1 ∧ (gl = 0 ∨ 0 < fi)) (kw_B D (fun u => [(mo, .inr (11, [.ref to, .ref ke, .ref ik, .ref mrf, .long mab, .long mbl, .ref ha, .ref r0, .ref mbr, .ref mbp, .ref mby, .int (nI bl), .int (nI ta), .int (nI tl), .int (nI tk), .int vv, .ref an, .ref va])), (mrf, .inl (y 0, 3, .inl u.1)), (to, .inl (y 0, 228, .inl ft)), (ha, .inl (y 0, 30, .inl u.2.1)), (r0, .inl (y 0, 6, .inl u.2.2.1)), (mbr, .inl (y 0, 6, .inl u.2.2.2))]) A) A) [.ref mo, .int (nI j4), .int (nI 1), .int x3].toArray s 0 0 A) (F0 mZ 60 ls []) := by
                  intro fuj92
                  induction fuj92 with
                  | zero => intro j92 x126 H locs ls hj9 hf9; exact absurd hf9 (Nat.not_lt_zero _)
                  | succ fuj92 ihj92 =>
                    intro j92 x126 H locs ls hj92 hfj92  hP hD hS hl
                    refine lv_iload hx hb dX11_round_60 (lv_at hl 0 rfl) ?_
                    refine lv_iload_n hx hb dX11_round_62 rfl (lv_at hl 6 rfl) ?_
                    refine lv_icmp_ge (tgt := 93) hx hb dX11_round_63 (by decide) (fun h136 => ?_) (fun h137 => ?_)
                    · skip
                      have h136 : 1 ≤ j92 := (nI_leI (a := 1) (b := j92) (by omega) (by omega)).mp h136
                      refine lv_iload hx hb dX11_round_93 (lv_at hl 1 rfl) ?_
                      refine lv_iload hx hb dX11_round_95 (lv_at hl 3 rfl) ?_
                      refine lv_icmp_le (tgt := 105) hx hb dX11_round_97 (by decide) (fun h138 => ?_) (fun h139 => ?_)
                      · skip
                        refine lv_iload hx hb dX11_round_105 (lv_at hl 3 rfl) ?_
                        refine lv_istore (lv' := [(4, .int x59), (7, .int (nI j92)), (6, .int r113), (5, .int (nI j91)), (0, .ref mo), (1, .int (nI j4)), (2, .int (nI 1)), (3, .int x3)]) hx hb dX11_round_107 hl (by decide) rfl (fun ls hl => ?_)
                        refine lv_iinc (v := (nI (j91 + 1))) (lv' := [(5, .int (nI (j91 + 1))), (4, .int x59), (7, .int (nI j92)), (6, .int r113), (0, .ref mo), (1, .int (nI j4)), (2, .int (nI 1)), (3, .int x3)]) hx hb dX11_round_109 hl (k := 3) rfl (nI_1 j91) (by decide) rfl (fun ls hl => ?_)
                        refine lv_goto (tgt := 38) hx hb dX11_round_112 (by decide) ?_
                        exact ihj91 (j91 + 1) v115 v116 x59 x126 H locs ls (by omega) (by omega) h117 (hP.sub [0, 4, 5, 1, 2, 3] rfl) (hD.sub [0, 4, 5, 1, 2, 3] (by decide) rfl) hS (lv_sub hl [0, 1, 4, 5, 6, 7] rfl)
                      · skip
                        refine lv_iload hx hb dX11_round_100 (lv_at hl 1 rfl) ?_
                        refine lv_goto (tgt := 107) hx hb dX11_round_102 (by decide) ?_
                        refine lv_istore (lv' := [(4, .int r113), (7, .int (nI j92)), (6, .int r113), (5, .int (nI j91)), (0, .ref mo), (1, .int (nI j4)), (2, .int (nI 1)), (3, .int x3)]) hx hb dX11_round_107 hl (by decide) rfl (fun ls hl => ?_)
                        refine lv_iinc (v := (nI (j91 + 1))) (lv' := [(5, .int (nI (j91 + 1))), (4, .int r113), (7, .int (nI j92)), (6, .int r113), (0, .ref mo), (1, .int (nI j4)), (2, .int (nI 1)), (3, .int x3)]) hx hb dX11_round_109 hl (k := 3) rfl (nI_1 j91) (by decide) rfl (fun ls hl => ?_)
                        refine lv_goto (tgt := 38) hx hb dX11_round_112 (by decide) ?_
                        exact ihj91 (j91 + 1) v115 v116 r113 x126 H locs ls (by omega) (by omega) h117 (hP.sub [0, 4, 5, 1, 2, 3] rfl) (hD.sub [0, 4, 5, 1, 2, 3] (by decide) rfl) hS (lv_sub hl [0, 1, 4, 5, 6, 7] rfl)
                    · skip
                      have h137 : ¬ 1 ≤ j92 := fun q9 => h137 ((nI_leI (a := 1) (b := j92) (by omega) (by omega)).mpr q9)
                      refine lv_iload hx hb dX11_round_66 (lv_at hl 1 rfl) ?_
                      refine lv_iload hx hb dX11_round_68 (lv_at hl 3 rfl) ?_
                      refine lv_icmp_le (tgt := 93) hx hb dX11_round_70 (by decide) (fun h140 => ?_) (fun h141 => ?_)
                      · skip
                        refine lv_iload hx hb dX11_round_93 (lv_at hl 1 rfl) ?_
                        refine lv_iload hx hb dX11_round_95 (lv_at hl 3 rfl) ?_
                        refine lv_icmp_le (tgt := 105) hx hb dX11_round_97 (by decide) (fun h142 => ?_) (fun h143 => ?_)
                        · skip
                          refine lv_iload hx hb dX11_round_105 (lv_at hl 3 rfl) ?_
                          refine lv_istore (lv' := [(4, .int x59), (7, .int (nI j92)), (6, .int r113), (5, .int (nI j91)), (0, .ref mo), (1, .int (nI j4)), (2, .int (nI 1)), (3, .int x3)]) hx hb dX11_round_107 hl (by decide) rfl (fun ls hl => ?_)
                          refine lv_iinc (v := (nI (j91 + 1))) (lv' := [(5, .int (nI (j91 + 1))), (4, .int x59), (7, .int (nI j92)), (6, .int r113), (0, .ref mo), (1, .int (nI j4)), (2, .int (nI 1)), (3, .int x3)]) hx hb dX11_round_109 hl (k := 3) rfl (nI_1 j91) (by decide) rfl (fun ls hl => ?_)
                          refine lv_goto (tgt := 38) hx hb dX11_round_112 (by decide) ?_
                          exact ihj91 (j91 + 1) v115 v116 x59 x126 H locs ls (by omega) (by omega) h117 (hP.sub [0, 4, 5, 1, 2, 3] rfl) (hD.sub [0, 4, 5, 1, 2, 3] (by decide) rfl) hS (lv_sub hl [0, 1, 4, 5, 6, 7] rfl)
                        · skip
                          exact absurd h140 h143
                      · skip
                        refine lv_aload_n hx hb dX11_round_73 rfl (lv_at hl 4 rfl) ?_
                        refine va_get (D := D) (ci := 11) (v := .ref mbr) (C := RX11) (T := TX11) (N := 18) hx hb hts iw11 hown hK hP 2 rfl rfl 8 (by decide) fw2 (fun _ h9 => h9) rfl dX11_round_74 ?_
                        refine lv_iload hx hb dX11_round_77 (lv_at hl 0 rfl) ?_
                        refine lv_aload_n hx hb dX11_round_79 rfl (lv_at hl 4 rfl) ?_
                        refine va_get (D := D) (ci := 11) (v := .ref r0) (C := RX11) (T := TX11) (N := 18) hx hb hts iw11 hown hK hP 2 rfl rfl 7 (by decide) fw3 (fun _ h9 => h9) rfl dX11_round_80 ?_
                        refine lv_iload hx hb dX11_round_83 (lv_at hl 0 rfl) ?_
                        refine va_iald hx hb hK hP 5 0 rfl rfl (vp_in_nI (by omega) (by decide)) dX11_round_85 ?_
                        rw [nI_clamp (n := j92) (by omega)]
                        refine va_iast hx hb hK hP hD hS 1 0 rfl rfl (vp_in_nI (by omega) (by decide)) dX11_round_86 (fun H locs hP hD hS => ?_)
                        rw [nI_clamp (n := j92) (by omega)] at hP hD
                        have hP : va_P D vwCl [(mrf, .inl (y 0, 3, .inl frf)), (mbr, .inl (y 0, 6, .inl (upd x126 j92 (v116 j92)))), (mo, .inr (11, [.ref to, .ref ke, .ref ik, .ref mrf, .long mab, .long mbl, .ref ha, .ref r0, .ref mbr, .ref mbp, .ref mby, .int (nI bl), .int (nI ta), .int (nI tl), .int (nI tk), .int vv, .ref an, .ref va])), (to, .inl (y 0, 228, .inl ft)), (ha, .inl (y 0, 30, .inl v115)), (r0, .inl (y 0, 6, .inl v116))] H := hP
                        have hD : va_D A [(mrf, .inl (y 0, 3, .inl frf)), (mbr, .inl (y 0, 6, .inl (upd x126 j92 (v116 j92)))), (mo, .inr (11, [.ref to, .ref ke, .ref ik, .ref mrf, .long mab, .long mbl, .ref ha, .ref r0, .ref mbr, .ref mbp, .ref mby, .int (nI bl), .int (nI ta), .int (nI tl), .int (nI tk), .int vv, .ref an, .ref va])), (to, .inl (y 0, 228, .inl ft)), (ha, .inl (y 0, 30, .inl v115)), (r0, .inl (y 0, 6, .inl v116))] := hD
                        refine lv_iinc (v := (nI (j92 + 1))) (lv' := [(7, .int (nI (j92 + 1))), (6, .int r113), (5, .int (nI j91)), (4, .int x59), (0, .ref mo), (1, .int (nI j4)), (2, .int (nI 1)), (3, .int x3)]) hx hb dX11_round_87 hl (k := 0) rfl (nI_1 j92) (by decide) rfl (fun ls hl => ?_)
                        refine lv_goto (tgt := 60) hx hb dX11_round_90 (by decide) ?_
                        exact ihj92 (j92 + 1) (upd x126 j92 (v116 j92)) H locs ls (by omega) (by omega)  (hP.sub [0, 1, 2, 3, 4, 5] rfl) (hD.sub [0, 1, 2, 3, 4, 5] (by decide) rfl) hS (lv_sub hl [0, 1, 2, 3, 4, 5, 6, 7] rfl)
                exact lp135 (1 + 1) 0 x60 _ _ _ (by omega) (by omega)  hP hD hS (lv_sub hl [0, 1, 2, 3, 4, 5, 6, 7] rfl)
          exact lp102 (3 + 1) 0 fh fr0 (-1) fbr _ _ _ (by omega) (by omega) hkh hP hD hS (lv_sub hl [0, 1, 2, 3, 4, 5] rfl)
        · skip
          refine lv_iconst (v := (-1)) hx hb dX11_round_32 (by decide) ?_
          refine lv_istore (lv' := [(4, .int (-1)), (0, .ref mo), (1, .int (nI j4)), (2, .int (nI 2)), (3, .int x3)]) hx hb dX11_round_33 hl (by decide) rfl (fun ls hl => ?_)
          refine lv_iconst (v := 0) hx hb dX11_round_35 (by decide) ?_
          refine lv_istore (lv' := [(5, .int 0), (4, .int (-1)), (0, .ref mo), (1, .int (nI j4)), (2, .int (nI 2)), (3, .int x3)]) hx hb dX11_round_36 hl (by decide) rfl (fun ls hl => ?_)
          have lp230 : ∀ (fuj91 j91 : Nat) (x185 : Nat → Int32) (x186 : Nat → Int32) (x187 : Int32) (x188 : Nat → Int32) (H : Heap) (locs : List Loc) (ls : Array Slot), j91 ≤ 9 → 9 - j91 < fuj91 → kr_t 30 x185 → va_P D vwCl [(mrf, .inl (y 0, 3, .inl frf)), (ha, .inl (y 0, 30, .inl x185)), (r0, .inl (y 0, 6, .inl x186)), (mbr, .inl (y 0, 6, .inl x188)), (mo, .inr (11, [.ref to, .ref ke, .ref ik, .ref mrf, .long mab, .long mbl, .ref ha, .ref r0, .ref mbr, .ref mbp, .ref mby, .int (nI bl), .int (nI ta), .int (nI tl), .int (nI tk), .int vv, .ref an, .ref va])), (to, .inl (y 0, 228, .inl ft))] H → va_D A [(mrf, .inl (y 0, 3, .inl frf)), (ha, .inl (y 0, 30, .inl x185)), (r0, .inl (y 0, 6, .inl x186)), (mbr, .inl (y 0, 6, .inl x188)), (mo, .inr (11, [.ref to, .ref ke, .ref ik, .ref mrf, .long mab, .long mbl, .ref ha, .ref r0, .ref mbr, .ref mbp, .ref mby, .int (nI bl), .int (nI ta), .int (nI tl), .int (nI tk), .int vv, .ref an, .ref va])), (to, .inl (y 0, 228, .inl ft))] → va_S A s.heap H locs → lv_has ls 8 [(5, .int (nI j91)), (4, .int x187), (0, .ref mo), (1, .int (nI j4)), (2, .int (nI 2)), (3, .int x3)] → W pZ l eZ ({ frames := 6, cells := 0, slots := 0, locals := 180 }) s mZ [.ref mo, .int (nI j4), .int (nI 2), .int x3].toArray beZ meZ cZ H locs 0 0 (MQ beZ (va_Qi (fun (r : Int32) (u : (Nat → Int32) × (Nat → Int32) × (Nat → Int32) × (Nat → Int32)) => kr_t 30 u.2.1 ∧ (gl = 0 ∨ 0 < fi)) (kw_B D (fun u => [(mo, .inr (11, [.ref to, .ref ke, .ref ik, .ref mrf, .long mab, .long mbl, .ref ha, .ref r0, .ref mbr, .ref mbp, .ref mby, .int (nI bl), .int (nI ta), .int (nI tl), .int (nI tk), .int vv, .ref an, .ref va])), (mrf, .inl (y 0, 3, .inl u.1)), (to, .inl (y 0, 228, .inl ft)), (ha, .inl (y 0, 30, .inl u.2.1)), (r0, .inl (y 0, 6, .inl u.2.2.1)), (mbr, .inl (y 0, 6, .inl u.2.2.2))]) A) A) [.ref mo, .int (nI j4), .int (nI 2), .int x3].toArray s 0 0 A) (F0 mZ 38 ls []) := by
            intro fuj91
            induction fuj91 with
            | zero => intro j91 x185 x186 x187 x188 H locs ls hj9 hf9; exact absurd hf9 (Nat.not_lt_zero _)
            | succ fuj91 ihj91 =>
              intro j91 x185 x186 x187 x188 H locs ls hj91 hfj91 hr_x185 hP hD hS hl
              refine lv_iload hx hb dX11_round_38 (lv_at hl 0 rfl) ?_
              refine lv_iload_n hx hb dX11_round_40 rfl (lv_at hl 4 rfl) ?_
              have hs231 : kw_Split [(mrf, .inl (y 0, 3, .inl frf)), (ha, .inl (y 0, 30, .inl x185)), (r0, .inl (y 0, 6, .inl x186)), (mbr, .inl (y 0, 6, .inl x188)), (mo, .inr (11, [.ref to, .ref ke, .ref ik, .ref mrf, .long mab, .long mbl, .ref ha, .ref r0, .ref mbr, .ref mbp, .ref mby, .int (nI bl), .int (nI ta), .int (nI tl), .int (nI tk), .int vv, .ref an, .ref va])), (to, .inl (y 0, 228, .inl ft))] [] [(mrf, .inl (y 0, 3, .inl frf)), (ha, .inl (y 0, 30, .inl x185)), (r0, .inl (y 0, 6, .inl x186)), (mbr, .inl (y 0, 6, .inl x188)), (mo, .inr (11, [.ref to, .ref ke, .ref ik, .ref mrf, .long mab, .long mbl, .ref ha, .ref r0, .ref mbr, .ref mbp, .ref mby, .int (nI bl), .int (nI ta), .int (nI tl), .int (nI tk), .int vv, .ref an, .ref va])), (to, .inl (y 0, 228, .inl ft))] [] [0, 1, 2, 3, 4, 5] := ⟨rfl, rfl, rfl, rfl, rfl, by decide⟩
              refine kw_go_i hs231 hP hD hS hA (va_runS (As := [.int (nI 2)]) (rest := [.int (nI j91)]) ⟨hx, hb, hml, hown, hts⟩ (gr_pow2 l D y   _) (va_cwS 1 hts gX11_round_X11_powerOfThree rfl rfl rfl (by decide +kernel) ⟨Nat.le_of_ble_eq_true rfl, Nat.le_of_ble_eq_true rfl⟩) (kw_PreS hs231 hP hD hK hN) rfl rfl hl.1 rfl (lv_room (Nat.le_of_ble_eq_true rfl)) dX11_round_41 ⟨Nat.le_of_ble_eq_true rfl, Nat.le_of_ble_eq_true rfl⟩) (fun r232 u233 H locs hq hP hD hS => ?_)
              obtain rfl := hq
              have hP : va_P D vwCl [(mrf, .inl (y 0, 3, .inl frf)), (ha, .inl (y 0, 30, .inl x185)), (r0, .inl (y 0, 6, .inl x186)), (mbr, .inl (y 0, 6, .inl x188)), (mo, .inr (11, [.ref to, .ref ke, .ref ik, .ref mrf, .long mab, .long mbl, .ref ha, .ref r0, .ref mbr, .ref mbp, .ref mby, .int (nI bl), .int (nI ta), .int (nI tl), .int (nI tk), .int vv, .ref an, .ref va])), (to, .inl (y 0, 228, .inl ft))] H := hP
              have hD : va_D A [(mrf, .inl (y 0, 3, .inl frf)), (ha, .inl (y 0, 30, .inl x185)), (r0, .inl (y 0, 6, .inl x186)), (mbr, .inl (y 0, 6, .inl x188)), (mo, .inr (11, [.ref to, .ref ke, .ref ik, .ref mrf, .long mab, .long mbl, .ref ha, .ref r0, .ref mbr, .ref mbp, .ref mby, .int (nI bl), .int (nI ta), .int (nI tl), .int (nI tk), .int vv, .ref an, .ref va])), (to, .inl (y 0, 228, .inl ft))] := hD
              refine lv_icmp_ge (tgt := 115) hx hb dX11_round_44 (by decide) (fun h234 => ?_) (fun h235 => ?_)
              · skip
                have h234 : 9 ≤ j91 := (nI_leI (a := 9) (b := j91) (by omega) (by omega)).mp h234
                refine lv_iload_n hx hb dX11_round_115 rfl (lv_at hl 5 rfl) ?_
                refine lv_iconst (v := (-1)) hx hb dX11_round_116 (by decide) ?_
                refine lv_icmp_ne (tgt := 125) hx hb dX11_round_117 (by decide) (fun h236 => ?_) (fun h237 => ?_)
                · skip
                  refine lv_iload_n hx hb dX11_round_125 rfl (lv_at hl 5 rfl) ?_
                  refine lv_iload_n hx hb dX11_round_126 rfl (lv_at hl 4 rfl) ?_
                  refine lv_icmp_ge (tgt := 139) hx hb dX11_round_127 (by decide) (fun h238 => ?_) (fun h239 => ?_)
                  · skip
                    refine lv_bipush (v := (-5)) hx hb dX11_round_139 (by decide) ?_
                    exact W.iret (v := (-5)) hx hb hr (fun tZ ht hW => ⟨⟨(-5), (frf, x185, x186, x188), rfl, ⟨hr_x185, by first | omega | (dsimp only; omega)⟩, by rw [ht]; exact hP.sub [4, 0, 5, 1, 2, 3] rfl, hD.sub [4, 0, 5, 1, 2, 3] (by decide) rfl⟩, hS.F ht⟩) hS.2.2 dX11_round_141
                  · skip
                    refine lv_aload_n hx hb dX11_round_130 rfl (lv_at hl 2 rfl) ?_
                    refine va_get (D := D) (ci := 11) (v := .ref mbr) (C := RX11) (T := TX11) (N := 18) hx hb hts iw11 hown hK hP 4 rfl rfl 8 (by decide) fw2 (fun _ h9 => h9) rfl dX11_round_131 ?_
                    refine lv_iload_n hx hb dX11_round_134 rfl (lv_at hl 5 rfl) ?_
                    refine va_iald hx hb hK hP 3 0 rfl rfl (kw_rr (Int32.not_lt.mpr h14) (Int32.not_le.mp h239) h236 (by omega) (by decide)) dX11_round_135 ?_
                    refine lv_goto (tgt := 141) hx hb dX11_round_136 (by decide) ?_
                    exact W.iret (v := (x188 (x3.toNatClampNeg))) hx hb hr (fun tZ ht hW => ⟨⟨(x188 (x3.toNatClampNeg)), (frf, x185, x186, x188), rfl, ⟨hr_x185, by first | omega | (dsimp only; omega)⟩, by rw [ht]; exact hP.sub [4, 0, 5, 1, 2, 3] rfl, hD.sub [4, 0, 5, 1, 2, 3] (by decide) rfl⟩, hS.F ht⟩) hS.2.2 dX11_round_141
                · skip
                  refine lv_iload hx hb dX11_round_120 (lv_at hl 1 rfl) ?_
                  refine lv_goto (tgt := 141) hx hb dX11_round_122 (by decide) ?_
                  exact W.iret (v := x187) hx hb hr (fun tZ ht hW => ⟨⟨x187, (frf, x185, x186, x188), rfl, ⟨hr_x185, by first | omega | (dsimp only; omega)⟩, by rw [ht]; exact hP.sub [4, 0, 5, 1, 2, 3] rfl, hD.sub [4, 0, 5, 1, 2, 3] (by decide) rfl⟩, hS.F ht⟩) hS.2.2 dX11_round_141
              · skip
                have h235 : ¬ 9 ≤ j91 := fun q9 => h235 ((nI_leI (a := 9) (b := j91) (by omega) (by omega)).mpr q9)
                refine lv_aload_n hx hb dX11_round_47 rfl (lv_at hl 2 rfl) ?_
                refine lv_iload_n hx hb dX11_round_48 rfl (lv_at hl 3 rfl) ?_
                refine lv_iload_n hx hb dX11_round_49 rfl (lv_at hl 4 rfl) ?_
                refine lv_iload hx hb dX11_round_50 (lv_at hl 0 rfl) ?_
                have hs240 : kw_Split [(mrf, .inl (y 0, 3, .inl frf)), (ha, .inl (y 0, 30, .inl x185)), (r0, .inl (y 0, 6, .inl x186)), (mbr, .inl (y 0, 6, .inl x188)), (mo, .inr (11, [.ref to, .ref ke, .ref ik, .ref mrf, .long mab, .long mbl, .ref ha, .ref r0, .ref mbr, .ref mbp, .ref mby, .int (nI bl), .int (nI ta), .int (nI tl), .int (nI tk), .int vv, .ref an, .ref va])), (to, .inl (y 0, 228, .inl ft))] [(mo, .inr (11, [.ref to, .ref ke, .ref ik, .ref mrf, .long mab, .long mbl, .ref ha, .ref r0, .ref mbr, .ref mbp, .ref mby, .int (nI bl), .int (nI ta), .int (nI tl), .int (nI tk), .int vv, .ref an, .ref va])), (to, .inl (y 0, 228, .inl ft)), (ha, .inl (y 0, 30, .inl x185)), (r0, .inl (y 0, 6, .inl x186))] [(mrf, .inl (y 0, 3, .inl frf)), (mbr, .inl (y 0, 6, .inl x188))] [4, 5, 1, 2] [0, 3] := ⟨rfl, rfl, rfl, rfl, rfl, by decide⟩
                refine kw_go_i hs240 hP hD hS hA (va_runV (As := [.int (nI j4), .int (nI 2), .int (nI j91)]) (rest := []) ⟨hx, hb, hml, hown, hts⟩ (gr_roundBy l D y mo to ke ik mrf ha r0 mbr mbp mby an va mab mbl bl ta tl tk vv ft fi gl mi no un x185 x186 j4 2 (nI j91) hk0_ hk1_ hk2_ hk3_ hk4_ hkt hfi hgl hmi hno hun hr_x185 h5 h11 h12 _) (cwV 3 hts gX11_round_X11_roundBy rfl rfl rfl (by decide +kernel) ⟨Nat.le_of_ble_eq_true rfl, Nat.le_of_ble_eq_true rfl⟩) (kw_PreV (ci := 11) (q0 := 4) hs240 hP hD hK hN rfl rfl) rfl rfl hl.1 rfl (lv_room (Nat.le_of_ble_eq_true rfl)) dX11_round_52 ⟨Nat.le_of_ble_eq_true rfl, Nat.le_of_ble_eq_true rfl⟩) (fun r241 u242 H locs hq hP hD hS => ?_)
                obtain ⟨v243, v244⟩ := u242
                try dsimp only at hq
                have h245 := hq
                have hP : va_P D vwCl [(mrf, .inl (y 0, 3, .inl frf)), (mbr, .inl (y 0, 6, .inl x188)), (mo, .inr (11, [.ref to, .ref ke, .ref ik, .ref mrf, .long mab, .long mbl, .ref ha, .ref r0, .ref mbr, .ref mbp, .ref mby, .int (nI bl), .int (nI ta), .int (nI tl), .int (nI tk), .int vv, .ref an, .ref va])), (to, .inl (y 0, 228, .inl ft)), (ha, .inl (y 0, 30, .inl v243)), (r0, .inl (y 0, 6, .inl v244))] H := hP
                have hD : va_D A [(mrf, .inl (y 0, 3, .inl frf)), (mbr, .inl (y 0, 6, .inl x188)), (mo, .inr (11, [.ref to, .ref ke, .ref ik, .ref mrf, .long mab, .long mbl, .ref ha, .ref r0, .ref mbr, .ref mbp, .ref mby, .int (nI bl), .int (nI ta), .int (nI tl), .int (nI tk), .int vv, .ref an, .ref va])), (to, .inl (y 0, 228, .inl ft)), (ha, .inl (y 0, 30, .inl v243)), (r0, .inl (y 0, 6, .inl v244))] := hD
                refine lv_istore (lv' := [(6, .int r241), (5, .int (nI j91)), (4, .int x187), (0, .ref mo), (1, .int (nI j4)), (2, .int (nI 2)), (3, .int x3)]) hx hb dX11_round_55 hl (by decide) rfl (fun ls hl => ?_)
                refine lv_iconst (v := 0) hx hb dX11_round_57 (by decide) ?_
                refine lv_istore (lv' := [(7, .int 0), (6, .int r241), (5, .int (nI j91)), (4, .int x187), (0, .ref mo), (1, .int (nI j4)), (2, .int (nI 2)), (3, .int x3)]) hx hb dX11_round_58 hl (by decide) rfl (fun ls hl => ?_)
                have lp263 : ∀ (fuj92 j92 : Nat) (x254 : Nat → Int32) (H : Heap) (locs : List Loc) (ls : Array Slot), j92 ≤ 2 → 2 - j92 < fuj92 → va_P D vwCl [(mrf, .inl (y 0, 3, .inl frf)), (mbr, .inl (y 0, 6, .inl x254)), (mo, .inr (11, [.ref to, .ref ke, .ref ik, .ref mrf, .long mab, .long mbl, .ref ha, .ref r0, .ref mbr, .ref mbp, .ref mby, .int (nI bl), .int (nI ta), .int (nI tl), .int (nI tk), .int vv, .ref an, .ref va])), (to, .inl (y 0, 228, .inl ft)), (ha, .inl (y 0, 30, .inl v243)), (r0, .inl (y 0, 6, .inl v244))] H → va_D A [(mrf, .inl (y 0, 3, .inl frf)), (mbr, .inl (y 0, 6, .inl x254)), (mo, .inr (11, [.ref to, .ref ke, .ref ik, .ref mrf, .long mab, .long mbl, .ref ha, .ref r0, .ref mbr, .ref mbp, .ref mby, .int (nI bl), .int (nI ta), .int (nI tl), .int (nI tk), .int vv, .ref an, .ref va])), (to, .inl (y 0, 228, .inl ft)), (ha, .inl (y 0, 30, .inl v243)), (r0, .inl (y 0, 6, .inl v244))] → va_S A s.heap H locs → lv_has ls 8 [(7, .int (nI j92)), (6, .int r241), (5, .int (nI j91)), (4, .int x187), (0, .ref mo), (1, .int (nI j4)), (2, .int (nI 2)), (3, .int x3)] → W pZ l eZ ({ frames := 6, cells := 0, slots := 0, locals := 180 }) s mZ [.ref mo, .int (nI j4), .int (nI 2), .int x3].toArray beZ meZ cZ H locs 0 0 (MQ beZ (va_Qi (fun (r : Int32) (u : (Nat → Int32) × (Nat → Int32) × (Nat → Int32) × (Nat → Int32)) => kr_t 30 u.2.1 ∧ (gl = 0 ∨ 0 < fi)) (kw_B D (fun u => [(mo, .inr (11, [.ref to, .ref ke, .ref ik, .ref mrf, .long mab, .long mbl, .ref ha, .ref r0, .ref mbr, .ref mbp, .ref mby, .int (nI bl), .int (nI ta), .int (nI tl), .int (nI tk), .int vv, .ref an, .ref va])), (mrf, .inl (y 0, 3, .inl u.1)), (to, .inl (y 0, 228, .inl ft)), (ha, .inl (y 0, 30, .inl u.2.1)), (r0, .inl (y 0, 6, .inl u.2.2.1)), (mbr, .inl (y 0, 6, .inl u.2.2.2))]) A) A) [.ref mo, .int (nI j4), .int (nI 2), .int x3].toArray s 0 0 A) (F0 mZ 60 ls []) := by
                  intro fuj92
                  induction fuj92 with
                  | zero => intro j92 x254 H locs ls hj9 hf9; exact absurd hf9 (Nat.not_lt_zero _)
                  | succ fuj92 ihj92 =>
                    intro j92 x254 H locs ls hj92 hfj92  hP hD hS hl
                    refine lv_iload hx hb dX11_round_60 (lv_at hl 0 rfl) ?_
                    refine lv_iload_n hx hb dX11_round_62 rfl (lv_at hl 6 rfl) ?_
                    refine lv_icmp_ge (tgt := 93) hx hb dX11_round_63 (by decide) (fun h264 => ?_) (fun h265 => ?_)
                    · skip
                      have h264 : 2 ≤ j92 := (nI_leI (a := 2) (b := j92) (by omega) (by omega)).mp h264
                      refine lv_iload hx hb dX11_round_93 (lv_at hl 1 rfl) ?_
                      refine lv_iload hx hb dX11_round_95 (lv_at hl 3 rfl) ?_
                      refine lv_icmp_le (tgt := 105) hx hb dX11_round_97 (by decide) (fun h266 => ?_) (fun h267 => ?_)
                      · skip
                        refine lv_iload hx hb dX11_round_105 (lv_at hl 3 rfl) ?_
                        refine lv_istore (lv' := [(4, .int x187), (7, .int (nI j92)), (6, .int r241), (5, .int (nI j91)), (0, .ref mo), (1, .int (nI j4)), (2, .int (nI 2)), (3, .int x3)]) hx hb dX11_round_107 hl (by decide) rfl (fun ls hl => ?_)
                        refine lv_iinc (v := (nI (j91 + 1))) (lv' := [(5, .int (nI (j91 + 1))), (4, .int x187), (7, .int (nI j92)), (6, .int r241), (0, .ref mo), (1, .int (nI j4)), (2, .int (nI 2)), (3, .int x3)]) hx hb dX11_round_109 hl (k := 3) rfl (nI_1 j91) (by decide) rfl (fun ls hl => ?_)
                        refine lv_goto (tgt := 38) hx hb dX11_round_112 (by decide) ?_
                        exact ihj91 (j91 + 1) v243 v244 x187 x254 H locs ls (by omega) (by omega) h245 (hP.sub [0, 4, 5, 1, 2, 3] rfl) (hD.sub [0, 4, 5, 1, 2, 3] (by decide) rfl) hS (lv_sub hl [0, 1, 4, 5, 6, 7] rfl)
                      · skip
                        refine lv_iload hx hb dX11_round_100 (lv_at hl 1 rfl) ?_
                        refine lv_goto (tgt := 107) hx hb dX11_round_102 (by decide) ?_
                        refine lv_istore (lv' := [(4, .int r241), (7, .int (nI j92)), (6, .int r241), (5, .int (nI j91)), (0, .ref mo), (1, .int (nI j4)), (2, .int (nI 2)), (3, .int x3)]) hx hb dX11_round_107 hl (by decide) rfl (fun ls hl => ?_)
                        refine lv_iinc (v := (nI (j91 + 1))) (lv' := [(5, .int (nI (j91 + 1))), (4, .int r241), (7, .int (nI j92)), (6, .int r241), (0, .ref mo), (1, .int (nI j4)), (2, .int (nI 2)), (3, .int x3)]) hx hb dX11_round_109 hl (k := 3) rfl (nI_1 j91) (by decide) rfl (fun ls hl => ?_)
                        refine lv_goto (tgt := 38) hx hb dX11_round_112 (by decide) ?_
                        exact ihj91 (j91 + 1) v243 v244 r241 x254 H locs ls (by omega) (by omega) h245 (hP.sub [0, 4, 5, 1, 2, 3] rfl) (hD.sub [0, 4, 5, 1, 2, 3] (by decide) rfl) hS (lv_sub hl [0, 1, 4, 5, 6, 7] rfl)
                    · skip
                      have h265 : ¬ 2 ≤ j92 := fun q9 => h265 ((nI_leI (a := 2) (b := j92) (by omega) (by omega)).mpr q9)
                      refine lv_iload hx hb dX11_round_66 (lv_at hl 1 rfl) ?_
                      refine lv_iload hx hb dX11_round_68 (lv_at hl 3 rfl) ?_
                      refine lv_icmp_le (tgt := 93) hx hb dX11_round_70 (by decide) (fun h268 => ?_) (fun h269 => ?_)
                      · skip
                        refine lv_iload hx hb dX11_round_93 (lv_at hl 1 rfl) ?_
                        refine lv_iload hx hb dX11_round_95 (lv_at hl 3 rfl) ?_
                        refine lv_icmp_le (tgt := 105) hx hb dX11_round_97 (by decide) (fun h270 => ?_) (fun h271 => ?_)
                        · skip
                          refine lv_iload hx hb dX11_round_105 (lv_at hl 3 rfl) ?_
                          refine lv_istore (lv' := [(4, .int x187), (7, .int (nI j92)), (6, .int r241), (5, .int (nI j91)), (0, .ref mo), (1, .int (nI j4)), (2, .int (nI 2)), (3, .int x3)]) hx hb dX11_round_107 hl (by decide) rfl (fun ls hl => ?_)
                          refine lv_iinc (v := (nI (j91 + 1))) (lv' := [(5, .int (nI (j91 + 1))), (4, .int x187), (7, .int (nI j92)), (6, .int r241), (0, .ref mo), (1, .int (nI j4)), (2, .int (nI 2)), (3, .int x3)]) hx hb dX11_round_109 hl (k := 3) rfl (nI_1 j91) (by decide) rfl (fun ls hl => ?_)
                          refine lv_goto (tgt := 38) hx hb dX11_round_112 (by decide) ?_
                          exact ihj91 (j91 + 1) v243 v244 x187 x254 H locs ls (by omega) (by omega) h245 (hP.sub [0, 4, 5, 1, 2, 3] rfl) (hD.sub [0, 4, 5, 1, 2, 3] (by decide) rfl) hS (lv_sub hl [0, 1, 4, 5, 6, 7] rfl)
                        · skip
                          exact absurd h268 h271
                      · skip
                        refine lv_aload_n hx hb dX11_round_73 rfl (lv_at hl 4 rfl) ?_
                        refine va_get (D := D) (ci := 11) (v := .ref mbr) (C := RX11) (T := TX11) (N := 18) hx hb hts iw11 hown hK hP 2 rfl rfl 8 (by decide) fw2 (fun _ h9 => h9) rfl dX11_round_74 ?_
                        refine lv_iload hx hb dX11_round_77 (lv_at hl 0 rfl) ?_
                        refine lv_aload_n hx hb dX11_round_79 rfl (lv_at hl 4 rfl) ?_
                        refine va_get (D := D) (ci := 11) (v := .ref r0) (C := RX11) (T := TX11) (N := 18) hx hb hts iw11 hown hK hP 2 rfl rfl 7 (by decide) fw3 (fun _ h9 => h9) rfl dX11_round_80 ?_
                        refine lv_iload hx hb dX11_round_83 (lv_at hl 0 rfl) ?_
                        refine va_iald hx hb hK hP 5 0 rfl rfl (vp_in_nI (by omega) (by decide)) dX11_round_85 ?_
                        rw [nI_clamp (n := j92) (by omega)]
                        refine va_iast hx hb hK hP hD hS 1 0 rfl rfl (vp_in_nI (by omega) (by decide)) dX11_round_86 (fun H locs hP hD hS => ?_)
                        rw [nI_clamp (n := j92) (by omega)] at hP hD
                        have hP : va_P D vwCl [(mrf, .inl (y 0, 3, .inl frf)), (mbr, .inl (y 0, 6, .inl (upd x254 j92 (v244 j92)))), (mo, .inr (11, [.ref to, .ref ke, .ref ik, .ref mrf, .long mab, .long mbl, .ref ha, .ref r0, .ref mbr, .ref mbp, .ref mby, .int (nI bl), .int (nI ta), .int (nI tl), .int (nI tk), .int vv, .ref an, .ref va])), (to, .inl (y 0, 228, .inl ft)), (ha, .inl (y 0, 30, .inl v243)), (r0, .inl (y 0, 6, .inl v244))] H := hP
                        have hD : va_D A [(mrf, .inl (y 0, 3, .inl frf)), (mbr, .inl (y 0, 6, .inl (upd x254 j92 (v244 j92)))), (mo, .inr (11, [.ref to, .ref ke, .ref ik, .ref mrf, .long mab, .long mbl, .ref ha, .ref r0, .ref mbr, .ref mbp, .ref mby, .int (nI bl), .int (nI ta), .int (nI tl), .int (nI tk), .int vv, .ref an, .ref va])), (to, .inl (y 0, 228, .inl ft)), (ha, .inl (y 0, 30, .inl v243)), (r0, .inl (y 0, 6, .inl v244))] := hD
                        refine lv_iinc (v := (nI (j92 + 1))) (lv' := [(7, .int (nI (j92 + 1))), (6, .int r241), (5, .int (nI j91)), (4, .int x187), (0, .ref mo), (1, .int (nI j4)), (2, .int (nI 2)), (3, .int x3)]) hx hb dX11_round_87 hl (k := 0) rfl (nI_1 j92) (by decide) rfl (fun ls hl => ?_)
                        refine lv_goto (tgt := 60) hx hb dX11_round_90 (by decide) ?_
                        exact ihj92 (j92 + 1) (upd x254 j92 (v244 j92)) H locs ls (by omega) (by omega)  (hP.sub [0, 1, 2, 3, 4, 5] rfl) (hD.sub [0, 1, 2, 3, 4, 5] (by decide) rfl) hS (lv_sub hl [0, 1, 2, 3, 4, 5, 6, 7] rfl)
                exact lp263 (2 + 1) 0 x188 _ _ _ (by omega) (by omega)  hP hD hS (lv_sub hl [0, 1, 2, 3, 4, 5, 6, 7] rfl)
          exact lp230 (9 + 1) 0 fh fr0 (-1) fbr _ _ _ (by omega) (by omega) hkh hP hD hS (lv_sub hl [0, 1, 2, 3, 4, 5] rfl)
        · skip
          refine lv_iconst (v := (-1)) hx hb dX11_round_32 (by decide) ?_
          refine lv_istore (lv' := [(4, .int (-1)), (0, .ref mo), (1, .int (nI j4)), (2, .int (nI 3)), (3, .int x3)]) hx hb dX11_round_33 hl (by decide) rfl (fun ls hl => ?_)
          refine lv_iconst (v := 0) hx hb dX11_round_35 (by decide) ?_
          refine lv_istore (lv' := [(5, .int 0), (4, .int (-1)), (0, .ref mo), (1, .int (nI j4)), (2, .int (nI 3)), (3, .int x3)]) hx hb dX11_round_36 hl (by decide) rfl (fun ls hl => ?_)
          have lp358 : ∀ (fuj91 j91 : Nat) (x313 : Nat → Int32) (x314 : Nat → Int32) (x315 : Int32) (x316 : Nat → Int32) (H : Heap) (locs : List Loc) (ls : Array Slot), j91 ≤ 27 → 27 - j91 < fuj91 → kr_t 30 x313 → va_P D vwCl [(mrf, .inl (y 0, 3, .inl frf)), (ha, .inl (y 0, 30, .inl x313)), (r0, .inl (y 0, 6, .inl x314)), (mbr, .inl (y 0, 6, .inl x316)), (mo, .inr (11, [.ref to, .ref ke, .ref ik, .ref mrf, .long mab, .long mbl, .ref ha, .ref r0, .ref mbr, .ref mbp, .ref mby, .int (nI bl), .int (nI ta), .int (nI tl), .int (nI tk), .int vv, .ref an, .ref va])), (to, .inl (y 0, 228, .inl ft))] H → va_D A [(mrf, .inl (y 0, 3, .inl frf)), (ha, .inl (y 0, 30, .inl x313)), (r0, .inl (y 0, 6, .inl x314)), (mbr, .inl (y 0, 6, .inl x316)), (mo, .inr (11, [.ref to, .ref ke, .ref ik, .ref mrf, .long mab, .long mbl, .ref ha, .ref r0, .ref mbr, .ref mbp, .ref mby, .int (nI bl), .int (nI ta), .int (nI tl), .int (nI tk), .int vv, .ref an, .ref va])), (to, .inl (y 0, 228, .inl ft))] → va_S A s.heap H locs → lv_has ls 8 [(5, .int (nI j91)), (4, .int x315), (0, .ref mo), (1, .int (nI j4)), (2, .int (nI 3)), (3, .int x3)] → W pZ l eZ ({ frames := 6, cells := 0, slots := 0, locals := 180 }) s mZ [.ref mo, .int (nI j4), .int (nI 3), .int x3].toArray beZ meZ cZ H locs 0 0 (MQ beZ (va_Qi (fun (r : Int32) (u : (Nat → Int32) × (Nat → Int32) × (Nat → Int32) × (Nat → Int32)) => kr_t 30 u.2.1 ∧ (gl = 0 ∨ 0 < fi)) (kw_B D (fun u => [(mo, .inr (11, [.ref to, .ref ke, .ref ik, .ref mrf, .long mab, .long mbl, .ref ha, .ref r0, .ref mbr, .ref mbp, .ref mby, .int (nI bl), .int (nI ta), .int (nI tl), .int (nI tk), .int vv, .ref an, .ref va])), (mrf, .inl (y 0, 3, .inl u.1)), (to, .inl (y 0, 228, .inl ft)), (ha, .inl (y 0, 30, .inl u.2.1)), (r0, .inl (y 0, 6, .inl u.2.2.1)), (mbr, .inl (y 0, 6, .inl u.2.2.2))]) A) A) [.ref mo, .int (nI j4), .int (nI 3), .int x3].toArray s 0 0 A) (F0 mZ 38 ls []) := by
            intro fuj91
            induction fuj91 with
            | zero => intro j91 x313 x314 x315 x316 H locs ls hj9 hf9; exact absurd hf9 (Nat.not_lt_zero _)
            | succ fuj91 ihj91 =>
              intro j91 x313 x314 x315 x316 H locs ls hj91 hfj91 hr_x313 hP hD hS hl
              refine lv_iload hx hb dX11_round_38 (lv_at hl 0 rfl) ?_
              refine lv_iload_n hx hb dX11_round_40 rfl (lv_at hl 4 rfl) ?_
              have hs359 : kw_Split [(mrf, .inl (y 0, 3, .inl frf)), (ha, .inl (y 0, 30, .inl x313)), (r0, .inl (y 0, 6, .inl x314)), (mbr, .inl (y 0, 6, .inl x316)), (mo, .inr (11, [.ref to, .ref ke, .ref ik, .ref mrf, .long mab, .long mbl, .ref ha, .ref r0, .ref mbr, .ref mbp, .ref mby, .int (nI bl), .int (nI ta), .int (nI tl), .int (nI tk), .int vv, .ref an, .ref va])), (to, .inl (y 0, 228, .inl ft))] [] [(mrf, .inl (y 0, 3, .inl frf)), (ha, .inl (y 0, 30, .inl x313)), (r0, .inl (y 0, 6, .inl x314)), (mbr, .inl (y 0, 6, .inl x316)), (mo, .inr (11, [.ref to, .ref ke, .ref ik, .ref mrf, .long mab, .long mbl, .ref ha, .ref r0, .ref mbr, .ref mbp, .ref mby, .int (nI bl), .int (nI ta), .int (nI tl), .int (nI tk), .int vv, .ref an, .ref va])), (to, .inl (y 0, 228, .inl ft))] [] [0, 1, 2, 3, 4, 5] := ⟨rfl, rfl, rfl, rfl, rfl, by decide⟩
              refine kw_go_i hs359 hP hD hS hA (va_runS (As := [.int (nI 3)]) (rest := [.int (nI j91)]) ⟨hx, hb, hml, hown, hts⟩ (gr_pow3 l D y   _) (va_cwS 1 hts gX11_round_X11_powerOfThree rfl rfl rfl (by decide +kernel) ⟨Nat.le_of_ble_eq_true rfl, Nat.le_of_ble_eq_true rfl⟩) (kw_PreS hs359 hP hD hK hN) rfl rfl hl.1 rfl (lv_room (Nat.le_of_ble_eq_true rfl)) dX11_round_41 ⟨Nat.le_of_ble_eq_true rfl, Nat.le_of_ble_eq_true rfl⟩) (fun r360 u361 H locs hq hP hD hS => ?_)
              obtain rfl := hq
              have hP : va_P D vwCl [(mrf, .inl (y 0, 3, .inl frf)), (ha, .inl (y 0, 30, .inl x313)), (r0, .inl (y 0, 6, .inl x314)), (mbr, .inl (y 0, 6, .inl x316)), (mo, .inr (11, [.ref to, .ref ke, .ref ik, .ref mrf, .long mab, .long mbl, .ref ha, .ref r0, .ref mbr, .ref mbp, .ref mby, .int (nI bl), .int (nI ta), .int (nI tl), .int (nI tk), .int vv, .ref an, .ref va])), (to, .inl (y 0, 228, .inl ft))] H := hP
              have hD : va_D A [(mrf, .inl (y 0, 3, .inl frf)), (ha, .inl (y 0, 30, .inl x313)), (r0, .inl (y 0, 6, .inl x314)), (mbr, .inl (y 0, 6, .inl x316)), (mo, .inr (11, [.ref to, .ref ke, .ref ik, .ref mrf, .long mab, .long mbl, .ref ha, .ref r0, .ref mbr, .ref mbp, .ref mby, .int (nI bl), .int (nI ta), .int (nI tl), .int (nI tk), .int vv, .ref an, .ref va])), (to, .inl (y 0, 228, .inl ft))] := hD
              refine lv_icmp_ge (tgt := 115) hx hb dX11_round_44 (by decide) (fun h362 => ?_) (fun h363 => ?_)
              · skip
                have h362 : 27 ≤ j91 := (nI_leI (a := 27) (b := j91) (by omega) (by omega)).mp h362
                refine lv_iload_n hx hb dX11_round_115 rfl (lv_at hl 5 rfl) ?_
                refine lv_iconst (v := (-1)) hx hb dX11_round_116 (by decide) ?_
                refine lv_icmp_ne (tgt := 125) hx hb dX11_round_117 (by decide) (fun h364 => ?_) (fun h365 => ?_)
                · skip
                  refine lv_iload_n hx hb dX11_round_125 rfl (lv_at hl 5 rfl) ?_
                  refine lv_iload_n hx hb dX11_round_126 rfl (lv_at hl 4 rfl) ?_
                  refine lv_icmp_ge (tgt := 139) hx hb dX11_round_127 (by decide) (fun h366 => ?_) (fun h367 => ?_)
                  · skip
                    refine lv_bipush (v := (-5)) hx hb dX11_round_139 (by decide) ?_
                    exact W.iret (v := (-5)) hx hb hr (fun tZ ht hW => ⟨⟨(-5), (frf, x313, x314, x316), rfl, ⟨hr_x313, by first | omega | (dsimp only; omega)⟩, by rw [ht]; exact hP.sub [4, 0, 5, 1, 2, 3] rfl, hD.sub [4, 0, 5, 1, 2, 3] (by decide) rfl⟩, hS.F ht⟩) hS.2.2 dX11_round_141
                  · skip
                    refine lv_aload_n hx hb dX11_round_130 rfl (lv_at hl 2 rfl) ?_
                    refine va_get (D := D) (ci := 11) (v := .ref mbr) (C := RX11) (T := TX11) (N := 18) hx hb hts iw11 hown hK hP 4 rfl rfl 8 (by decide) fw2 (fun _ h9 => h9) rfl dX11_round_131 ?_
                    refine lv_iload_n hx hb dX11_round_134 rfl (lv_at hl 5 rfl) ?_
                    refine va_iald hx hb hK hP 3 0 rfl rfl (kw_rr (Int32.not_lt.mpr h14) (Int32.not_le.mp h367) h364 (by omega) (by decide)) dX11_round_135 ?_
                    refine lv_goto (tgt := 141) hx hb dX11_round_136 (by decide) ?_
                    exact W.iret (v := (x316 (x3.toNatClampNeg))) hx hb hr (fun tZ ht hW => ⟨⟨(x316 (x3.toNatClampNeg)), (frf, x313, x314, x316), rfl, ⟨hr_x313, by first | omega | (dsimp only; omega)⟩, by rw [ht]; exact hP.sub [4, 0, 5, 1, 2, 3] rfl, hD.sub [4, 0, 5, 1, 2, 3] (by decide) rfl⟩, hS.F ht⟩) hS.2.2 dX11_round_141
                · skip
                  refine lv_iload hx hb dX11_round_120 (lv_at hl 1 rfl) ?_
                  refine lv_goto (tgt := 141) hx hb dX11_round_122 (by decide) ?_
                  exact W.iret (v := x315) hx hb hr (fun tZ ht hW => ⟨⟨x315, (frf, x313, x314, x316), rfl, ⟨hr_x313, by first | omega | (dsimp only; omega)⟩, by rw [ht]; exact hP.sub [4, 0, 5, 1, 2, 3] rfl, hD.sub [4, 0, 5, 1, 2, 3] (by decide) rfl⟩, hS.F ht⟩) hS.2.2 dX11_round_141
              · skip
                have h363 : ¬ 27 ≤ j91 := fun q9 => h363 ((nI_leI (a := 27) (b := j91) (by omega) (by omega)).mpr q9)
                refine lv_aload_n hx hb dX11_round_47 rfl (lv_at hl 2 rfl) ?_
                refine lv_iload_n hx hb dX11_round_48 rfl (lv_at hl 3 rfl) ?_
                refine lv_iload_n hx hb dX11_round_49 rfl (lv_at hl 4 rfl) ?_
                refine lv_iload hx hb dX11_round_50 (lv_at hl 0 rfl) ?_
                have hs368 : kw_Split [(mrf, .inl (y 0, 3, .inl frf)), (ha, .inl (y 0, 30, .inl x313)), (r0, .inl (y 0, 6, .inl x314)), (mbr, .inl (y 0, 6, .inl x316)), (mo, .inr (11, [.ref to, .ref ke, .ref ik, .ref mrf, .long mab, .long mbl, .ref ha, .ref r0, .ref mbr, .ref mbp, .ref mby, .int (nI bl), .int (nI ta), .int (nI tl), .int (nI tk), .int vv, .ref an, .ref va])), (to, .inl (y 0, 228, .inl ft))] [(mo, .inr (11, [.ref to, .ref ke, .ref ik, .ref mrf, .long mab, .long mbl, .ref ha, .ref r0, .ref mbr, .ref mbp, .ref mby, .int (nI bl), .int (nI ta), .int (nI tl), .int (nI tk), .int vv, .ref an, .ref va])), (to, .inl (y 0, 228, .inl ft)), (ha, .inl (y 0, 30, .inl x313)), (r0, .inl (y 0, 6, .inl x314))] [(mrf, .inl (y 0, 3, .inl frf)), (mbr, .inl (y 0, 6, .inl x316))] [4, 5, 1, 2] [0, 3] := ⟨rfl, rfl, rfl, rfl, rfl, by decide⟩
                refine kw_go_i hs368 hP hD hS hA (va_runV (As := [.int (nI j4), .int (nI 3), .int (nI j91)]) (rest := []) ⟨hx, hb, hml, hown, hts⟩ (gr_roundBy l D y mo to ke ik mrf ha r0 mbr mbp mby an va mab mbl bl ta tl tk vv ft fi gl mi no un x313 x314 j4 3 (nI j91) hk0_ hk1_ hk2_ hk3_ hk4_ hkt hfi hgl hmi hno hun hr_x313 h5 h11 h12 _) (cwV 3 hts gX11_round_X11_roundBy rfl rfl rfl (by decide +kernel) ⟨Nat.le_of_ble_eq_true rfl, Nat.le_of_ble_eq_true rfl⟩) (kw_PreV (ci := 11) (q0 := 4) hs368 hP hD hK hN rfl rfl) rfl rfl hl.1 rfl (lv_room (Nat.le_of_ble_eq_true rfl)) dX11_round_52 ⟨Nat.le_of_ble_eq_true rfl, Nat.le_of_ble_eq_true rfl⟩) (fun r369 u370 H locs hq hP hD hS => ?_)
                obtain ⟨v371, v372⟩ := u370
                try dsimp only at hq
                have h373 := hq
                have hP : va_P D vwCl [(mrf, .inl (y 0, 3, .inl frf)), (mbr, .inl (y 0, 6, .inl x316)), (mo, .inr (11, [.ref to, .ref ke, .ref ik, .ref mrf, .long mab, .long mbl, .ref ha, .ref r0, .ref mbr, .ref mbp, .ref mby, .int (nI bl), .int (nI ta), .int (nI tl), .int (nI tk), .int vv, .ref an, .ref va])), (to, .inl (y 0, 228, .inl ft)), (ha, .inl (y 0, 30, .inl v371)), (r0, .inl (y 0, 6, .inl v372))] H := hP
                have hD : va_D A [(mrf, .inl (y 0, 3, .inl frf)), (mbr, .inl (y 0, 6, .inl x316)), (mo, .inr (11, [.ref to, .ref ke, .ref ik, .ref mrf, .long mab, .long mbl, .ref ha, .ref r0, .ref mbr, .ref mbp, .ref mby, .int (nI bl), .int (nI ta), .int (nI tl), .int (nI tk), .int vv, .ref an, .ref va])), (to, .inl (y 0, 228, .inl ft)), (ha, .inl (y 0, 30, .inl v371)), (r0, .inl (y 0, 6, .inl v372))] := hD
                refine lv_istore (lv' := [(6, .int r369), (5, .int (nI j91)), (4, .int x315), (0, .ref mo), (1, .int (nI j4)), (2, .int (nI 3)), (3, .int x3)]) hx hb dX11_round_55 hl (by decide) rfl (fun ls hl => ?_)
                refine lv_iconst (v := 0) hx hb dX11_round_57 (by decide) ?_
                refine lv_istore (lv' := [(7, .int 0), (6, .int r369), (5, .int (nI j91)), (4, .int x315), (0, .ref mo), (1, .int (nI j4)), (2, .int (nI 3)), (3, .int x3)]) hx hb dX11_round_58 hl (by decide) rfl (fun ls hl => ?_)
                have lp391 : ∀ (fuj92 j92 : Nat) (x382 : Nat → Int32) (H : Heap) (locs : List Loc) (ls : Array Slot), j92 ≤ 3 → 3 - j92 < fuj92 → va_P D vwCl [(mrf, .inl (y 0, 3, .inl frf)), (mbr, .inl (y 0, 6, .inl x382)), (mo, .inr (11, [.ref to, .ref ke, .ref ik, .ref mrf, .long mab, .long mbl, .ref ha, .ref r0, .ref mbr, .ref mbp, .ref mby, .int (nI bl), .int (nI ta), .int (nI tl), .int (nI tk), .int vv, .ref an, .ref va])), (to, .inl (y 0, 228, .inl ft)), (ha, .inl (y 0, 30, .inl v371)), (r0, .inl (y 0, 6, .inl v372))] H → va_D A [(mrf, .inl (y 0, 3, .inl frf)), (mbr, .inl (y 0, 6, .inl x382)), (mo, .inr (11, [.ref to, .ref ke, .ref ik, .ref mrf, .long mab, .long mbl, .ref ha, .ref r0, .ref mbr, .ref mbp, .ref mby, .int (nI bl), .int (nI ta), .int (nI tl), .int (nI tk), .int vv, .ref an, .ref va])), (to, .inl (y 0, 228, .inl ft)), (ha, .inl (y 0, 30, .inl v371)), (r0, .inl (y 0, 6, .inl v372))] → va_S A s.heap H locs → lv_has ls 8 [(7, .int (nI j92)), (6, .int r369), (5, .int (nI j91)), (4, .int x315), (0, .ref mo), (1, .int (nI j4)), (2, .int (nI 3)), (3, .int x3)] → W pZ l eZ ({ frames := 6, cells := 0, slots := 0, locals := 180 }) s mZ [.ref mo, .int (nI j4), .int (nI 3), .int x3].toArray beZ meZ cZ H locs 0 0 (MQ beZ (va_Qi (fun (r : Int32) (u : (Nat → Int32) × (Nat → Int32) × (Nat → Int32) × (Nat → Int32)) => kr_t 30 u.2.1 ∧ (gl = 0 ∨ 0 < fi)) (kw_B D (fun u => [(mo, .inr (11, [.ref to, .ref ke, .ref ik, .ref mrf, .long mab, .long mbl, .ref ha, .ref r0, .ref mbr, .ref mbp, .ref mby, .int (nI bl), .int (nI ta), .int (nI tl), .int (nI tk), .int vv, .ref an, .ref va])), (mrf, .inl (y 0, 3, .inl u.1)), (to, .inl (y 0, 228, .inl ft)), (ha, .inl (y 0, 30, .inl u.2.1)), (r0, .inl (y 0, 6, .inl u.2.2.1)), (mbr, .inl (y 0, 6, .inl u.2.2.2))]) A) A) [.ref mo, .int (nI j4), .int (nI 3), .int x3].toArray s 0 0 A) (F0 mZ 60 ls []) := by
                  intro fuj92
                  induction fuj92 with
                  | zero => intro j92 x382 H locs ls hj9 hf9; exact absurd hf9 (Nat.not_lt_zero _)
                  | succ fuj92 ihj92 =>
                    intro j92 x382 H locs ls hj92 hfj92  hP hD hS hl
                    refine lv_iload hx hb dX11_round_60 (lv_at hl 0 rfl) ?_
                    refine lv_iload_n hx hb dX11_round_62 rfl (lv_at hl 6 rfl) ?_
                    refine lv_icmp_ge (tgt := 93) hx hb dX11_round_63 (by decide) (fun h392 => ?_) (fun h393 => ?_)
                    · skip
                      have h392 : 3 ≤ j92 := (nI_leI (a := 3) (b := j92) (by omega) (by omega)).mp h392
                      refine lv_iload hx hb dX11_round_93 (lv_at hl 1 rfl) ?_
                      refine lv_iload hx hb dX11_round_95 (lv_at hl 3 rfl) ?_
                      refine lv_icmp_le (tgt := 105) hx hb dX11_round_97 (by decide) (fun h394 => ?_) (fun h395 => ?_)
                      · skip
                        refine lv_iload hx hb dX11_round_105 (lv_at hl 3 rfl) ?_
                        refine lv_istore (lv' := [(4, .int x315), (7, .int (nI j92)), (6, .int r369), (5, .int (nI j91)), (0, .ref mo), (1, .int (nI j4)), (2, .int (nI 3)), (3, .int x3)]) hx hb dX11_round_107 hl (by decide) rfl (fun ls hl => ?_)
                        refine lv_iinc (v := (nI (j91 + 1))) (lv' := [(5, .int (nI (j91 + 1))), (4, .int x315), (7, .int (nI j92)), (6, .int r369), (0, .ref mo), (1, .int (nI j4)), (2, .int (nI 3)), (3, .int x3)]) hx hb dX11_round_109 hl (k := 3) rfl (nI_1 j91) (by decide) rfl (fun ls hl => ?_)
                        refine lv_goto (tgt := 38) hx hb dX11_round_112 (by decide) ?_
                        exact ihj91 (j91 + 1) v371 v372 x315 x382 H locs ls (by omega) (by omega) h373 (hP.sub [0, 4, 5, 1, 2, 3] rfl) (hD.sub [0, 4, 5, 1, 2, 3] (by decide) rfl) hS (lv_sub hl [0, 1, 4, 5, 6, 7] rfl)
                      · skip
                        refine lv_iload hx hb dX11_round_100 (lv_at hl 1 rfl) ?_
                        refine lv_goto (tgt := 107) hx hb dX11_round_102 (by decide) ?_
                        refine lv_istore (lv' := [(4, .int r369), (7, .int (nI j92)), (6, .int r369), (5, .int (nI j91)), (0, .ref mo), (1, .int (nI j4)), (2, .int (nI 3)), (3, .int x3)]) hx hb dX11_round_107 hl (by decide) rfl (fun ls hl => ?_)
                        refine lv_iinc (v := (nI (j91 + 1))) (lv' := [(5, .int (nI (j91 + 1))), (4, .int r369), (7, .int (nI j92)), (6, .int r369), (0, .ref mo), (1, .int (nI j4)), (2, .int (nI 3)), (3, .int x3)]) hx hb dX11_round_109 hl (k := 3) rfl (nI_1 j91) (by decide) rfl (fun ls hl => ?_)
                        refine lv_goto (tgt := 38) hx hb dX11_round_112 (by decide) ?_
                        exact ihj91 (j91 + 1) v371 v372 r369 x382 H locs ls (by omega) (by omega) h373 (hP.sub [0, 4, 5, 1, 2, 3] rfl) (hD.sub [0, 4, 5, 1, 2, 3] (by decide) rfl) hS (lv_sub hl [0, 1, 4, 5, 6, 7] rfl)
                    · skip
                      have h393 : ¬ 3 ≤ j92 := fun q9 => h393 ((nI_leI (a := 3) (b := j92) (by omega) (by omega)).mpr q9)
                      refine lv_iload hx hb dX11_round_66 (lv_at hl 1 rfl) ?_
                      refine lv_iload hx hb dX11_round_68 (lv_at hl 3 rfl) ?_
                      refine lv_icmp_le (tgt := 93) hx hb dX11_round_70 (by decide) (fun h396 => ?_) (fun h397 => ?_)
                      · skip
                        refine lv_iload hx hb dX11_round_93 (lv_at hl 1 rfl) ?_
                        refine lv_iload hx hb dX11_round_95 (lv_at hl 3 rfl) ?_
                        refine lv_icmp_le (tgt := 105) hx hb dX11_round_97 (by decide) (fun h398 => ?_) (fun h399 => ?_)
                        · skip
                          refine lv_iload hx hb dX11_round_105 (lv_at hl 3 rfl) ?_
                          refine lv_istore (lv' := [(4, .int x315), (7, .int (nI j92)), (6, .int r369), (5, .int (nI j91)), (0, .ref mo), (1, .int (nI j4)), (2, .int (nI 3)), (3, .int x3)]) hx hb dX11_round_107 hl (by decide) rfl (fun ls hl => ?_)
                          refine lv_iinc (v := (nI (j91 + 1))) (lv' := [(5, .int (nI (j91 + 1))), (4, .int x315), (7, .int (nI j92)), (6, .int r369), (0, .ref mo), (1, .int (nI j4)), (2, .int (nI 3)), (3, .int x3)]) hx hb dX11_round_109 hl (k := 3) rfl (nI_1 j91) (by decide) rfl (fun ls hl => ?_)
                          refine lv_goto (tgt := 38) hx hb dX11_round_112 (by decide) ?_
                          exact ihj91 (j91 + 1) v371 v372 x315 x382 H locs ls (by omega) (by omega) h373 (hP.sub [0, 4, 5, 1, 2, 3] rfl) (hD.sub [0, 4, 5, 1, 2, 3] (by decide) rfl) hS (lv_sub hl [0, 1, 4, 5, 6, 7] rfl)
                        · skip
                          exact absurd h396 h399
                      · skip
                        refine lv_aload_n hx hb dX11_round_73 rfl (lv_at hl 4 rfl) ?_
                        refine va_get (D := D) (ci := 11) (v := .ref mbr) (C := RX11) (T := TX11) (N := 18) hx hb hts iw11 hown hK hP 2 rfl rfl 8 (by decide) fw2 (fun _ h9 => h9) rfl dX11_round_74 ?_
                        refine lv_iload hx hb dX11_round_77 (lv_at hl 0 rfl) ?_
                        refine lv_aload_n hx hb dX11_round_79 rfl (lv_at hl 4 rfl) ?_
                        refine va_get (D := D) (ci := 11) (v := .ref r0) (C := RX11) (T := TX11) (N := 18) hx hb hts iw11 hown hK hP 2 rfl rfl 7 (by decide) fw3 (fun _ h9 => h9) rfl dX11_round_80 ?_
                        refine lv_iload hx hb dX11_round_83 (lv_at hl 0 rfl) ?_
                        refine va_iald hx hb hK hP 5 0 rfl rfl (vp_in_nI (by omega) (by decide)) dX11_round_85 ?_
                        rw [nI_clamp (n := j92) (by omega)]
                        refine va_iast hx hb hK hP hD hS 1 0 rfl rfl (vp_in_nI (by omega) (by decide)) dX11_round_86 (fun H locs hP hD hS => ?_)
                        rw [nI_clamp (n := j92) (by omega)] at hP hD
                        have hP : va_P D vwCl [(mrf, .inl (y 0, 3, .inl frf)), (mbr, .inl (y 0, 6, .inl (upd x382 j92 (v372 j92)))), (mo, .inr (11, [.ref to, .ref ke, .ref ik, .ref mrf, .long mab, .long mbl, .ref ha, .ref r0, .ref mbr, .ref mbp, .ref mby, .int (nI bl), .int (nI ta), .int (nI tl), .int (nI tk), .int vv, .ref an, .ref va])), (to, .inl (y 0, 228, .inl ft)), (ha, .inl (y 0, 30, .inl v371)), (r0, .inl (y 0, 6, .inl v372))] H := hP
                        have hD : va_D A [(mrf, .inl (y 0, 3, .inl frf)), (mbr, .inl (y 0, 6, .inl (upd x382 j92 (v372 j92)))), (mo, .inr (11, [.ref to, .ref ke, .ref ik, .ref mrf, .long mab, .long mbl, .ref ha, .ref r0, .ref mbr, .ref mbp, .ref mby, .int (nI bl), .int (nI ta), .int (nI tl), .int (nI tk), .int vv, .ref an, .ref va])), (to, .inl (y 0, 228, .inl ft)), (ha, .inl (y 0, 30, .inl v371)), (r0, .inl (y 0, 6, .inl v372))] := hD
                        refine lv_iinc (v := (nI (j92 + 1))) (lv' := [(7, .int (nI (j92 + 1))), (6, .int r369), (5, .int (nI j91)), (4, .int x315), (0, .ref mo), (1, .int (nI j4)), (2, .int (nI 3)), (3, .int x3)]) hx hb dX11_round_87 hl (k := 0) rfl (nI_1 j92) (by decide) rfl (fun ls hl => ?_)
                        refine lv_goto (tgt := 60) hx hb dX11_round_90 (by decide) ?_
                        exact ihj92 (j92 + 1) (upd x382 j92 (v372 j92)) H locs ls (by omega) (by omega)  (hP.sub [0, 1, 2, 3, 4, 5] rfl) (hD.sub [0, 1, 2, 3, 4, 5] (by decide) rfl) hS (lv_sub hl [0, 1, 2, 3, 4, 5, 6, 7] rfl)
                exact lp391 (3 + 1) 0 x316 _ _ _ (by omega) (by omega)  hP hD hS (lv_sub hl [0, 1, 2, 3, 4, 5, 6, 7] rfl)
          exact lp358 (27 + 1) 0 fh fr0 (-1) fbr _ _ _ (by omega) (by omega) hkh hP hD hS (lv_sub hl [0, 1, 2, 3, 4, 5] rfl)
        · skip
          refine lv_iconst (v := (-1)) hx hb dX11_round_32 (by decide) ?_
          refine lv_istore (lv' := [(4, .int (-1)), (0, .ref mo), (1, .int (nI j4)), (2, .int (nI 4)), (3, .int x3)]) hx hb dX11_round_33 hl (by decide) rfl (fun ls hl => ?_)
          refine lv_iconst (v := 0) hx hb dX11_round_35 (by decide) ?_
          refine lv_istore (lv' := [(5, .int 0), (4, .int (-1)), (0, .ref mo), (1, .int (nI j4)), (2, .int (nI 4)), (3, .int x3)]) hx hb dX11_round_36 hl (by decide) rfl (fun ls hl => ?_)
          have lp486 : ∀ (fuj91 j91 : Nat) (x441 : Nat → Int32) (x442 : Nat → Int32) (x443 : Int32) (x444 : Nat → Int32) (H : Heap) (locs : List Loc) (ls : Array Slot), j91 ≤ 81 → 81 - j91 < fuj91 → kr_t 30 x441 → va_P D vwCl [(mrf, .inl (y 0, 3, .inl frf)), (ha, .inl (y 0, 30, .inl x441)), (r0, .inl (y 0, 6, .inl x442)), (mbr, .inl (y 0, 6, .inl x444)), (mo, .inr (11, [.ref to, .ref ke, .ref ik, .ref mrf, .long mab, .long mbl, .ref ha, .ref r0, .ref mbr, .ref mbp, .ref mby, .int (nI bl), .int (nI ta), .int (nI tl), .int (nI tk), .int vv, .ref an, .ref va])), (to, .inl (y 0, 228, .inl ft))] H → va_D A [(mrf, .inl (y 0, 3, .inl frf)), (ha, .inl (y 0, 30, .inl x441)), (r0, .inl (y 0, 6, .inl x442)), (mbr, .inl (y 0, 6, .inl x444)), (mo, .inr (11, [.ref to, .ref ke, .ref ik, .ref mrf, .long mab, .long mbl, .ref ha, .ref r0, .ref mbr, .ref mbp, .ref mby, .int (nI bl), .int (nI ta), .int (nI tl), .int (nI tk), .int vv, .ref an, .ref va])), (to, .inl (y 0, 228, .inl ft))] → va_S A s.heap H locs → lv_has ls 8 [(5, .int (nI j91)), (4, .int x443), (0, .ref mo), (1, .int (nI j4)), (2, .int (nI 4)), (3, .int x3)] → W pZ l eZ ({ frames := 6, cells := 0, slots := 0, locals := 180 }) s mZ [.ref mo, .int (nI j4), .int (nI 4), .int x3].toArray beZ meZ cZ H locs 0 0 (MQ beZ (va_Qi (fun (r : Int32) (u : (Nat → Int32) × (Nat → Int32) × (Nat → Int32) × (Nat → Int32)) => kr_t 30 u.2.1 ∧ (gl = 0 ∨ 0 < fi)) (kw_B D (fun u => [(mo, .inr (11, [.ref to, .ref ke, .ref ik, .ref mrf, .long mab, .long mbl, .ref ha, .ref r0, .ref mbr, .ref mbp, .ref mby, .int (nI bl), .int (nI ta), .int (nI tl), .int (nI tk), .int vv, .ref an, .ref va])), (mrf, .inl (y 0, 3, .inl u.1)), (to, .inl (y 0, 228, .inl ft)), (ha, .inl (y 0, 30, .inl u.2.1)), (r0, .inl (y 0, 6, .inl u.2.2.1)), (mbr, .inl (y 0, 6, .inl u.2.2.2))]) A) A) [.ref mo, .int (nI j4), .int (nI 4), .int x3].toArray s 0 0 A) (F0 mZ 38 ls []) := by
            intro fuj91
            induction fuj91 with
            | zero => intro j91 x441 x442 x443 x444 H locs ls hj9 hf9; exact absurd hf9 (Nat.not_lt_zero _)
            | succ fuj91 ihj91 =>
              intro j91 x441 x442 x443 x444 H locs ls hj91 hfj91 hr_x441 hP hD hS hl
              refine lv_iload hx hb dX11_round_38 (lv_at hl 0 rfl) ?_
              refine lv_iload_n hx hb dX11_round_40 rfl (lv_at hl 4 rfl) ?_
              have hs487 : kw_Split [(mrf, .inl (y 0, 3, .inl frf)), (ha, .inl (y 0, 30, .inl x441)), (r0, .inl (y 0, 6, .inl x442)), (mbr, .inl (y 0, 6, .inl x444)), (mo, .inr (11, [.ref to, .ref ke, .ref ik, .ref mrf, .long mab, .long mbl, .ref ha, .ref r0, .ref mbr, .ref mbp, .ref mby, .int (nI bl), .int (nI ta), .int (nI tl), .int (nI tk), .int vv, .ref an, .ref va])), (to, .inl (y 0, 228, .inl ft))] [] [(mrf, .inl (y 0, 3, .inl frf)), (ha, .inl (y 0, 30, .inl x441)), (r0, .inl (y 0, 6, .inl x442)), (mbr, .inl (y 0, 6, .inl x444)), (mo, .inr (11, [.ref to, .ref ke, .ref ik, .ref mrf, .long mab, .long mbl, .ref ha, .ref r0, .ref mbr, .ref mbp, .ref mby, .int (nI bl), .int (nI ta), .int (nI tl), .int (nI tk), .int vv, .ref an, .ref va])), (to, .inl (y 0, 228, .inl ft))] [] [0, 1, 2, 3, 4, 5] := ⟨rfl, rfl, rfl, rfl, rfl, by decide⟩
              refine kw_go_i hs487 hP hD hS hA (va_runS (As := [.int (nI 4)]) (rest := [.int (nI j91)]) ⟨hx, hb, hml, hown, hts⟩ (gr_pow4 l D y   _) (va_cwS 1 hts gX11_round_X11_powerOfThree rfl rfl rfl (by decide +kernel) ⟨Nat.le_of_ble_eq_true rfl, Nat.le_of_ble_eq_true rfl⟩) (kw_PreS hs487 hP hD hK hN) rfl rfl hl.1 rfl (lv_room (Nat.le_of_ble_eq_true rfl)) dX11_round_41 ⟨Nat.le_of_ble_eq_true rfl, Nat.le_of_ble_eq_true rfl⟩) (fun r488 u489 H locs hq hP hD hS => ?_)
              obtain rfl := hq
              have hP : va_P D vwCl [(mrf, .inl (y 0, 3, .inl frf)), (ha, .inl (y 0, 30, .inl x441)), (r0, .inl (y 0, 6, .inl x442)), (mbr, .inl (y 0, 6, .inl x444)), (mo, .inr (11, [.ref to, .ref ke, .ref ik, .ref mrf, .long mab, .long mbl, .ref ha, .ref r0, .ref mbr, .ref mbp, .ref mby, .int (nI bl), .int (nI ta), .int (nI tl), .int (nI tk), .int vv, .ref an, .ref va])), (to, .inl (y 0, 228, .inl ft))] H := hP
              have hD : va_D A [(mrf, .inl (y 0, 3, .inl frf)), (ha, .inl (y 0, 30, .inl x441)), (r0, .inl (y 0, 6, .inl x442)), (mbr, .inl (y 0, 6, .inl x444)), (mo, .inr (11, [.ref to, .ref ke, .ref ik, .ref mrf, .long mab, .long mbl, .ref ha, .ref r0, .ref mbr, .ref mbp, .ref mby, .int (nI bl), .int (nI ta), .int (nI tl), .int (nI tk), .int vv, .ref an, .ref va])), (to, .inl (y 0, 228, .inl ft))] := hD
              refine lv_icmp_ge (tgt := 115) hx hb dX11_round_44 (by decide) (fun h490 => ?_) (fun h491 => ?_)
              · skip
                have h490 : 81 ≤ j91 := (nI_leI (a := 81) (b := j91) (by omega) (by omega)).mp h490
                refine lv_iload_n hx hb dX11_round_115 rfl (lv_at hl 5 rfl) ?_
                refine lv_iconst (v := (-1)) hx hb dX11_round_116 (by decide) ?_
                refine lv_icmp_ne (tgt := 125) hx hb dX11_round_117 (by decide) (fun h492 => ?_) (fun h493 => ?_)
                · skip
                  refine lv_iload_n hx hb dX11_round_125 rfl (lv_at hl 5 rfl) ?_
                  refine lv_iload_n hx hb dX11_round_126 rfl (lv_at hl 4 rfl) ?_
                  refine lv_icmp_ge (tgt := 139) hx hb dX11_round_127 (by decide) (fun h494 => ?_) (fun h495 => ?_)
                  · skip
                    refine lv_bipush (v := (-5)) hx hb dX11_round_139 (by decide) ?_
                    exact W.iret (v := (-5)) hx hb hr (fun tZ ht hW => ⟨⟨(-5), (frf, x441, x442, x444), rfl, ⟨hr_x441, by first | omega | (dsimp only; omega)⟩, by rw [ht]; exact hP.sub [4, 0, 5, 1, 2, 3] rfl, hD.sub [4, 0, 5, 1, 2, 3] (by decide) rfl⟩, hS.F ht⟩) hS.2.2 dX11_round_141
                  · skip
                    refine lv_aload_n hx hb dX11_round_130 rfl (lv_at hl 2 rfl) ?_
                    refine va_get (D := D) (ci := 11) (v := .ref mbr) (C := RX11) (T := TX11) (N := 18) hx hb hts iw11 hown hK hP 4 rfl rfl 8 (by decide) fw2 (fun _ h9 => h9) rfl dX11_round_131 ?_
                    refine lv_iload_n hx hb dX11_round_134 rfl (lv_at hl 5 rfl) ?_
                    refine va_iald hx hb hK hP 3 0 rfl rfl (kw_rr (Int32.not_lt.mpr h14) (Int32.not_le.mp h495) h492 (by omega) (by decide)) dX11_round_135 ?_
                    refine lv_goto (tgt := 141) hx hb dX11_round_136 (by decide) ?_
                    exact W.iret (v := (x444 (x3.toNatClampNeg))) hx hb hr (fun tZ ht hW => ⟨⟨(x444 (x3.toNatClampNeg)), (frf, x441, x442, x444), rfl, ⟨hr_x441, by first | omega | (dsimp only; omega)⟩, by rw [ht]; exact hP.sub [4, 0, 5, 1, 2, 3] rfl, hD.sub [4, 0, 5, 1, 2, 3] (by decide) rfl⟩, hS.F ht⟩) hS.2.2 dX11_round_141
                · skip
                  refine lv_iload hx hb dX11_round_120 (lv_at hl 1 rfl) ?_
                  refine lv_goto (tgt := 141) hx hb dX11_round_122 (by decide) ?_
                  exact W.iret (v := x443) hx hb hr (fun tZ ht hW => ⟨⟨x443, (frf, x441, x442, x444), rfl, ⟨hr_x441, by first | omega | (dsimp only; omega)⟩, by rw [ht]; exact hP.sub [4, 0, 5, 1, 2, 3] rfl, hD.sub [4, 0, 5, 1, 2, 3] (by decide) rfl⟩, hS.F ht⟩) hS.2.2 dX11_round_141
              · skip
                have h491 : ¬ 81 ≤ j91 := fun q9 => h491 ((nI_leI (a := 81) (b := j91) (by omega) (by omega)).mpr q9)
                refine lv_aload_n hx hb dX11_round_47 rfl (lv_at hl 2 rfl) ?_
                refine lv_iload_n hx hb dX11_round_48 rfl (lv_at hl 3 rfl) ?_
                refine lv_iload_n hx hb dX11_round_49 rfl (lv_at hl 4 rfl) ?_
                refine lv_iload hx hb dX11_round_50 (lv_at hl 0 rfl) ?_
                have hs496 : kw_Split [(mrf, .inl (y 0, 3, .inl frf)), (ha, .inl (y 0, 30, .inl x441)), (r0, .inl (y 0, 6, .inl x442)), (mbr, .inl (y 0, 6, .inl x444)), (mo, .inr (11, [.ref to, .ref ke, .ref ik, .ref mrf, .long mab, .long mbl, .ref ha, .ref r0, .ref mbr, .ref mbp, .ref mby, .int (nI bl), .int (nI ta), .int (nI tl), .int (nI tk), .int vv, .ref an, .ref va])), (to, .inl (y 0, 228, .inl ft))] [(mo, .inr (11, [.ref to, .ref ke, .ref ik, .ref mrf, .long mab, .long mbl, .ref ha, .ref r0, .ref mbr, .ref mbp, .ref mby, .int (nI bl), .int (nI ta), .int (nI tl), .int (nI tk), .int vv, .ref an, .ref va])), (to, .inl (y 0, 228, .inl ft)), (ha, .inl (y 0, 30, .inl x441)), (r0, .inl (y 0, 6, .inl x442))] [(mrf, .inl (y 0, 3, .inl frf)), (mbr, .inl (y 0, 6, .inl x444))] [4, 5, 1, 2] [0, 3] := ⟨rfl, rfl, rfl, rfl, rfl, by decide⟩
                refine kw_go_i hs496 hP hD hS hA (va_runV (As := [.int (nI j4), .int (nI 4), .int (nI j91)]) (rest := []) ⟨hx, hb, hml, hown, hts⟩ (gr_roundBy l D y mo to ke ik mrf ha r0 mbr mbp mby an va mab mbl bl ta tl tk vv ft fi gl mi no un x441 x442 j4 4 (nI j91) hk0_ hk1_ hk2_ hk3_ hk4_ hkt hfi hgl hmi hno hun hr_x441 h5 h11 h12 _) (cwV 3 hts gX11_round_X11_roundBy rfl rfl rfl (by decide +kernel) ⟨Nat.le_of_ble_eq_true rfl, Nat.le_of_ble_eq_true rfl⟩) (kw_PreV (ci := 11) (q0 := 4) hs496 hP hD hK hN rfl rfl) rfl rfl hl.1 rfl (lv_room (Nat.le_of_ble_eq_true rfl)) dX11_round_52 ⟨Nat.le_of_ble_eq_true rfl, Nat.le_of_ble_eq_true rfl⟩) (fun r497 u498 H locs hq hP hD hS => ?_)
                obtain ⟨v499, v500⟩ := u498
                try dsimp only at hq
                have h501 := hq
                have hP : va_P D vwCl [(mrf, .inl (y 0, 3, .inl frf)), (mbr, .inl (y 0, 6, .inl x444)), (mo, .inr (11, [.ref to, .ref ke, .ref ik, .ref mrf, .long mab, .long mbl, .ref ha, .ref r0, .ref mbr, .ref mbp, .ref mby, .int (nI bl), .int (nI ta), .int (nI tl), .int (nI tk), .int vv, .ref an, .ref va])), (to, .inl (y 0, 228, .inl ft)), (ha, .inl (y 0, 30, .inl v499)), (r0, .inl (y 0, 6, .inl v500))] H := hP
                have hD : va_D A [(mrf, .inl (y 0, 3, .inl frf)), (mbr, .inl (y 0, 6, .inl x444)), (mo, .inr (11, [.ref to, .ref ke, .ref ik, .ref mrf, .long mab, .long mbl, .ref ha, .ref r0, .ref mbr, .ref mbp, .ref mby, .int (nI bl), .int (nI ta), .int (nI tl), .int (nI tk), .int vv, .ref an, .ref va])), (to, .inl (y 0, 228, .inl ft)), (ha, .inl (y 0, 30, .inl v499)), (r0, .inl (y 0, 6, .inl v500))] := hD
                refine lv_istore (lv' := [(6, .int r497), (5, .int (nI j91)), (4, .int x443), (0, .ref mo), (1, .int (nI j4)), (2, .int (nI 4)), (3, .int x3)]) hx hb dX11_round_55 hl (by decide) rfl (fun ls hl => ?_)
                refine lv_iconst (v := 0) hx hb dX11_round_57 (by decide) ?_
                refine lv_istore (lv' := [(7, .int 0), (6, .int r497), (5, .int (nI j91)), (4, .int x443), (0, .ref mo), (1, .int (nI j4)), (2, .int (nI 4)), (3, .int x3)]) hx hb dX11_round_58 hl (by decide) rfl (fun ls hl => ?_)
                have lp519 : ∀ (fuj92 j92 : Nat) (x510 : Nat → Int32) (H : Heap) (locs : List Loc) (ls : Array Slot), j92 ≤ 4 → 4 - j92 < fuj92 → va_P D vwCl [(mrf, .inl (y 0, 3, .inl frf)), (mbr, .inl (y 0, 6, .inl x510)), (mo, .inr (11, [.ref to, .ref ke, .ref ik, .ref mrf, .long mab, .long mbl, .ref ha, .ref r0, .ref mbr, .ref mbp, .ref mby, .int (nI bl), .int (nI ta), .int (nI tl), .int (nI tk), .int vv, .ref an, .ref va])), (to, .inl (y 0, 228, .inl ft)), (ha, .inl (y 0, 30, .inl v499)), (r0, .inl (y 0, 6, .inl v500))] H → va_D A [(mrf, .inl (y 0, 3, .inl frf)), (mbr, .inl (y 0, 6, .inl x510)), (mo, .inr (11, [.ref to, .ref ke, .ref ik, .ref mrf, .long mab, .long mbl, .ref ha, .ref r0, .ref mbr, .ref mbp, .ref mby, .int (nI bl), .int (nI ta), .int (nI tl), .int (nI tk), .int vv, .ref an, .ref va])), (to, .inl (y 0, 228, .inl ft)), (ha, .inl (y 0, 30, .inl v499)), (r0, .inl (y 0, 6, .inl v500))] → va_S A s.heap H locs → lv_has ls 8 [(7, .int (nI j92)), (6, .int r497), (5, .int (nI j91)), (4, .int x443), (0, .ref mo), (1, .int (nI j4)), (2, .int (nI 4)), (3, .int x3)] → W pZ l eZ ({ frames := 6, cells := 0, slots := 0, locals := 180 }) s mZ [.ref mo, .int (nI j4), .int (nI 4), .int x3].toArray beZ meZ cZ H locs 0 0 (MQ beZ (va_Qi (fun (r : Int32) (u : (Nat → Int32) × (Nat → Int32) × (Nat → Int32) × (Nat → Int32)) => kr_t 30 u.2.1 ∧ (gl = 0 ∨ 0 < fi)) (kw_B D (fun u => [(mo, .inr (11, [.ref to, .ref ke, .ref ik, .ref mrf, .long mab, .long mbl, .ref ha, .ref r0, .ref mbr, .ref mbp, .ref mby, .int (nI bl), .int (nI ta), .int (nI tl), .int (nI tk), .int vv, .ref an, .ref va])), (mrf, .inl (y 0, 3, .inl u.1)), (to, .inl (y 0, 228, .inl ft)), (ha, .inl (y 0, 30, .inl u.2.1)), (r0, .inl (y 0, 6, .inl u.2.2.1)), (mbr, .inl (y 0, 6, .inl u.2.2.2))]) A) A) [.ref mo, .int (nI j4), .int (nI 4), .int x3].toArray s 0 0 A) (F0 mZ 60 ls []) := by
                  intro fuj92
                  induction fuj92 with
                  | zero => intro j92 x510 H locs ls hj9 hf9; exact absurd hf9 (Nat.not_lt_zero _)
                  | succ fuj92 ihj92 =>
                    intro j92 x510 H locs ls hj92 hfj92  hP hD hS hl
                    refine lv_iload hx hb dX11_round_60 (lv_at hl 0 rfl) ?_
                    refine lv_iload_n hx hb dX11_round_62 rfl (lv_at hl 6 rfl) ?_
                    refine lv_icmp_ge (tgt := 93) hx hb dX11_round_63 (by decide) (fun h520 => ?_) (fun h521 => ?_)
                    · skip
                      have h520 : 4 ≤ j92 := (nI_leI (a := 4) (b := j92) (by omega) (by omega)).mp h520
                      refine lv_iload hx hb dX11_round_93 (lv_at hl 1 rfl) ?_
                      refine lv_iload hx hb dX11_round_95 (lv_at hl 3 rfl) ?_
                      refine lv_icmp_le (tgt := 105) hx hb dX11_round_97 (by decide) (fun h522 => ?_) (fun h523 => ?_)
                      · skip
                        refine lv_iload hx hb dX11_round_105 (lv_at hl 3 rfl) ?_
                        refine lv_istore (lv' := [(4, .int x443), (7, .int (nI j92)), (6, .int r497), (5, .int (nI j91)), (0, .ref mo), (1, .int (nI j4)), (2, .int (nI 4)), (3, .int x3)]) hx hb dX11_round_107 hl (by decide) rfl (fun ls hl => ?_)
                        refine lv_iinc (v := (nI (j91 + 1))) (lv' := [(5, .int (nI (j91 + 1))), (4, .int x443), (7, .int (nI j92)), (6, .int r497), (0, .ref mo), (1, .int (nI j4)), (2, .int (nI 4)), (3, .int x3)]) hx hb dX11_round_109 hl (k := 3) rfl (nI_1 j91) (by decide) rfl (fun ls hl => ?_)
                        refine lv_goto (tgt := 38) hx hb dX11_round_112 (by decide) ?_
                        exact ihj91 (j91 + 1) v499 v500 x443 x510 H locs ls (by omega) (by omega) h501 (hP.sub [0, 4, 5, 1, 2, 3] rfl) (hD.sub [0, 4, 5, 1, 2, 3] (by decide) rfl) hS (lv_sub hl [0, 1, 4, 5, 6, 7] rfl)
                      · skip
                        refine lv_iload hx hb dX11_round_100 (lv_at hl 1 rfl) ?_
                        refine lv_goto (tgt := 107) hx hb dX11_round_102 (by decide) ?_
                        refine lv_istore (lv' := [(4, .int r497), (7, .int (nI j92)), (6, .int r497), (5, .int (nI j91)), (0, .ref mo), (1, .int (nI j4)), (2, .int (nI 4)), (3, .int x3)]) hx hb dX11_round_107 hl (by decide) rfl (fun ls hl => ?_)
                        refine lv_iinc (v := (nI (j91 + 1))) (lv' := [(5, .int (nI (j91 + 1))), (4, .int r497), (7, .int (nI j92)), (6, .int r497), (0, .ref mo), (1, .int (nI j4)), (2, .int (nI 4)), (3, .int x3)]) hx hb dX11_round_109 hl (k := 3) rfl (nI_1 j91) (by decide) rfl (fun ls hl => ?_)
                        refine lv_goto (tgt := 38) hx hb dX11_round_112 (by decide) ?_
                        exact ihj91 (j91 + 1) v499 v500 r497 x510 H locs ls (by omega) (by omega) h501 (hP.sub [0, 4, 5, 1, 2, 3] rfl) (hD.sub [0, 4, 5, 1, 2, 3] (by decide) rfl) hS (lv_sub hl [0, 1, 4, 5, 6, 7] rfl)
                    · skip
                      have h521 : ¬ 4 ≤ j92 := fun q9 => h521 ((nI_leI (a := 4) (b := j92) (by omega) (by omega)).mpr q9)
                      refine lv_iload hx hb dX11_round_66 (lv_at hl 1 rfl) ?_
                      refine lv_iload hx hb dX11_round_68 (lv_at hl 3 rfl) ?_
                      refine lv_icmp_le (tgt := 93) hx hb dX11_round_70 (by decide) (fun h524 => ?_) (fun h525 => ?_)
                      · skip
                        refine lv_iload hx hb dX11_round_93 (lv_at hl 1 rfl) ?_
                        refine lv_iload hx hb dX11_round_95 (lv_at hl 3 rfl) ?_
                        refine lv_icmp_le (tgt := 105) hx hb dX11_round_97 (by decide) (fun h526 => ?_) (fun h527 => ?_)
                        · skip
                          refine lv_iload hx hb dX11_round_105 (lv_at hl 3 rfl) ?_
                          refine lv_istore (lv' := [(4, .int x443), (7, .int (nI j92)), (6, .int r497), (5, .int (nI j91)), (0, .ref mo), (1, .int (nI j4)), (2, .int (nI 4)), (3, .int x3)]) hx hb dX11_round_107 hl (by decide) rfl (fun ls hl => ?_)
                          refine lv_iinc (v := (nI (j91 + 1))) (lv' := [(5, .int (nI (j91 + 1))), (4, .int x443), (7, .int (nI j92)), (6, .int r497), (0, .ref mo), (1, .int (nI j4)), (2, .int (nI 4)), (3, .int x3)]) hx hb dX11_round_109 hl (k := 3) rfl (nI_1 j91) (by decide) rfl (fun ls hl => ?_)
                          refine lv_goto (tgt := 38) hx hb dX11_round_112 (by decide) ?_
                          exact ihj91 (j91 + 1) v499 v500 x443 x510 H locs ls (by omega) (by omega) h501 (hP.sub [0, 4, 5, 1, 2, 3] rfl) (hD.sub [0, 4, 5, 1, 2, 3] (by decide) rfl) hS (lv_sub hl [0, 1, 4, 5, 6, 7] rfl)
                        · skip
                          exact absurd h524 h527
                      · skip
                        refine lv_aload_n hx hb dX11_round_73 rfl (lv_at hl 4 rfl) ?_
                        refine va_get (D := D) (ci := 11) (v := .ref mbr) (C := RX11) (T := TX11) (N := 18) hx hb hts iw11 hown hK hP 2 rfl rfl 8 (by decide) fw2 (fun _ h9 => h9) rfl dX11_round_74 ?_
                        refine lv_iload hx hb dX11_round_77 (lv_at hl 0 rfl) ?_
                        refine lv_aload_n hx hb dX11_round_79 rfl (lv_at hl 4 rfl) ?_
                        refine va_get (D := D) (ci := 11) (v := .ref r0) (C := RX11) (T := TX11) (N := 18) hx hb hts iw11 hown hK hP 2 rfl rfl 7 (by decide) fw3 (fun _ h9 => h9) rfl dX11_round_80 ?_
                        refine lv_iload hx hb dX11_round_83 (lv_at hl 0 rfl) ?_
                        refine va_iald hx hb hK hP 5 0 rfl rfl (vp_in_nI (by omega) (by decide)) dX11_round_85 ?_
                        rw [nI_clamp (n := j92) (by omega)]
                        refine va_iast hx hb hK hP hD hS 1 0 rfl rfl (vp_in_nI (by omega) (by decide)) dX11_round_86 (fun H locs hP hD hS => ?_)
                        rw [nI_clamp (n := j92) (by omega)] at hP hD
                        have hP : va_P D vwCl [(mrf, .inl (y 0, 3, .inl frf)), (mbr, .inl (y 0, 6, .inl (upd x510 j92 (v500 j92)))), (mo, .inr (11, [.ref to, .ref ke, .ref ik, .ref mrf, .long mab, .long mbl, .ref ha, .ref r0, .ref mbr, .ref mbp, .ref mby, .int (nI bl), .int (nI ta), .int (nI tl), .int (nI tk), .int vv, .ref an, .ref va])), (to, .inl (y 0, 228, .inl ft)), (ha, .inl (y 0, 30, .inl v499)), (r0, .inl (y 0, 6, .inl v500))] H := hP
                        have hD : va_D A [(mrf, .inl (y 0, 3, .inl frf)), (mbr, .inl (y 0, 6, .inl (upd x510 j92 (v500 j92)))), (mo, .inr (11, [.ref to, .ref ke, .ref ik, .ref mrf, .long mab, .long mbl, .ref ha, .ref r0, .ref mbr, .ref mbp, .ref mby, .int (nI bl), .int (nI ta), .int (nI tl), .int (nI tk), .int vv, .ref an, .ref va])), (to, .inl (y 0, 228, .inl ft)), (ha, .inl (y 0, 30, .inl v499)), (r0, .inl (y 0, 6, .inl v500))] := hD
                        refine lv_iinc (v := (nI (j92 + 1))) (lv' := [(7, .int (nI (j92 + 1))), (6, .int r497), (5, .int (nI j91)), (4, .int x443), (0, .ref mo), (1, .int (nI j4)), (2, .int (nI 4)), (3, .int x3)]) hx hb dX11_round_87 hl (k := 0) rfl (nI_1 j92) (by decide) rfl (fun ls hl => ?_)
                        refine lv_goto (tgt := 60) hx hb dX11_round_90 (by decide) ?_
                        exact ihj92 (j92 + 1) (upd x510 j92 (v500 j92)) H locs ls (by omega) (by omega)  (hP.sub [0, 1, 2, 3, 4, 5] rfl) (hD.sub [0, 1, 2, 3, 4, 5] (by decide) rfl) hS (lv_sub hl [0, 1, 2, 3, 4, 5, 6, 7] rfl)
                exact lp519 (4 + 1) 0 x444 _ _ _ (by omega) (by omega)  hP hD hS (lv_sub hl [0, 1, 2, 3, 4, 5, 6, 7] rfl)
          exact lp486 (81 + 1) 0 fh fr0 (-1) fbr _ _ _ (by omega) (by omega) hkh hP hD hS (lv_sub hl [0, 1, 2, 3, 4, 5] rfl)
        · skip
          refine lv_iconst (v := (-1)) hx hb dX11_round_32 (by decide) ?_
          refine lv_istore (lv' := [(4, .int (-1)), (0, .ref mo), (1, .int (nI j4)), (2, .int (nI 5)), (3, .int x3)]) hx hb dX11_round_33 hl (by decide) rfl (fun ls hl => ?_)
          refine lv_iconst (v := 0) hx hb dX11_round_35 (by decide) ?_
          refine lv_istore (lv' := [(5, .int 0), (4, .int (-1)), (0, .ref mo), (1, .int (nI j4)), (2, .int (nI 5)), (3, .int x3)]) hx hb dX11_round_36 hl (by decide) rfl (fun ls hl => ?_)
          have lp614 : ∀ (fuj91 j91 : Nat) (x569 : Nat → Int32) (x570 : Nat → Int32) (x571 : Int32) (x572 : Nat → Int32) (H : Heap) (locs : List Loc) (ls : Array Slot), j91 ≤ 243 → 243 - j91 < fuj91 → kr_t 30 x569 → va_P D vwCl [(mrf, .inl (y 0, 3, .inl frf)), (ha, .inl (y 0, 30, .inl x569)), (r0, .inl (y 0, 6, .inl x570)), (mbr, .inl (y 0, 6, .inl x572)), (mo, .inr (11, [.ref to, .ref ke, .ref ik, .ref mrf, .long mab, .long mbl, .ref ha, .ref r0, .ref mbr, .ref mbp, .ref mby, .int (nI bl), .int (nI ta), .int (nI tl), .int (nI tk), .int vv, .ref an, .ref va])), (to, .inl (y 0, 228, .inl ft))] H → va_D A [(mrf, .inl (y 0, 3, .inl frf)), (ha, .inl (y 0, 30, .inl x569)), (r0, .inl (y 0, 6, .inl x570)), (mbr, .inl (y 0, 6, .inl x572)), (mo, .inr (11, [.ref to, .ref ke, .ref ik, .ref mrf, .long mab, .long mbl, .ref ha, .ref r0, .ref mbr, .ref mbp, .ref mby, .int (nI bl), .int (nI ta), .int (nI tl), .int (nI tk), .int vv, .ref an, .ref va])), (to, .inl (y 0, 228, .inl ft))] → va_S A s.heap H locs → lv_has ls 8 [(5, .int (nI j91)), (4, .int x571), (0, .ref mo), (1, .int (nI j4)), (2, .int (nI 5)), (3, .int x3)] → W pZ l eZ ({ frames := 6, cells := 0, slots := 0, locals := 180 }) s mZ [.ref mo, .int (nI j4), .int (nI 5), .int x3].toArray beZ meZ cZ H locs 0 0 (MQ beZ (va_Qi (fun (r : Int32) (u : (Nat → Int32) × (Nat → Int32) × (Nat → Int32) × (Nat → Int32)) => kr_t 30 u.2.1 ∧ (gl = 0 ∨ 0 < fi)) (kw_B D (fun u => [(mo, .inr (11, [.ref to, .ref ke, .ref ik, .ref mrf, .long mab, .long mbl, .ref ha, .ref r0, .ref mbr, .ref mbp, .ref mby, .int (nI bl), .int (nI ta), .int (nI tl), .int (nI tk), .int vv, .ref an, .ref va])), (mrf, .inl (y 0, 3, .inl u.1)), (to, .inl (y 0, 228, .inl ft)), (ha, .inl (y 0, 30, .inl u.2.1)), (r0, .inl (y 0, 6, .inl u.2.2.1)), (mbr, .inl (y 0, 6, .inl u.2.2.2))]) A) A) [.ref mo, .int (nI j4), .int (nI 5), .int x3].toArray s 0 0 A) (F0 mZ 38 ls []) := by
            intro fuj91
            induction fuj91 with
            | zero => intro j91 x569 x570 x571 x572 H locs ls hj9 hf9; exact absurd hf9 (Nat.not_lt_zero _)
            | succ fuj91 ihj91 =>
              intro j91 x569 x570 x571 x572 H locs ls hj91 hfj91 hr_x569 hP hD hS hl
              refine lv_iload hx hb dX11_round_38 (lv_at hl 0 rfl) ?_
              refine lv_iload_n hx hb dX11_round_40 rfl (lv_at hl 4 rfl) ?_
              have hs615 : kw_Split [(mrf, .inl (y 0, 3, .inl frf)), (ha, .inl (y 0, 30, .inl x569)), (r0, .inl (y 0, 6, .inl x570)), (mbr, .inl (y 0, 6, .inl x572)), (mo, .inr (11, [.ref to, .ref ke, .ref ik, .ref mrf, .long mab, .long mbl, .ref ha, .ref r0, .ref mbr, .ref mbp, .ref mby, .int (nI bl), .int (nI ta), .int (nI tl), .int (nI tk), .int vv, .ref an, .ref va])), (to, .inl (y 0, 228, .inl ft))] [] [(mrf, .inl (y 0, 3, .inl frf)), (ha, .inl (y 0, 30, .inl x569)), (r0, .inl (y 0, 6, .inl x570)), (mbr, .inl (y 0, 6, .inl x572)), (mo, .inr (11, [.ref to, .ref ke, .ref ik, .ref mrf, .long mab, .long mbl, .ref ha, .ref r0, .ref mbr, .ref mbp, .ref mby, .int (nI bl), .int (nI ta), .int (nI tl), .int (nI tk), .int vv, .ref an, .ref va])), (to, .inl (y 0, 228, .inl ft))] [] [0, 1, 2, 3, 4, 5] := ⟨rfl, rfl, rfl, rfl, rfl, by decide⟩
              refine kw_go_i hs615 hP hD hS hA (va_runS (As := [.int (nI 5)]) (rest := [.int (nI j91)]) ⟨hx, hb, hml, hown, hts⟩ (gr_pow5 l D y   _) (va_cwS 1 hts gX11_round_X11_powerOfThree rfl rfl rfl (by decide +kernel) ⟨Nat.le_of_ble_eq_true rfl, Nat.le_of_ble_eq_true rfl⟩) (kw_PreS hs615 hP hD hK hN) rfl rfl hl.1 rfl (lv_room (Nat.le_of_ble_eq_true rfl)) dX11_round_41 ⟨Nat.le_of_ble_eq_true rfl, Nat.le_of_ble_eq_true rfl⟩) (fun r616 u617 H locs hq hP hD hS => ?_)
              obtain rfl := hq
              have hP : va_P D vwCl [(mrf, .inl (y 0, 3, .inl frf)), (ha, .inl (y 0, 30, .inl x569)), (r0, .inl (y 0, 6, .inl x570)), (mbr, .inl (y 0, 6, .inl x572)), (mo, .inr (11, [.ref to, .ref ke, .ref ik, .ref mrf, .long mab, .long mbl, .ref ha, .ref r0, .ref mbr, .ref mbp, .ref mby, .int (nI bl), .int (nI ta), .int (nI tl), .int (nI tk), .int vv, .ref an, .ref va])), (to, .inl (y 0, 228, .inl ft))] H := hP
              have hD : va_D A [(mrf, .inl (y 0, 3, .inl frf)), (ha, .inl (y 0, 30, .inl x569)), (r0, .inl (y 0, 6, .inl x570)), (mbr, .inl (y 0, 6, .inl x572)), (mo, .inr (11, [.ref to, .ref ke, .ref ik, .ref mrf, .long mab, .long mbl, .ref ha, .ref r0, .ref mbr, .ref mbp, .ref mby, .int (nI bl), .int (nI ta), .int (nI tl), .int (nI tk), .int vv, .ref an, .ref va])), (to, .inl (y 0, 228, .inl ft))] := hD
              refine lv_icmp_ge (tgt := 115) hx hb dX11_round_44 (by decide) (fun h618 => ?_) (fun h619 => ?_)
              · skip
                have h618 : 243 ≤ j91 := (nI_leI (a := 243) (b := j91) (by omega) (by omega)).mp h618
                refine lv_iload_n hx hb dX11_round_115 rfl (lv_at hl 5 rfl) ?_
                refine lv_iconst (v := (-1)) hx hb dX11_round_116 (by decide) ?_
                refine lv_icmp_ne (tgt := 125) hx hb dX11_round_117 (by decide) (fun h620 => ?_) (fun h621 => ?_)
                · skip
                  refine lv_iload_n hx hb dX11_round_125 rfl (lv_at hl 5 rfl) ?_
                  refine lv_iload_n hx hb dX11_round_126 rfl (lv_at hl 4 rfl) ?_
                  refine lv_icmp_ge (tgt := 139) hx hb dX11_round_127 (by decide) (fun h622 => ?_) (fun h623 => ?_)
                  · skip
                    refine lv_bipush (v := (-5)) hx hb dX11_round_139 (by decide) ?_
                    exact W.iret (v := (-5)) hx hb hr (fun tZ ht hW => ⟨⟨(-5), (frf, x569, x570, x572), rfl, ⟨hr_x569, by first | omega | (dsimp only; omega)⟩, by rw [ht]; exact hP.sub [4, 0, 5, 1, 2, 3] rfl, hD.sub [4, 0, 5, 1, 2, 3] (by decide) rfl⟩, hS.F ht⟩) hS.2.2 dX11_round_141
                  · skip
                    refine lv_aload_n hx hb dX11_round_130 rfl (lv_at hl 2 rfl) ?_
                    refine va_get (D := D) (ci := 11) (v := .ref mbr) (C := RX11) (T := TX11) (N := 18) hx hb hts iw11 hown hK hP 4 rfl rfl 8 (by decide) fw2 (fun _ h9 => h9) rfl dX11_round_131 ?_
                    refine lv_iload_n hx hb dX11_round_134 rfl (lv_at hl 5 rfl) ?_
                    refine va_iald hx hb hK hP 3 0 rfl rfl (kw_rr (Int32.not_lt.mpr h14) (Int32.not_le.mp h623) h620 (by omega) (by decide)) dX11_round_135 ?_
                    refine lv_goto (tgt := 141) hx hb dX11_round_136 (by decide) ?_
                    exact W.iret (v := (x572 (x3.toNatClampNeg))) hx hb hr (fun tZ ht hW => ⟨⟨(x572 (x3.toNatClampNeg)), (frf, x569, x570, x572), rfl, ⟨hr_x569, by first | omega | (dsimp only; omega)⟩, by rw [ht]; exact hP.sub [4, 0, 5, 1, 2, 3] rfl, hD.sub [4, 0, 5, 1, 2, 3] (by decide) rfl⟩, hS.F ht⟩) hS.2.2 dX11_round_141
                · skip
                  refine lv_iload hx hb dX11_round_120 (lv_at hl 1 rfl) ?_
                  refine lv_goto (tgt := 141) hx hb dX11_round_122 (by decide) ?_
                  exact W.iret (v := x571) hx hb hr (fun tZ ht hW => ⟨⟨x571, (frf, x569, x570, x572), rfl, ⟨hr_x569, by first | omega | (dsimp only; omega)⟩, by rw [ht]; exact hP.sub [4, 0, 5, 1, 2, 3] rfl, hD.sub [4, 0, 5, 1, 2, 3] (by decide) rfl⟩, hS.F ht⟩) hS.2.2 dX11_round_141
              · skip
                have h619 : ¬ 243 ≤ j91 := fun q9 => h619 ((nI_leI (a := 243) (b := j91) (by omega) (by omega)).mpr q9)
                refine lv_aload_n hx hb dX11_round_47 rfl (lv_at hl 2 rfl) ?_
                refine lv_iload_n hx hb dX11_round_48 rfl (lv_at hl 3 rfl) ?_
                refine lv_iload_n hx hb dX11_round_49 rfl (lv_at hl 4 rfl) ?_
                refine lv_iload hx hb dX11_round_50 (lv_at hl 0 rfl) ?_
                have hs624 : kw_Split [(mrf, .inl (y 0, 3, .inl frf)), (ha, .inl (y 0, 30, .inl x569)), (r0, .inl (y 0, 6, .inl x570)), (mbr, .inl (y 0, 6, .inl x572)), (mo, .inr (11, [.ref to, .ref ke, .ref ik, .ref mrf, .long mab, .long mbl, .ref ha, .ref r0, .ref mbr, .ref mbp, .ref mby, .int (nI bl), .int (nI ta), .int (nI tl), .int (nI tk), .int vv, .ref an, .ref va])), (to, .inl (y 0, 228, .inl ft))] [(mo, .inr (11, [.ref to, .ref ke, .ref ik, .ref mrf, .long mab, .long mbl, .ref ha, .ref r0, .ref mbr, .ref mbp, .ref mby, .int (nI bl), .int (nI ta), .int (nI tl), .int (nI tk), .int vv, .ref an, .ref va])), (to, .inl (y 0, 228, .inl ft)), (ha, .inl (y 0, 30, .inl x569)), (r0, .inl (y 0, 6, .inl x570))] [(mrf, .inl (y 0, 3, .inl frf)), (mbr, .inl (y 0, 6, .inl x572))] [4, 5, 1, 2] [0, 3] := ⟨rfl, rfl, rfl, rfl, rfl, by decide⟩
                refine kw_go_i hs624 hP hD hS hA (va_runV (As := [.int (nI j4), .int (nI 5), .int (nI j91)]) (rest := []) ⟨hx, hb, hml, hown, hts⟩ (gr_roundBy l D y mo to ke ik mrf ha r0 mbr mbp mby an va mab mbl bl ta tl tk vv ft fi gl mi no un x569 x570 j4 5 (nI j91) hk0_ hk1_ hk2_ hk3_ hk4_ hkt hfi hgl hmi hno hun hr_x569 h5 h11 h12 _) (cwV 3 hts gX11_round_X11_roundBy rfl rfl rfl (by decide +kernel) ⟨Nat.le_of_ble_eq_true rfl, Nat.le_of_ble_eq_true rfl⟩) (kw_PreV (ci := 11) (q0 := 4) hs624 hP hD hK hN rfl rfl) rfl rfl hl.1 rfl (lv_room (Nat.le_of_ble_eq_true rfl)) dX11_round_52 ⟨Nat.le_of_ble_eq_true rfl, Nat.le_of_ble_eq_true rfl⟩) (fun r625 u626 H locs hq hP hD hS => ?_)
                obtain ⟨v627, v628⟩ := u626
                try dsimp only at hq
                have h629 := hq
                have hP : va_P D vwCl [(mrf, .inl (y 0, 3, .inl frf)), (mbr, .inl (y 0, 6, .inl x572)), (mo, .inr (11, [.ref to, .ref ke, .ref ik, .ref mrf, .long mab, .long mbl, .ref ha, .ref r0, .ref mbr, .ref mbp, .ref mby, .int (nI bl), .int (nI ta), .int (nI tl), .int (nI tk), .int vv, .ref an, .ref va])), (to, .inl (y 0, 228, .inl ft)), (ha, .inl (y 0, 30, .inl v627)), (r0, .inl (y 0, 6, .inl v628))] H := hP
                have hD : va_D A [(mrf, .inl (y 0, 3, .inl frf)), (mbr, .inl (y 0, 6, .inl x572)), (mo, .inr (11, [.ref to, .ref ke, .ref ik, .ref mrf, .long mab, .long mbl, .ref ha, .ref r0, .ref mbr, .ref mbp, .ref mby, .int (nI bl), .int (nI ta), .int (nI tl), .int (nI tk), .int vv, .ref an, .ref va])), (to, .inl (y 0, 228, .inl ft)), (ha, .inl (y 0, 30, .inl v627)), (r0, .inl (y 0, 6, .inl v628))] := hD
                refine lv_istore (lv' := [(6, .int r625), (5, .int (nI j91)), (4, .int x571), (0, .ref mo), (1, .int (nI j4)), (2, .int (nI 5)), (3, .int x3)]) hx hb dX11_round_55 hl (by decide) rfl (fun ls hl => ?_)
                refine lv_iconst (v := 0) hx hb dX11_round_57 (by decide) ?_
                refine lv_istore (lv' := [(7, .int 0), (6, .int r625), (5, .int (nI j91)), (4, .int x571), (0, .ref mo), (1, .int (nI j4)), (2, .int (nI 5)), (3, .int x3)]) hx hb dX11_round_58 hl (by decide) rfl (fun ls hl => ?_)
                have lp647 : ∀ (fuj92 j92 : Nat) (x638 : Nat → Int32) (H : Heap) (locs : List Loc) (ls : Array Slot), j92 ≤ 5 → 5 - j92 < fuj92 → va_P D vwCl [(mrf, .inl (y 0, 3, .inl frf)), (mbr, .inl (y 0, 6, .inl x638)), (mo, .inr (11, [.ref to, .ref ke, .ref ik, .ref mrf, .long mab, .long mbl, .ref ha, .ref r0, .ref mbr, .ref mbp, .ref mby, .int (nI bl), .int (nI ta), .int (nI tl), .int (nI tk), .int vv, .ref an, .ref va])), (to, .inl (y 0, 228, .inl ft)), (ha, .inl (y 0, 30, .inl v627)), (r0, .inl (y 0, 6, .inl v628))] H → va_D A [(mrf, .inl (y 0, 3, .inl frf)), (mbr, .inl (y 0, 6, .inl x638)), (mo, .inr (11, [.ref to, .ref ke, .ref ik, .ref mrf, .long mab, .long mbl, .ref ha, .ref r0, .ref mbr, .ref mbp, .ref mby, .int (nI bl), .int (nI ta), .int (nI tl), .int (nI tk), .int vv, .ref an, .ref va])), (to, .inl (y 0, 228, .inl ft)), (ha, .inl (y 0, 30, .inl v627)), (r0, .inl (y 0, 6, .inl v628))] → va_S A s.heap H locs → lv_has ls 8 [(7, .int (nI j92)), (6, .int r625), (5, .int (nI j91)), (4, .int x571), (0, .ref mo), (1, .int (nI j4)), (2, .int (nI 5)), (3, .int x3)] → W pZ l eZ ({ frames := 6, cells := 0, slots := 0, locals := 180 }) s mZ [.ref mo, .int (nI j4), .int (nI 5), .int x3].toArray beZ meZ cZ H locs 0 0 (MQ beZ (va_Qi (fun (r : Int32) (u : (Nat → Int32) × (Nat → Int32) × (Nat → Int32) × (Nat → Int32)) => kr_t 30 u.2.1 ∧ (gl = 0 ∨ 0 < fi)) (kw_B D (fun u => [(mo, .inr (11, [.ref to, .ref ke, .ref ik, .ref mrf, .long mab, .long mbl, .ref ha, .ref r0, .ref mbr, .ref mbp, .ref mby, .int (nI bl), .int (nI ta), .int (nI tl), .int (nI tk), .int vv, .ref an, .ref va])), (mrf, .inl (y 0, 3, .inl u.1)), (to, .inl (y 0, 228, .inl ft)), (ha, .inl (y 0, 30, .inl u.2.1)), (r0, .inl (y 0, 6, .inl u.2.2.1)), (mbr, .inl (y 0, 6, .inl u.2.2.2))]) A) A) [.ref mo, .int (nI j4), .int (nI 5), .int x3].toArray s 0 0 A) (F0 mZ 60 ls []) := by
                  intro fuj92
                  induction fuj92 with
                  | zero => intro j92 x638 H locs ls hj9 hf9; exact absurd hf9 (Nat.not_lt_zero _)
                  | succ fuj92 ihj92 =>
                    intro j92 x638 H locs ls hj92 hfj92  hP hD hS hl
                    refine lv_iload hx hb dX11_round_60 (lv_at hl 0 rfl) ?_
                    refine lv_iload_n hx hb dX11_round_62 rfl (lv_at hl 6 rfl) ?_
                    refine lv_icmp_ge (tgt := 93) hx hb dX11_round_63 (by decide) (fun h648 => ?_) (fun h649 => ?_)
                    · skip
                      have h648 : 5 ≤ j92 := (nI_leI (a := 5) (b := j92) (by omega) (by omega)).mp h648
                      refine lv_iload hx hb dX11_round_93 (lv_at hl 1 rfl) ?_
                      refine lv_iload hx hb dX11_round_95 (lv_at hl 3 rfl) ?_
                      refine lv_icmp_le (tgt := 105) hx hb dX11_round_97 (by decide) (fun h650 => ?_) (fun h651 => ?_)
                      · skip
                        refine lv_iload hx hb dX11_round_105 (lv_at hl 3 rfl) ?_
                        refine lv_istore (lv' := [(4, .int x571), (7, .int (nI j92)), (6, .int r625), (5, .int (nI j91)), (0, .ref mo), (1, .int (nI j4)), (2, .int (nI 5)), (3, .int x3)]) hx hb dX11_round_107 hl (by decide) rfl (fun ls hl => ?_)
                        refine lv_iinc (v := (nI (j91 + 1))) (lv' := [(5, .int (nI (j91 + 1))), (4, .int x571), (7, .int (nI j92)), (6, .int r625), (0, .ref mo), (1, .int (nI j4)), (2, .int (nI 5)), (3, .int x3)]) hx hb dX11_round_109 hl (k := 3) rfl (nI_1 j91) (by decide) rfl (fun ls hl => ?_)
                        refine lv_goto (tgt := 38) hx hb dX11_round_112 (by decide) ?_
                        exact ihj91 (j91 + 1) v627 v628 x571 x638 H locs ls (by omega) (by omega) h629 (hP.sub [0, 4, 5, 1, 2, 3] rfl) (hD.sub [0, 4, 5, 1, 2, 3] (by decide) rfl) hS (lv_sub hl [0, 1, 4, 5, 6, 7] rfl)
                      · skip
                        refine lv_iload hx hb dX11_round_100 (lv_at hl 1 rfl) ?_
                        refine lv_goto (tgt := 107) hx hb dX11_round_102 (by decide) ?_
                        refine lv_istore (lv' := [(4, .int r625), (7, .int (nI j92)), (6, .int r625), (5, .int (nI j91)), (0, .ref mo), (1, .int (nI j4)), (2, .int (nI 5)), (3, .int x3)]) hx hb dX11_round_107 hl (by decide) rfl (fun ls hl => ?_)
                        refine lv_iinc (v := (nI (j91 + 1))) (lv' := [(5, .int (nI (j91 + 1))), (4, .int r625), (7, .int (nI j92)), (6, .int r625), (0, .ref mo), (1, .int (nI j4)), (2, .int (nI 5)), (3, .int x3)]) hx hb dX11_round_109 hl (k := 3) rfl (nI_1 j91) (by decide) rfl (fun ls hl => ?_)
                        refine lv_goto (tgt := 38) hx hb dX11_round_112 (by decide) ?_
                        exact ihj91 (j91 + 1) v627 v628 r625 x638 H locs ls (by omega) (by omega) h629 (hP.sub [0, 4, 5, 1, 2, 3] rfl) (hD.sub [0, 4, 5, 1, 2, 3] (by decide) rfl) hS (lv_sub hl [0, 1, 4, 5, 6, 7] rfl)
                    · skip
                      have h649 : ¬ 5 ≤ j92 := fun q9 => h649 ((nI_leI (a := 5) (b := j92) (by omega) (by omega)).mpr q9)
                      refine lv_iload hx hb dX11_round_66 (lv_at hl 1 rfl) ?_
                      refine lv_iload hx hb dX11_round_68 (lv_at hl 3 rfl) ?_
                      refine lv_icmp_le (tgt := 93) hx hb dX11_round_70 (by decide) (fun h652 => ?_) (fun h653 => ?_)
                      · skip
                        refine lv_iload hx hb dX11_round_93 (lv_at hl 1 rfl) ?_
                        refine lv_iload hx hb dX11_round_95 (lv_at hl 3 rfl) ?_
                        refine lv_icmp_le (tgt := 105) hx hb dX11_round_97 (by decide) (fun h654 => ?_) (fun h655 => ?_)
                        · skip
                          refine lv_iload hx hb dX11_round_105 (lv_at hl 3 rfl) ?_
                          refine lv_istore (lv' := [(4, .int x571), (7, .int (nI j92)), (6, .int r625), (5, .int (nI j91)), (0, .ref mo), (1, .int (nI j4)), (2, .int (nI 5)), (3, .int x3)]) hx hb dX11_round_107 hl (by decide) rfl (fun ls hl => ?_)
                          refine lv_iinc (v := (nI (j91 + 1))) (lv' := [(5, .int (nI (j91 + 1))), (4, .int x571), (7, .int (nI j92)), (6, .int r625), (0, .ref mo), (1, .int (nI j4)), (2, .int (nI 5)), (3, .int x3)]) hx hb dX11_round_109 hl (k := 3) rfl (nI_1 j91) (by decide) rfl (fun ls hl => ?_)
                          refine lv_goto (tgt := 38) hx hb dX11_round_112 (by decide) ?_
                          exact ihj91 (j91 + 1) v627 v628 x571 x638 H locs ls (by omega) (by omega) h629 (hP.sub [0, 4, 5, 1, 2, 3] rfl) (hD.sub [0, 4, 5, 1, 2, 3] (by decide) rfl) hS (lv_sub hl [0, 1, 4, 5, 6, 7] rfl)
                        · skip
                          exact absurd h652 h655
                      · skip
                        refine lv_aload_n hx hb dX11_round_73 rfl (lv_at hl 4 rfl) ?_
                        refine va_get (D := D) (ci := 11) (v := .ref mbr) (C := RX11) (T := TX11) (N := 18) hx hb hts iw11 hown hK hP 2 rfl rfl 8 (by decide) fw2 (fun _ h9 => h9) rfl dX11_round_74 ?_
                        refine lv_iload hx hb dX11_round_77 (lv_at hl 0 rfl) ?_
                        refine lv_aload_n hx hb dX11_round_79 rfl (lv_at hl 4 rfl) ?_
                        refine va_get (D := D) (ci := 11) (v := .ref r0) (C := RX11) (T := TX11) (N := 18) hx hb hts iw11 hown hK hP 2 rfl rfl 7 (by decide) fw3 (fun _ h9 => h9) rfl dX11_round_80 ?_
                        refine lv_iload hx hb dX11_round_83 (lv_at hl 0 rfl) ?_
                        refine va_iald hx hb hK hP 5 0 rfl rfl (vp_in_nI (by omega) (by decide)) dX11_round_85 ?_
                        rw [nI_clamp (n := j92) (by omega)]
                        refine va_iast hx hb hK hP hD hS 1 0 rfl rfl (vp_in_nI (by omega) (by decide)) dX11_round_86 (fun H locs hP hD hS => ?_)
                        rw [nI_clamp (n := j92) (by omega)] at hP hD
                        have hP : va_P D vwCl [(mrf, .inl (y 0, 3, .inl frf)), (mbr, .inl (y 0, 6, .inl (upd x638 j92 (v628 j92)))), (mo, .inr (11, [.ref to, .ref ke, .ref ik, .ref mrf, .long mab, .long mbl, .ref ha, .ref r0, .ref mbr, .ref mbp, .ref mby, .int (nI bl), .int (nI ta), .int (nI tl), .int (nI tk), .int vv, .ref an, .ref va])), (to, .inl (y 0, 228, .inl ft)), (ha, .inl (y 0, 30, .inl v627)), (r0, .inl (y 0, 6, .inl v628))] H := hP
                        have hD : va_D A [(mrf, .inl (y 0, 3, .inl frf)), (mbr, .inl (y 0, 6, .inl (upd x638 j92 (v628 j92)))), (mo, .inr (11, [.ref to, .ref ke, .ref ik, .ref mrf, .long mab, .long mbl, .ref ha, .ref r0, .ref mbr, .ref mbp, .ref mby, .int (nI bl), .int (nI ta), .int (nI tl), .int (nI tk), .int vv, .ref an, .ref va])), (to, .inl (y 0, 228, .inl ft)), (ha, .inl (y 0, 30, .inl v627)), (r0, .inl (y 0, 6, .inl v628))] := hD
                        refine lv_iinc (v := (nI (j92 + 1))) (lv' := [(7, .int (nI (j92 + 1))), (6, .int r625), (5, .int (nI j91)), (4, .int x571), (0, .ref mo), (1, .int (nI j4)), (2, .int (nI 5)), (3, .int x3)]) hx hb dX11_round_87 hl (k := 0) rfl (nI_1 j92) (by decide) rfl (fun ls hl => ?_)
                        refine lv_goto (tgt := 60) hx hb dX11_round_90 (by decide) ?_
                        exact ihj92 (j92 + 1) (upd x638 j92 (v628 j92)) H locs ls (by omega) (by omega)  (hP.sub [0, 1, 2, 3, 4, 5] rfl) (hD.sub [0, 1, 2, 3, 4, 5] (by decide) rfl) hS (lv_sub hl [0, 1, 2, 3, 4, 5, 6, 7] rfl)
                exact lp647 (5 + 1) 0 x572 _ _ _ (by omega) (by omega)  hP hD hS (lv_sub hl [0, 1, 2, 3, 4, 5, 6, 7] rfl)
          exact lp614 (243 + 1) 0 fh fr0 (-1) fbr _ _ _ (by omega) (by omega) hkh hP hD hS (lv_sub hl [0, 1, 2, 3, 4, 5] rfl)
        · skip
          refine lv_iconst (v := (-1)) hx hb dX11_round_32 (by decide) ?_
          refine lv_istore (lv' := [(4, .int (-1)), (0, .ref mo), (1, .int (nI j4)), (2, .int (nI 6)), (3, .int x3)]) hx hb dX11_round_33 hl (by decide) rfl (fun ls hl => ?_)
          refine lv_iconst (v := 0) hx hb dX11_round_35 (by decide) ?_
          refine lv_istore (lv' := [(5, .int 0), (4, .int (-1)), (0, .ref mo), (1, .int (nI j4)), (2, .int (nI 6)), (3, .int x3)]) hx hb dX11_round_36 hl (by decide) rfl (fun ls hl => ?_)
          have lp742 : ∀ (fuj91 j91 : Nat) (x697 : Nat → Int32) (x698 : Nat → Int32) (x699 : Int32) (x700 : Nat → Int32) (H : Heap) (locs : List Loc) (ls : Array Slot), j91 ≤ 729 → 729 - j91 < fuj91 → kr_t 30 x697 → va_P D vwCl [(mrf, .inl (y 0, 3, .inl frf)), (ha, .inl (y 0, 30, .inl x697)), (r0, .inl (y 0, 6, .inl x698)), (mbr, .inl (y 0, 6, .inl x700)), (mo, .inr (11, [.ref to, .ref ke, .ref ik, .ref mrf, .long mab, .long mbl, .ref ha, .ref r0, .ref mbr, .ref mbp, .ref mby, .int (nI bl), .int (nI ta), .int (nI tl), .int (nI tk), .int vv, .ref an, .ref va])), (to, .inl (y 0, 228, .inl ft))] H → va_D A [(mrf, .inl (y 0, 3, .inl frf)), (ha, .inl (y 0, 30, .inl x697)), (r0, .inl (y 0, 6, .inl x698)), (mbr, .inl (y 0, 6, .inl x700)), (mo, .inr (11, [.ref to, .ref ke, .ref ik, .ref mrf, .long mab, .long mbl, .ref ha, .ref r0, .ref mbr, .ref mbp, .ref mby, .int (nI bl), .int (nI ta), .int (nI tl), .int (nI tk), .int vv, .ref an, .ref va])), (to, .inl (y 0, 228, .inl ft))] → va_S A s.heap H locs → lv_has ls 8 [(5, .int (nI j91)), (4, .int x699), (0, .ref mo), (1, .int (nI j4)), (2, .int (nI 6)), (3, .int x3)] → W pZ l eZ ({ frames := 6, cells := 0, slots := 0, locals := 180 }) s mZ [.ref mo, .int (nI j4), .int (nI 6), .int x3].toArray beZ meZ cZ H locs 0 0 (MQ beZ (va_Qi (fun (r : Int32) (u : (Nat → Int32) × (Nat → Int32) × (Nat → Int32) × (Nat → Int32)) => kr_t 30 u.2.1 ∧ (gl = 0 ∨ 0 < fi)) (kw_B D (fun u => [(mo, .inr (11, [.ref to, .ref ke, .ref ik, .ref mrf, .long mab, .long mbl, .ref ha, .ref r0, .ref mbr, .ref mbp, .ref mby, .int (nI bl), .int (nI ta), .int (nI tl), .int (nI tk), .int vv, .ref an, .ref va])), (mrf, .inl (y 0, 3, .inl u.1)), (to, .inl (y 0, 228, .inl ft)), (ha, .inl (y 0, 30, .inl u.2.1)), (r0, .inl (y 0, 6, .inl u.2.2.1)), (mbr, .inl (y 0, 6, .inl u.2.2.2))]) A) A) [.ref mo, .int (nI j4), .int (nI 6), .int x3].toArray s 0 0 A) (F0 mZ 38 ls []) := by
            intro fuj91
            induction fuj91 with
            | zero => intro j91 x697 x698 x699 x700 H locs ls hj9 hf9; exact absurd hf9 (Nat.not_lt_zero _)
            | succ fuj91 ihj91 =>
              intro j91 x697 x698 x699 x700 H locs ls hj91 hfj91 hr_x697 hP hD hS hl
              refine lv_iload hx hb dX11_round_38 (lv_at hl 0 rfl) ?_
              refine lv_iload_n hx hb dX11_round_40 rfl (lv_at hl 4 rfl) ?_
              have hs743 : kw_Split [(mrf, .inl (y 0, 3, .inl frf)), (ha, .inl (y 0, 30, .inl x697)), (r0, .inl (y 0, 6, .inl x698)), (mbr, .inl (y 0, 6, .inl x700)), (mo, .inr (11, [.ref to, .ref ke, .ref ik, .ref mrf, .long mab, .long mbl, .ref ha, .ref r0, .ref mbr, .ref mbp, .ref mby, .int (nI bl), .int (nI ta), .int (nI tl), .int (nI tk), .int vv, .ref an, .ref va])), (to, .inl (y 0, 228, .inl ft))] [] [(mrf, .inl (y 0, 3, .inl frf)), (ha, .inl (y 0, 30, .inl x697)), (r0, .inl (y 0, 6, .inl x698)), (mbr, .inl (y 0, 6, .inl x700)), (mo, .inr (11, [.ref to, .ref ke, .ref ik, .ref mrf, .long mab, .long mbl, .ref ha, .ref r0, .ref mbr, .ref mbp, .ref mby, .int (nI bl), .int (nI ta), .int (nI tl), .int (nI tk), .int vv, .ref an, .ref va])), (to, .inl (y 0, 228, .inl ft))] [] [0, 1, 2, 3, 4, 5] := ⟨rfl, rfl, rfl, rfl, rfl, by decide⟩
              refine kw_go_i hs743 hP hD hS hA (va_runS (As := [.int (nI 6)]) (rest := [.int (nI j91)]) ⟨hx, hb, hml, hown, hts⟩ (gr_pow6 l D y   _) (va_cwS 1 hts gX11_round_X11_powerOfThree rfl rfl rfl (by decide +kernel) ⟨Nat.le_of_ble_eq_true rfl, Nat.le_of_ble_eq_true rfl⟩) (kw_PreS hs743 hP hD hK hN) rfl rfl hl.1 rfl (lv_room (Nat.le_of_ble_eq_true rfl)) dX11_round_41 ⟨Nat.le_of_ble_eq_true rfl, Nat.le_of_ble_eq_true rfl⟩) (fun r744 u745 H locs hq hP hD hS => ?_)
              obtain rfl := hq
              have hP : va_P D vwCl [(mrf, .inl (y 0, 3, .inl frf)), (ha, .inl (y 0, 30, .inl x697)), (r0, .inl (y 0, 6, .inl x698)), (mbr, .inl (y 0, 6, .inl x700)), (mo, .inr (11, [.ref to, .ref ke, .ref ik, .ref mrf, .long mab, .long mbl, .ref ha, .ref r0, .ref mbr, .ref mbp, .ref mby, .int (nI bl), .int (nI ta), .int (nI tl), .int (nI tk), .int vv, .ref an, .ref va])), (to, .inl (y 0, 228, .inl ft))] H := hP
              have hD : va_D A [(mrf, .inl (y 0, 3, .inl frf)), (ha, .inl (y 0, 30, .inl x697)), (r0, .inl (y 0, 6, .inl x698)), (mbr, .inl (y 0, 6, .inl x700)), (mo, .inr (11, [.ref to, .ref ke, .ref ik, .ref mrf, .long mab, .long mbl, .ref ha, .ref r0, .ref mbr, .ref mbp, .ref mby, .int (nI bl), .int (nI ta), .int (nI tl), .int (nI tk), .int vv, .ref an, .ref va])), (to, .inl (y 0, 228, .inl ft))] := hD
              refine lv_icmp_ge (tgt := 115) hx hb dX11_round_44 (by decide) (fun h746 => ?_) (fun h747 => ?_)
              · skip
                have h746 : 729 ≤ j91 := (nI_leI (a := 729) (b := j91) (by omega) (by omega)).mp h746
                refine lv_iload_n hx hb dX11_round_115 rfl (lv_at hl 5 rfl) ?_
                refine lv_iconst (v := (-1)) hx hb dX11_round_116 (by decide) ?_
                refine lv_icmp_ne (tgt := 125) hx hb dX11_round_117 (by decide) (fun h748 => ?_) (fun h749 => ?_)
                · skip
                  refine lv_iload_n hx hb dX11_round_125 rfl (lv_at hl 5 rfl) ?_
                  refine lv_iload_n hx hb dX11_round_126 rfl (lv_at hl 4 rfl) ?_
                  refine lv_icmp_ge (tgt := 139) hx hb dX11_round_127 (by decide) (fun h750 => ?_) (fun h751 => ?_)
                  · skip
                    refine lv_bipush (v := (-5)) hx hb dX11_round_139 (by decide) ?_
                    exact W.iret (v := (-5)) hx hb hr (fun tZ ht hW => ⟨⟨(-5), (frf, x697, x698, x700), rfl, ⟨hr_x697, by first | omega | (dsimp only; omega)⟩, by rw [ht]; exact hP.sub [4, 0, 5, 1, 2, 3] rfl, hD.sub [4, 0, 5, 1, 2, 3] (by decide) rfl⟩, hS.F ht⟩) hS.2.2 dX11_round_141
                  · skip
                    refine lv_aload_n hx hb dX11_round_130 rfl (lv_at hl 2 rfl) ?_
                    refine va_get (D := D) (ci := 11) (v := .ref mbr) (C := RX11) (T := TX11) (N := 18) hx hb hts iw11 hown hK hP 4 rfl rfl 8 (by decide) fw2 (fun _ h9 => h9) rfl dX11_round_131 ?_
                    refine lv_iload_n hx hb dX11_round_134 rfl (lv_at hl 5 rfl) ?_
                    refine va_iald hx hb hK hP 3 0 rfl rfl (kw_rr (Int32.not_lt.mpr h14) (Int32.not_le.mp h751) h748 (by omega) (by decide)) dX11_round_135 ?_
                    refine lv_goto (tgt := 141) hx hb dX11_round_136 (by decide) ?_
                    exact W.iret (v := (x700 (x3.toNatClampNeg))) hx hb hr (fun tZ ht hW => ⟨⟨(x700 (x3.toNatClampNeg)), (frf, x697, x698, x700), rfl, ⟨hr_x697, by first | omega | (dsimp only; omega)⟩, by rw [ht]; exact hP.sub [4, 0, 5, 1, 2, 3] rfl, hD.sub [4, 0, 5, 1, 2, 3] (by decide) rfl⟩, hS.F ht⟩) hS.2.2 dX11_round_141
                · skip
                  refine lv_iload hx hb dX11_round_120 (lv_at hl 1 rfl) ?_
                  refine lv_goto (tgt := 141) hx hb dX11_round_122 (by decide) ?_
                  exact W.iret (v := x699) hx hb hr (fun tZ ht hW => ⟨⟨x699, (frf, x697, x698, x700), rfl, ⟨hr_x697, by first | omega | (dsimp only; omega)⟩, by rw [ht]; exact hP.sub [4, 0, 5, 1, 2, 3] rfl, hD.sub [4, 0, 5, 1, 2, 3] (by decide) rfl⟩, hS.F ht⟩) hS.2.2 dX11_round_141
              · skip
                have h747 : ¬ 729 ≤ j91 := fun q9 => h747 ((nI_leI (a := 729) (b := j91) (by omega) (by omega)).mpr q9)
                refine lv_aload_n hx hb dX11_round_47 rfl (lv_at hl 2 rfl) ?_
                refine lv_iload_n hx hb dX11_round_48 rfl (lv_at hl 3 rfl) ?_
                refine lv_iload_n hx hb dX11_round_49 rfl (lv_at hl 4 rfl) ?_
                refine lv_iload hx hb dX11_round_50 (lv_at hl 0 rfl) ?_
                have hs752 : kw_Split [(mrf, .inl (y 0, 3, .inl frf)), (ha, .inl (y 0, 30, .inl x697)), (r0, .inl (y 0, 6, .inl x698)), (mbr, .inl (y 0, 6, .inl x700)), (mo, .inr (11, [.ref to, .ref ke, .ref ik, .ref mrf, .long mab, .long mbl, .ref ha, .ref r0, .ref mbr, .ref mbp, .ref mby, .int (nI bl), .int (nI ta), .int (nI tl), .int (nI tk), .int vv, .ref an, .ref va])), (to, .inl (y 0, 228, .inl ft))] [(mo, .inr (11, [.ref to, .ref ke, .ref ik, .ref mrf, .long mab, .long mbl, .ref ha, .ref r0, .ref mbr, .ref mbp, .ref mby, .int (nI bl), .int (nI ta), .int (nI tl), .int (nI tk), .int vv, .ref an, .ref va])), (to, .inl (y 0, 228, .inl ft)), (ha, .inl (y 0, 30, .inl x697)), (r0, .inl (y 0, 6, .inl x698))] [(mrf, .inl (y 0, 3, .inl frf)), (mbr, .inl (y 0, 6, .inl x700))] [4, 5, 1, 2] [0, 3] := ⟨rfl, rfl, rfl, rfl, rfl, by decide⟩
                refine kw_go_i hs752 hP hD hS hA (va_runV (As := [.int (nI j4), .int (nI 6), .int (nI j91)]) (rest := []) ⟨hx, hb, hml, hown, hts⟩ (gr_roundBy l D y mo to ke ik mrf ha r0 mbr mbp mby an va mab mbl bl ta tl tk vv ft fi gl mi no un x697 x698 j4 6 (nI j91) hk0_ hk1_ hk2_ hk3_ hk4_ hkt hfi hgl hmi hno hun hr_x697 h5 h11 h12 _) (cwV 3 hts gX11_round_X11_roundBy rfl rfl rfl (by decide +kernel) ⟨Nat.le_of_ble_eq_true rfl, Nat.le_of_ble_eq_true rfl⟩) (kw_PreV (ci := 11) (q0 := 4) hs752 hP hD hK hN rfl rfl) rfl rfl hl.1 rfl (lv_room (Nat.le_of_ble_eq_true rfl)) dX11_round_52 ⟨Nat.le_of_ble_eq_true rfl, Nat.le_of_ble_eq_true rfl⟩) (fun r753 u754 H locs hq hP hD hS => ?_)
                obtain ⟨v755, v756⟩ := u754
                try dsimp only at hq
                have h757 := hq
                have hP : va_P D vwCl [(mrf, .inl (y 0, 3, .inl frf)), (mbr, .inl (y 0, 6, .inl x700)), (mo, .inr (11, [.ref to, .ref ke, .ref ik, .ref mrf, .long mab, .long mbl, .ref ha, .ref r0, .ref mbr, .ref mbp, .ref mby, .int (nI bl), .int (nI ta), .int (nI tl), .int (nI tk), .int vv, .ref an, .ref va])), (to, .inl (y 0, 228, .inl ft)), (ha, .inl (y 0, 30, .inl v755)), (r0, .inl (y 0, 6, .inl v756))] H := hP
                have hD : va_D A [(mrf, .inl (y 0, 3, .inl frf)), (mbr, .inl (y 0, 6, .inl x700)), (mo, .inr (11, [.ref to, .ref ke, .ref ik, .ref mrf, .long mab, .long mbl, .ref ha, .ref r0, .ref mbr, .ref mbp, .ref mby, .int (nI bl), .int (nI ta), .int (nI tl), .int (nI tk), .int vv, .ref an, .ref va])), (to, .inl (y 0, 228, .inl ft)), (ha, .inl (y 0, 30, .inl v755)), (r0, .inl (y 0, 6, .inl v756))] := hD
                refine lv_istore (lv' := [(6, .int r753), (5, .int (nI j91)), (4, .int x699), (0, .ref mo), (1, .int (nI j4)), (2, .int (nI 6)), (3, .int x3)]) hx hb dX11_round_55 hl (by decide) rfl (fun ls hl => ?_)
                refine lv_iconst (v := 0) hx hb dX11_round_57 (by decide) ?_
                refine lv_istore (lv' := [(7, .int 0), (6, .int r753), (5, .int (nI j91)), (4, .int x699), (0, .ref mo), (1, .int (nI j4)), (2, .int (nI 6)), (3, .int x3)]) hx hb dX11_round_58 hl (by decide) rfl (fun ls hl => ?_)
                have lp775 : ∀ (fuj92 j92 : Nat) (x766 : Nat → Int32) (H : Heap) (locs : List Loc) (ls : Array Slot), j92 ≤ 6 → 6 - j92 < fuj92 → va_P D vwCl [(mrf, .inl (y 0, 3, .inl frf)), (mbr, .inl (y 0, 6, .inl x766)), (mo, .inr (11, [.ref to, .ref ke, .ref ik, .ref mrf, .long mab, .long mbl, .ref ha, .ref r0, .ref mbr, .ref mbp, .ref mby, .int (nI bl), .int (nI ta), .int (nI tl), .int (nI tk), .int vv, .ref an, .ref va])), (to, .inl (y 0, 228, .inl ft)), (ha, .inl (y 0, 30, .inl v755)), (r0, .inl (y 0, 6, .inl v756))] H → va_D A [(mrf, .inl (y 0, 3, .inl frf)), (mbr, .inl (y 0, 6, .inl x766)), (mo, .inr (11, [.ref to, .ref ke, .ref ik, .ref mrf, .long mab, .long mbl, .ref ha, .ref r0, .ref mbr, .ref mbp, .ref mby, .int (nI bl), .int (nI ta), .int (nI tl), .int (nI tk), .int vv, .ref an, .ref va])), (to, .inl (y 0, 228, .inl ft)), (ha, .inl (y 0, 30, .inl v755)), (r0, .inl (y 0, 6, .inl v756))] → va_S A s.heap H locs → lv_has ls 8 [(7, .int (nI j92)), (6, .int r753), (5, .int (nI j91)), (4, .int x699), (0, .ref mo), (1, .int (nI j4)), (2, .int (nI 6)), (3, .int x3)] → W pZ l eZ ({ frames := 6, cells := 0, slots := 0, locals := 180 }) s mZ [.ref mo, .int (nI j4), .int (nI 6), .int x3].toArray beZ meZ cZ H locs 0 0 (MQ beZ (va_Qi (fun (r : Int32) (u : (Nat → Int32) × (Nat → Int32) × (Nat → Int32) × (Nat → Int32)) => kr_t 30 u.2.1 ∧ (gl = 0 ∨ 0 < fi)) (kw_B D (fun u => [(mo, .inr (11, [.ref to, .ref ke, .ref ik, .ref mrf, .long mab, .long mbl, .ref ha, .ref r0, .ref mbr, .ref mbp, .ref mby, .int (nI bl), .int (nI ta), .int (nI tl), .int (nI tk), .int vv, .ref an, .ref va])), (mrf, .inl (y 0, 3, .inl u.1)), (to, .inl (y 0, 228, .inl ft)), (ha, .inl (y 0, 30, .inl u.2.1)), (r0, .inl (y 0, 6, .inl u.2.2.1)), (mbr, .inl (y 0, 6, .inl u.2.2.2))]) A) A) [.ref mo, .int (nI j4), .int (nI 6), .int x3].toArray s 0 0 A) (F0 mZ 60 ls []) := by
                  intro fuj92
                  induction fuj92 with
                  | zero => intro j92 x766 H locs ls hj9 hf9; exact absurd hf9 (Nat.not_lt_zero _)
                  | succ fuj92 ihj92 =>
                    intro j92 x766 H locs ls hj92 hfj92  hP hD hS hl
                    refine lv_iload hx hb dX11_round_60 (lv_at hl 0 rfl) ?_
                    refine lv_iload_n hx hb dX11_round_62 rfl (lv_at hl 6 rfl) ?_
                    refine lv_icmp_ge (tgt := 93) hx hb dX11_round_63 (by decide) (fun h776 => ?_) (fun h777 => ?_)
                    · skip
                      have h776 : 6 ≤ j92 := (nI_leI (a := 6) (b := j92) (by omega) (by omega)).mp h776
                      refine lv_iload hx hb dX11_round_93 (lv_at hl 1 rfl) ?_
                      refine lv_iload hx hb dX11_round_95 (lv_at hl 3 rfl) ?_
                      refine lv_icmp_le (tgt := 105) hx hb dX11_round_97 (by decide) (fun h778 => ?_) (fun h779 => ?_)
                      · skip
                        refine lv_iload hx hb dX11_round_105 (lv_at hl 3 rfl) ?_
                        refine lv_istore (lv' := [(4, .int x699), (7, .int (nI j92)), (6, .int r753), (5, .int (nI j91)), (0, .ref mo), (1, .int (nI j4)), (2, .int (nI 6)), (3, .int x3)]) hx hb dX11_round_107 hl (by decide) rfl (fun ls hl => ?_)
                        refine lv_iinc (v := (nI (j91 + 1))) (lv' := [(5, .int (nI (j91 + 1))), (4, .int x699), (7, .int (nI j92)), (6, .int r753), (0, .ref mo), (1, .int (nI j4)), (2, .int (nI 6)), (3, .int x3)]) hx hb dX11_round_109 hl (k := 3) rfl (nI_1 j91) (by decide) rfl (fun ls hl => ?_)
                        refine lv_goto (tgt := 38) hx hb dX11_round_112 (by decide) ?_
                        exact ihj91 (j91 + 1) v755 v756 x699 x766 H locs ls (by omega) (by omega) h757 (hP.sub [0, 4, 5, 1, 2, 3] rfl) (hD.sub [0, 4, 5, 1, 2, 3] (by decide) rfl) hS (lv_sub hl [0, 1, 4, 5, 6, 7] rfl)
                      · skip
                        refine lv_iload hx hb dX11_round_100 (lv_at hl 1 rfl) ?_
                        refine lv_goto (tgt := 107) hx hb dX11_round_102 (by decide) ?_
                        refine lv_istore (lv' := [(4, .int r753), (7, .int (nI j92)), (6, .int r753), (5, .int (nI j91)), (0, .ref mo), (1, .int (nI j4)), (2, .int (nI 6)), (3, .int x3)]) hx hb dX11_round_107 hl (by decide) rfl (fun ls hl => ?_)
                        refine lv_iinc (v := (nI (j91 + 1))) (lv' := [(5, .int (nI (j91 + 1))), (4, .int r753), (7, .int (nI j92)), (6, .int r753), (0, .ref mo), (1, .int (nI j4)), (2, .int (nI 6)), (3, .int x3)]) hx hb dX11_round_109 hl (k := 3) rfl (nI_1 j91) (by decide) rfl (fun ls hl => ?_)
                        refine lv_goto (tgt := 38) hx hb dX11_round_112 (by decide) ?_
                        exact ihj91 (j91 + 1) v755 v756 r753 x766 H locs ls (by omega) (by omega) h757 (hP.sub [0, 4, 5, 1, 2, 3] rfl) (hD.sub [0, 4, 5, 1, 2, 3] (by decide) rfl) hS (lv_sub hl [0, 1, 4, 5, 6, 7] rfl)
                    · skip
                      have h777 : ¬ 6 ≤ j92 := fun q9 => h777 ((nI_leI (a := 6) (b := j92) (by omega) (by omega)).mpr q9)
                      refine lv_iload hx hb dX11_round_66 (lv_at hl 1 rfl) ?_
                      refine lv_iload hx hb dX11_round_68 (lv_at hl 3 rfl) ?_
                      refine lv_icmp_le (tgt := 93) hx hb dX11_round_70 (by decide) (fun h780 => ?_) (fun h781 => ?_)
                      · skip
                        refine lv_iload hx hb dX11_round_93 (lv_at hl 1 rfl) ?_
                        refine lv_iload hx hb dX11_round_95 (lv_at hl 3 rfl) ?_
                        refine lv_icmp_le (tgt := 105) hx hb dX11_round_97 (by decide) (fun h782 => ?_) (fun h783 => ?_)
                        · skip
                          refine lv_iload hx hb dX11_round_105 (lv_at hl 3 rfl) ?_
                          refine lv_istore (lv' := [(4, .int x699), (7, .int (nI j92)), (6, .int r753), (5, .int (nI j91)), (0, .ref mo), (1, .int (nI j4)), (2, .int (nI 6)), (3, .int x3)]) hx hb dX11_round_107 hl (by decide) rfl (fun ls hl => ?_)
                          refine lv_iinc (v := (nI (j91 + 1))) (lv' := [(5, .int (nI (j91 + 1))), (4, .int x699), (7, .int (nI j92)), (6, .int r753), (0, .ref mo), (1, .int (nI j4)), (2, .int (nI 6)), (3, .int x3)]) hx hb dX11_round_109 hl (k := 3) rfl (nI_1 j91) (by decide) rfl (fun ls hl => ?_)
                          refine lv_goto (tgt := 38) hx hb dX11_round_112 (by decide) ?_
                          exact ihj91 (j91 + 1) v755 v756 x699 x766 H locs ls (by omega) (by omega) h757 (hP.sub [0, 4, 5, 1, 2, 3] rfl) (hD.sub [0, 4, 5, 1, 2, 3] (by decide) rfl) hS (lv_sub hl [0, 1, 4, 5, 6, 7] rfl)
                        · skip
                          exact absurd h780 h783
                      · skip
                        refine lv_aload_n hx hb dX11_round_73 rfl (lv_at hl 4 rfl) ?_
                        refine va_get (D := D) (ci := 11) (v := .ref mbr) (C := RX11) (T := TX11) (N := 18) hx hb hts iw11 hown hK hP 2 rfl rfl 8 (by decide) fw2 (fun _ h9 => h9) rfl dX11_round_74 ?_
                        refine lv_iload hx hb dX11_round_77 (lv_at hl 0 rfl) ?_
                        refine lv_aload_n hx hb dX11_round_79 rfl (lv_at hl 4 rfl) ?_
                        refine va_get (D := D) (ci := 11) (v := .ref r0) (C := RX11) (T := TX11) (N := 18) hx hb hts iw11 hown hK hP 2 rfl rfl 7 (by decide) fw3 (fun _ h9 => h9) rfl dX11_round_80 ?_
                        refine lv_iload hx hb dX11_round_83 (lv_at hl 0 rfl) ?_
                        refine va_iald hx hb hK hP 5 0 rfl rfl (vp_in_nI (by omega) (by decide)) dX11_round_85 ?_
                        rw [nI_clamp (n := j92) (by omega)]
                        refine va_iast hx hb hK hP hD hS 1 0 rfl rfl (vp_in_nI (by omega) (by decide)) dX11_round_86 (fun H locs hP hD hS => ?_)
                        rw [nI_clamp (n := j92) (by omega)] at hP hD
                        have hP : va_P D vwCl [(mrf, .inl (y 0, 3, .inl frf)), (mbr, .inl (y 0, 6, .inl (upd x766 j92 (v756 j92)))), (mo, .inr (11, [.ref to, .ref ke, .ref ik, .ref mrf, .long mab, .long mbl, .ref ha, .ref r0, .ref mbr, .ref mbp, .ref mby, .int (nI bl), .int (nI ta), .int (nI tl), .int (nI tk), .int vv, .ref an, .ref va])), (to, .inl (y 0, 228, .inl ft)), (ha, .inl (y 0, 30, .inl v755)), (r0, .inl (y 0, 6, .inl v756))] H := hP
                        have hD : va_D A [(mrf, .inl (y 0, 3, .inl frf)), (mbr, .inl (y 0, 6, .inl (upd x766 j92 (v756 j92)))), (mo, .inr (11, [.ref to, .ref ke, .ref ik, .ref mrf, .long mab, .long mbl, .ref ha, .ref r0, .ref mbr, .ref mbp, .ref mby, .int (nI bl), .int (nI ta), .int (nI tl), .int (nI tk), .int vv, .ref an, .ref va])), (to, .inl (y 0, 228, .inl ft)), (ha, .inl (y 0, 30, .inl v755)), (r0, .inl (y 0, 6, .inl v756))] := hD
                        refine lv_iinc (v := (nI (j92 + 1))) (lv' := [(7, .int (nI (j92 + 1))), (6, .int r753), (5, .int (nI j91)), (4, .int x699), (0, .ref mo), (1, .int (nI j4)), (2, .int (nI 6)), (3, .int x3)]) hx hb dX11_round_87 hl (k := 0) rfl (nI_1 j92) (by decide) rfl (fun ls hl => ?_)
                        refine lv_goto (tgt := 60) hx hb dX11_round_90 (by decide) ?_
                        exact ihj92 (j92 + 1) (upd x766 j92 (v756 j92)) H locs ls (by omega) (by omega)  (hP.sub [0, 1, 2, 3, 4, 5] rfl) (hD.sub [0, 1, 2, 3, 4, 5] (by decide) rfl) hS (lv_sub hl [0, 1, 2, 3, 4, 5, 6, 7] rfl)
                exact lp775 (6 + 1) 0 x700 _ _ _ (by omega) (by omega)  hP hD hS (lv_sub hl [0, 1, 2, 3, 4, 5, 6, 7] rfl)
          exact lp742 (729 + 1) 0 fh fr0 (-1) fbr _ _ _ (by omega) (by omega) hkh hP hD hS (lv_sub hl [0, 1, 2, 3, 4, 5] rfl)
      · skip
        refine lv_aload_n hx hb dX11_round_25 rfl (lv_at hl 0 rfl) ?_
        refine lv_bipush (v := (-10)) hx hb dX11_round_26 (by decide) ?_
        have hs784 : kw_Split [(mrf, .inl (y 0, 3, .inl frf)), (ha, .inl (y 0, 30, .inl fh)), (r0, .inl (y 0, 6, .inl fr0)), (mbr, .inl (y 0, 6, .inl fbr)), (mo, .inr (11, [.ref to, .ref ke, .ref ik, .ref mrf, .long mab, .long mbl, .ref ha, .ref r0, .ref mbr, .ref mbp, .ref mby, .int (nI bl), .int (nI ta), .int (nI tl), .int (nI tk), .int vv, .ref an, .ref va])), (to, .inl (y 0, 228, .inl ft))] [(mo, .inr (11, [.ref to, .ref ke, .ref ik, .ref mrf, .long mab, .long mbl, .ref ha, .ref r0, .ref mbr, .ref mbp, .ref mby, .int (nI bl), .int (nI ta), .int (nI tl), .int (nI tk), .int vv, .ref an, .ref va])), (mrf, .inl (y 0, 3, .inl frf))] [(ha, .inl (y 0, 30, .inl fh)), (r0, .inl (y 0, 6, .inl fr0)), (mbr, .inl (y 0, 6, .inl fbr)), (to, .inl (y 0, 228, .inl ft))] [4, 0] [1, 2, 3, 5] := ⟨rfl, rfl, rfl, rfl, rfl, by decide⟩
        refine kw_go_i hs784 hP hD hS hA (va_runV (As := [.int (-10)]) (rest := []) ⟨hx, hb, hml, hown, hts⟩ (gr_bad l D y mo to ke ik mrf ha r0 mbr mbp mby an va mab mbl bl ta tl tk vv frf (-10)  _) (cwV 1 hts gX11_round_X11_bad rfl rfl rfl (by decide +kernel) ⟨Nat.le_of_ble_eq_true rfl, Nat.le_of_ble_eq_true rfl⟩) (kw_PreV (ci := 11) (q0 := 4) hs784 hP hD hK hN rfl rfl) rfl rfl hl.1 rfl (lv_room (Nat.le_of_ble_eq_true rfl)) dX11_round_28 ⟨Nat.le_of_ble_eq_true rfl, Nat.le_of_ble_eq_true rfl⟩) (fun r785 u786 H locs hq hP hD hS => ?_)
        obtain rfl := hq
        have hP : va_P D vwCl [(ha, .inl (y 0, 30, .inl fh)), (r0, .inl (y 0, 6, .inl fr0)), (mbr, .inl (y 0, 6, .inl fbr)), (to, .inl (y 0, 228, .inl ft)), (mo, .inr (11, [.ref to, .ref ke, .ref ik, .ref mrf, .long mab, .long mbl, .ref ha, .ref r0, .ref mbr, .ref mbp, .ref mby, .int (nI bl), .int (nI ta), .int (nI tl), .int (nI tk), .int vv, .ref an, .ref va])), (mrf, .inl (y 0, 3, .inl (upd frf 0 ((frf 0) + 1))))] H := hP
        have hD : va_D A [(ha, .inl (y 0, 30, .inl fh)), (r0, .inl (y 0, 6, .inl fr0)), (mbr, .inl (y 0, 6, .inl fbr)), (to, .inl (y 0, 228, .inl ft)), (mo, .inr (11, [.ref to, .ref ke, .ref ik, .ref mrf, .long mab, .long mbl, .ref ha, .ref r0, .ref mbr, .ref mbp, .ref mby, .int (nI bl), .int (nI ta), .int (nI tl), .int (nI tk), .int vv, .ref an, .ref va])), (mrf, .inl (y 0, 3, .inl (upd frf 0 ((frf 0) + 1))))] := hD
        exact W.iret (v := (-10)) hx hb hr (fun tZ ht hW => ⟨⟨(-10), ((upd frf 0 ((frf 0) + 1)), fh, fr0, fbr), rfl, ⟨hkh, by first | omega | (dsimp only; omega)⟩, by rw [ht]; exact hP.sub [4, 5, 3, 0, 1, 2] rfl, hD.sub [4, 5, 3, 0, 1, 2] (by decide) rfl⟩, hS.F ht⟩) hS.2.2 dX11_round_31
    · skip
      have hP : va_P D vwCl [(mrf, .inl (y 0, 3, .inl frf)), (ha, .inl (y 0, 30, .inl fh)), (r0, .inl (y 0, 6, .inl fr0)), (mbr, .inl (y 0, 6, .inl fbr)), (mo, .inr (11, [.ref to, .ref ke, .ref ik, .ref mrf, .long mab, .long mbl, .ref ha, .ref r0, .ref mbr, .ref mbp, .ref mby, .int (nI bl), .int (nI ta), .int (nI tl), .int (nI tk), .int vv, .ref an, .ref va])), (to, .inl (y 0, 228, .inl ft))] H := hP
      have hD : va_D A [(mrf, .inl (y 0, 3, .inl frf)), (ha, .inl (y 0, 30, .inl fh)), (r0, .inl (y 0, 6, .inl fr0)), (mbr, .inl (y 0, 6, .inl fbr)), (mo, .inr (11, [.ref to, .ref ke, .ref ik, .ref mrf, .long mab, .long mbl, .ref ha, .ref r0, .ref mbr, .ref mbp, .ref mby, .int (nI bl), .int (nI ta), .int (nI tl), .int (nI tk), .int vv, .ref an, .ref va])), (to, .inl (y 0, 228, .inl ft))] := hD
      refine lv_if_eq (tgt := 25) hx hb dX11_round_17 (by decide) (fun _ => ?_) (fun h9 => absurd h9 (by decide))
      refine lv_aload_n hx hb dX11_round_25 rfl (lv_at hl 0 rfl) ?_
      refine lv_bipush (v := (-10)) hx hb dX11_round_26 (by decide) ?_
      have hs787 : kw_Split [(mrf, .inl (y 0, 3, .inl frf)), (ha, .inl (y 0, 30, .inl fh)), (r0, .inl (y 0, 6, .inl fr0)), (mbr, .inl (y 0, 6, .inl fbr)), (mo, .inr (11, [.ref to, .ref ke, .ref ik, .ref mrf, .long mab, .long mbl, .ref ha, .ref r0, .ref mbr, .ref mbp, .ref mby, .int (nI bl), .int (nI ta), .int (nI tl), .int (nI tk), .int vv, .ref an, .ref va])), (to, .inl (y 0, 228, .inl ft))] [(mo, .inr (11, [.ref to, .ref ke, .ref ik, .ref mrf, .long mab, .long mbl, .ref ha, .ref r0, .ref mbr, .ref mbp, .ref mby, .int (nI bl), .int (nI ta), .int (nI tl), .int (nI tk), .int vv, .ref an, .ref va])), (mrf, .inl (y 0, 3, .inl frf))] [(ha, .inl (y 0, 30, .inl fh)), (r0, .inl (y 0, 6, .inl fr0)), (mbr, .inl (y 0, 6, .inl fbr)), (to, .inl (y 0, 228, .inl ft))] [4, 0] [1, 2, 3, 5] := ⟨rfl, rfl, rfl, rfl, rfl, by decide⟩
      refine kw_go_i hs787 hP hD hS hA (va_runV (As := [.int (-10)]) (rest := []) ⟨hx, hb, hml, hown, hts⟩ (gr_bad l D y mo to ke ik mrf ha r0 mbr mbp mby an va mab mbl bl ta tl tk vv frf (-10)  _) (cwV 1 hts gX11_round_X11_bad rfl rfl rfl (by decide +kernel) ⟨Nat.le_of_ble_eq_true rfl, Nat.le_of_ble_eq_true rfl⟩) (kw_PreV (ci := 11) (q0 := 4) hs787 hP hD hK hN rfl rfl) rfl rfl hl.1 rfl (lv_room (Nat.le_of_ble_eq_true rfl)) dX11_round_28 ⟨Nat.le_of_ble_eq_true rfl, Nat.le_of_ble_eq_true rfl⟩) (fun r788 u789 H locs hq hP hD hS => ?_)
      obtain rfl := hq
      have hP : va_P D vwCl [(ha, .inl (y 0, 30, .inl fh)), (r0, .inl (y 0, 6, .inl fr0)), (mbr, .inl (y 0, 6, .inl fbr)), (to, .inl (y 0, 228, .inl ft)), (mo, .inr (11, [.ref to, .ref ke, .ref ik, .ref mrf, .long mab, .long mbl, .ref ha, .ref r0, .ref mbr, .ref mbp, .ref mby, .int (nI bl), .int (nI ta), .int (nI tl), .int (nI tk), .int vv, .ref an, .ref va])), (mrf, .inl (y 0, 3, .inl (upd frf 0 ((frf 0) + 1))))] H := hP
      have hD : va_D A [(ha, .inl (y 0, 30, .inl fh)), (r0, .inl (y 0, 6, .inl fr0)), (mbr, .inl (y 0, 6, .inl fbr)), (to, .inl (y 0, 228, .inl ft)), (mo, .inr (11, [.ref to, .ref ke, .ref ik, .ref mrf, .long mab, .long mbl, .ref ha, .ref r0, .ref mbr, .ref mbp, .ref mby, .int (nI bl), .int (nI ta), .int (nI tl), .int (nI tk), .int vv, .ref an, .ref va])), (mrf, .inl (y 0, 3, .inl (upd frf 0 ((frf 0) + 1))))] := hD
      exact W.iret (v := (-10)) hx hb hr (fun tZ ht hW => ⟨⟨(-10), ((upd frf 0 ((frf 0) + 1)), fh, fr0, fbr), rfl, ⟨hkh, by first | omega | (dsimp only; omega)⟩, by rw [ht]; exact hP.sub [4, 5, 3, 0, 1, 2] rfl, hD.sub [4, 5, 3, 0, 1, 2] (by decide) rfl⟩, hS.F ht⟩) hS.2.2 dX11_round_31
  · skip
    have hP : va_P D vwCl [(mrf, .inl (y 0, 3, .inl frf)), (ha, .inl (y 0, 30, .inl fh)), (r0, .inl (y 0, 6, .inl fr0)), (mbr, .inl (y 0, 6, .inl fbr)), (mo, .inr (11, [.ref to, .ref ke, .ref ik, .ref mrf, .long mab, .long mbl, .ref ha, .ref r0, .ref mbr, .ref mbp, .ref mby, .int (nI bl), .int (nI ta), .int (nI tl), .int (nI tk), .int vv, .ref an, .ref va])), (to, .inl (y 0, 228, .inl ft))] H := hP
    have hD : va_D A [(mrf, .inl (y 0, 3, .inl frf)), (ha, .inl (y 0, 30, .inl fh)), (r0, .inl (y 0, 6, .inl fr0)), (mbr, .inl (y 0, 6, .inl fbr)), (mo, .inr (11, [.ref to, .ref ke, .ref ik, .ref mrf, .long mab, .long mbl, .ref ha, .ref r0, .ref mbr, .ref mbp, .ref mby, .int (nI bl), .int (nI ta), .int (nI tl), .int (nI tk), .int vv, .ref an, .ref va])), (to, .inl (y 0, 228, .inl ft))] := hD
    refine lv_if_eq (tgt := 25) hx hb dX11_round_5 (by decide) (fun _ => ?_) (fun h9 => absurd h9 (by decide))
    refine lv_aload_n hx hb dX11_round_25 rfl (lv_at hl 0 rfl) ?_
    refine lv_bipush (v := (-10)) hx hb dX11_round_26 (by decide) ?_
    have hs790 : kw_Split [(mrf, .inl (y 0, 3, .inl frf)), (ha, .inl (y 0, 30, .inl fh)), (r0, .inl (y 0, 6, .inl fr0)), (mbr, .inl (y 0, 6, .inl fbr)), (mo, .inr (11, [.ref to, .ref ke, .ref ik, .ref mrf, .long mab, .long mbl, .ref ha, .ref r0, .ref mbr, .ref mbp, .ref mby, .int (nI bl), .int (nI ta), .int (nI tl), .int (nI tk), .int vv, .ref an, .ref va])), (to, .inl (y 0, 228, .inl ft))] [(mo, .inr (11, [.ref to, .ref ke, .ref ik, .ref mrf, .long mab, .long mbl, .ref ha, .ref r0, .ref mbr, .ref mbp, .ref mby, .int (nI bl), .int (nI ta), .int (nI tl), .int (nI tk), .int vv, .ref an, .ref va])), (mrf, .inl (y 0, 3, .inl frf))] [(ha, .inl (y 0, 30, .inl fh)), (r0, .inl (y 0, 6, .inl fr0)), (mbr, .inl (y 0, 6, .inl fbr)), (to, .inl (y 0, 228, .inl ft))] [4, 0] [1, 2, 3, 5] := ⟨rfl, rfl, rfl, rfl, rfl, by decide⟩
    refine kw_go_i hs790 hP hD hS hA (va_runV (As := [.int (-10)]) (rest := []) ⟨hx, hb, hml, hown, hts⟩ (gr_bad l D y mo to ke ik mrf ha r0 mbr mbp mby an va mab mbl bl ta tl tk vv frf (-10)  _) (cwV 1 hts gX11_round_X11_bad rfl rfl rfl (by decide +kernel) ⟨Nat.le_of_ble_eq_true rfl, Nat.le_of_ble_eq_true rfl⟩) (kw_PreV (ci := 11) (q0 := 4) hs790 hP hD hK hN rfl rfl) rfl rfl hl.1 rfl (lv_room (Nat.le_of_ble_eq_true rfl)) dX11_round_28 ⟨Nat.le_of_ble_eq_true rfl, Nat.le_of_ble_eq_true rfl⟩) (fun r791 u792 H locs hq hP hD hS => ?_)
    obtain rfl := hq
    have hP : va_P D vwCl [(ha, .inl (y 0, 30, .inl fh)), (r0, .inl (y 0, 6, .inl fr0)), (mbr, .inl (y 0, 6, .inl fbr)), (to, .inl (y 0, 228, .inl ft)), (mo, .inr (11, [.ref to, .ref ke, .ref ik, .ref mrf, .long mab, .long mbl, .ref ha, .ref r0, .ref mbr, .ref mbp, .ref mby, .int (nI bl), .int (nI ta), .int (nI tl), .int (nI tk), .int vv, .ref an, .ref va])), (mrf, .inl (y 0, 3, .inl (upd frf 0 ((frf 0) + 1))))] H := hP
    have hD : va_D A [(ha, .inl (y 0, 30, .inl fh)), (r0, .inl (y 0, 6, .inl fr0)), (mbr, .inl (y 0, 6, .inl fbr)), (to, .inl (y 0, 228, .inl ft)), (mo, .inr (11, [.ref to, .ref ke, .ref ik, .ref mrf, .long mab, .long mbl, .ref ha, .ref r0, .ref mbr, .ref mbp, .ref mby, .int (nI bl), .int (nI ta), .int (nI tl), .int (nI tk), .int vv, .ref an, .ref va])), (mrf, .inl (y 0, 3, .inl (upd frf 0 ((frf 0) + 1))))] := hD
    exact W.iret (v := (-10)) hx hb hr (fun tZ ht hW => ⟨⟨(-10), ((upd frf 0 ((frf 0) + 1)), fh, fr0, fbr), rfl, ⟨hkh, by first | omega | (dsimp only; omega)⟩, by rw [ht]; exact hP.sub [4, 5, 3, 0, 1, 2] rfl, hD.sub [4, 5, 3, 0, 1, 2] (by decide) rfl⟩, hS.F ht⟩) hS.2.2 dX11_round_31
