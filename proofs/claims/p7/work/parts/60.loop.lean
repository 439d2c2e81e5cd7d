set_option maxHeartbeats 8000000 in
set_option maxRecDepth 100000 in
theorem lw_loop {p : Program} {e : Env} {s : State} {m : MethodId} {below : List Frame} {meth : Method} {c : Code} (l : Launch) {b L : Nat} {xs : Nat → Int32} (hL : L ≤ 384) (C0 : lw_At p s m meth c b L xs) {D : va_G} {y : Nat → ClassId} (hK : va_K D vwCl (kw_T y) s) (hN : kw_N s) {aK aV : Nat → Nat} (hZ : kz aK aV (fun q : Nat => s.heap.size ≤ q) s s.heap) : ∀ (fu I : Nat), I ≤ L → L - I < fu → lwK p e s m below meth c l b D y (fun q : Nat => s.heap.size ≤ q) I 18 := by
  obtain ⟨hx, hb, hr, hml, hown, hts0, hX, hbl, hlocks, hgv⟩ := id C0
  have hown : s.vm.findClass RL = some m.cls := hown
  have hts : ∀ w ∈ wsL_law, w.before #[Value.ref b] s = true := fun w h => hts0 w (wsL_law_in w h)
  have hbA : ¬ (fun q : Nat => s.heap.size ≤ q) b := Nat.not_le.mpr hbl
  have hA : ∀ q : Nat, s.heap.size ≤ q → (fun q : Nat => s.heap.size ≤ q) q := fun _ h => h
  intro fu
  induction fu with
  | zero => intro I h1 h2; exact absurd h2 (Nat.not_lt_zero _)
  | succ fu ih =>
    intro I hIL hf cA cN cI cF cQ pA pN pI pF pQ qA qN qI qF qQ mA mN mI mL mF H locs ls hIC hIP hIQ hIM hP hD hT hS hl
    refine lv_iload_n hx hb dL_law_18 rfl (lv_at hl 0 rfl) ?_
    refine lv_aload_n hx hb dL_law_19 rfl (lv_at hl 3 rfl) ?_
    refine va_slen hx hb hX hbl hbA hS dL_law_20 ?_
    refine lv_bipush (v := 6) hx hb dL_law_21 (by decide) ?_
    refine lv_isub hx hb dL_law_23 ?_
    refine lv_icmp_gt (tgt := 1149) hx hb dL_law_24 (by decide) (fun h9 => ?_) (fun h9 => ?_)
    · refine lv_iconst (v := 1) hx hb dL_law_1149 (by decide) ?_
      refine va_forget (fun q hq => hS.2.2 q hq) ?_
      refine W.widen (k := 600000) (n := 7302250) (Nat.le_of_ble_eq_true rfl) (Nat.le_of_ble_eq_true rfl) ?_
      exact lw_ret hx hb hr hlocks dL_law_1150
    · have hI6 : I + 6 ≤ L := kr_len6 hL hIL h9
      have kk : lwK p e s m below meth c l b D y (fun q : Nat => s.heap.size ≤ q) I 1143 := by
        intro cA cN cI cF cQ pA pN pI pF pQ qA qN qI qF qQ mA mN mI mL mF H locs ls hIC hIP hIQ hIM hP hD hT hS hl
        refine lv_iinc (v := nI (I + 6)) (lv' := [(3, .int (nI (I + 6))), (2, .ref (mA 0)), (1, .ref (cA 0)), (0, .ref b)]) hx hb dL_law_1143 hl (k := 0) rfl (nI_add I 6) (by decide) rfl (fun ls hl => ?_)
        refine lv_goto (tgt := 18) hx hb dL_law_1146 (by decide) ?_
        exact ih (I + 6) (by omega) (by omega) cA cN cI cF cQ pA pN pI pF pQ qA qN qI qF qQ mA mN mI mL mF H locs ls hIC hIP hIQ hIM hP hD hT hS hl
      refine lv_aload_n hx hb dL_law_27 rfl (lv_at hl 3 rfl) ?_
      refine lv_iload_n hx hb dL_law_28 rfl (lv_at hl 0 rfl) ?_
      refine va_sld hx hb hX hbl hbA hS (vp_in_nI (by omega) (by omega)) dL_law_29 ?_
      rw [nI_clamp (n := I) (by omega)]
      refine lv_bipush (v := 63) hx hb dL_law_30 (by decide) ?_
      refine lv_iand hx hb dL_law_32 ?_
      obtain ⟨j9, hj9, he9⟩ := pk_andE (xs I) (m := 63) 6 (by decide)
      rw [he9]
      rcases (show j9 = 0 ∨ j9 = 1 ∨ j9 = 2 ∨ j9 = 3 ∨ j9 = 4 ∨ j9 = 5 ∨ j9 = 6 ∨ j9 = 7 ∨ j9 = 8 ∨ j9 = 9 ∨ j9 = 10 ∨ j9 = 11 ∨ j9 = 12 ∨ j9 = 13 ∨ j9 = 14 ∨ j9 = 15 ∨ j9 = 16 ∨ j9 = 17 ∨ j9 = 18 ∨ j9 = 19 ∨ j9 = 20 ∨ j9 = 21 ∨ j9 = 22 ∨ j9 = 23 ∨ j9 = 24 ∨ j9 = 25 ∨ j9 = 26 ∨ j9 = 27 ∨ j9 = 28 ∨ j9 = 29 ∨ j9 = 30 ∨ j9 = 31 ∨ j9 = 32 ∨ j9 = 33 ∨ j9 = 34 ∨ 34 < j9 by omega) with rfl | rfl | rfl | rfl | rfl | rfl | rfl | rfl | rfl | rfl | rfl | rfl | rfl | rfl | rfl | rfl | rfl | rfl | rfl | rfl | rfl | rfl | rfl | rfl | rfl | rfl | rfl | rfl | rfl | rfl | rfl | rfl | rfl | rfl | rfl | hj8
      · refine lv_tableIn (off := 155) (tgt := 188) hx hb dL_law_33 (by decide) (by decide) (by decide +kernel) (by decide) ?_
        exact lw_op0 l hL C0 hK hN hZ hA hbA I hI6 kk cA cN cI cF cQ pA pN pI pF pQ qA qN qI qF qQ mA mN mI mL mF H locs ls hIC hIP hIQ hIM hP hD hT hS hl
      · refine lv_tableIn (off := 178) (tgt := 211) hx hb dL_law_33 (by decide) (by decide) (by decide +kernel) (by decide) ?_
        exact lw_op1 l hL C0 hK hN hZ hA hbA I hI6 kk cA cN cI cF cQ pA pN pI pF pQ qA qN qI qF qQ mA mN mI mL mF H locs ls hIC hIP hIQ hIM hP hD hT hS hl
      · refine lv_tableIn (off := 211) (tgt := 244) hx hb dL_law_33 (by decide) (by decide) (by decide +kernel) (by decide) ?_
        exact lw_op2 l hL C0 hK hN hZ hA hbA I hI6 kk cA cN cI cF cQ pA pN pI pF pQ qA qN qI qF qQ mA mN mI mL mF H locs ls hIC hIP hIQ hIM hP hD hT hS hl
      · refine lv_tableIn (off := 234) (tgt := 267) hx hb dL_law_33 (by decide) (by decide) (by decide +kernel) (by decide) ?_
        exact lw_op3 l hL C0 hK hN hZ hA hbA I hI6 kk cA cN cI cF cQ pA pN pI pF pQ qA qN qI qF qQ mA mN mI mL mF H locs ls hIC hIP hIQ hIM hP hD hT hS hl
      · refine lv_tableIn (off := 257) (tgt := 290) hx hb dL_law_33 (by decide) (by decide) (by decide +kernel) (by decide) ?_
        exact lw_op4 l hL C0 hK hN hZ hA hbA I hI6 kk cA cN cI cF cQ pA pN pI pF pQ qA qN qI qF qQ mA mN mI mL mF H locs ls hIC hIP hIQ hIM hP hD hT hS hl
      · refine lv_tableIn (off := 270) (tgt := 303) hx hb dL_law_33 (by decide) (by decide) (by decide +kernel) (by decide) ?_
        exact lw_op5 l hL C0 hK hN hZ hA hbA I hI6 kk cA cN cI cF cQ pA pN pI pF pQ qA qN qI qF qQ mA mN mI mL mF H locs ls hIC hIP hIQ hIM hP hD hT hS hl
      · refine lv_tableIn (off := 283) (tgt := 316) hx hb dL_law_33 (by decide) (by decide) (by decide +kernel) (by decide) ?_
        exact lw_op6 l hL C0 hK hN hZ hA hbA I hI6 kk cA cN cI cF cQ pA pN pI pF pQ qA qN qI qF qQ mA mN mI mL mF H locs ls hIC hIP hIQ hIM hP hD hT hS hl
      · refine lv_tableIn (off := 306) (tgt := 339) hx hb dL_law_33 (by decide) (by decide) (by decide +kernel) (by decide) ?_
        exact lw_op7 l hL C0 hK hN hZ hA hbA I hI6 kk cA cN cI cF cQ pA pN pI pF pQ qA qN qI qF qQ mA mN mI mL mF H locs ls hIC hIP hIQ hIM hP hD hT hS hl
      · refine lv_tableIn (off := 319) (tgt := 352) hx hb dL_law_33 (by decide) (by decide) (by decide +kernel) (by decide) ?_
        exact lw_op8 l hL C0 hK hN hZ hA hbA I hI6 kk cA cN cI cF cQ pA pN pI pF pQ qA qN qI qF qQ mA mN mI mL mF H locs ls hIC hIP hIQ hIM hP hD hT hS hl
      · refine lv_tableIn (off := 352) (tgt := 385) hx hb dL_law_33 (by decide) (by decide) (by decide +kernel) (by decide) ?_
        exact lw_op9 l hL C0 hK hN hZ hA hbA I hI6 kk cA cN cI cF cQ pA pN pI pF pQ qA qN qI qF qQ mA mN mI mL mF H locs ls hIC hIP hIQ hIM hP hD hT hS hl
      · refine lv_tableIn (off := 375) (tgt := 408) hx hb dL_law_33 (by decide) (by decide) (by decide +kernel) (by decide) ?_
        exact lw_op10 l hL C0 hK hN hZ hA hbA I hI6 kk cA cN cI cF cQ pA pN pI pF pQ qA qN qI qF qQ mA mN mI mL mF H locs ls hIC hIP hIQ hIM hP hD hT hS hl
      · refine lv_tableIn (off := 388) (tgt := 421) hx hb dL_law_33 (by decide) (by decide) (by decide +kernel) (by decide) ?_
        exact lw_op11 l hL C0 hK hN hZ hA hbA I hI6 kk cA cN cI cF cQ pA pN pI pF pQ qA qN qI qF qQ mA mN mI mL mF H locs ls hIC hIP hIQ hIM hP hD hT hS hl
      · refine lv_tableIn (off := 421) (tgt := 454) hx hb dL_law_33 (by decide) (by decide) (by decide +kernel) (by decide) ?_
        exact lw_op12 l hL C0 hK hN hZ hA hbA I hI6 kk cA cN cI cF cQ pA pN pI pF pQ qA qN qI qF qQ mA mN mI mL mF H locs ls hIC hIP hIQ hIM hP hD hT hS hl
      · refine lv_tableIn (off := 454) (tgt := 487) hx hb dL_law_33 (by decide) (by decide) (by decide +kernel) (by decide) ?_
        exact lw_op13 l hL C0 hK hN hZ hA hbA I hI6 kk cA cN cI cF cQ pA pN pI pF pQ qA qN qI qF qQ mA mN mI mL mF H locs ls hIC hIP hIQ hIM hP hD hT hS hl
      · refine lv_tableIn (off := 487) (tgt := 520) hx hb dL_law_33 (by decide) (by decide) (by decide +kernel) (by decide) ?_
        exact lw_op14 l hL C0 hK hN hZ hA hbA I hI6 kk cA cN cI cF cQ pA pN pI pF pQ qA qN qI qF qQ mA mN mI mL mF H locs ls hIC hIP hIQ hIM hP hD hT hS hl
      · refine lv_tableIn (off := 520) (tgt := 553) hx hb dL_law_33 (by decide) (by decide) (by decide +kernel) (by decide) ?_
        exact lw_op15 l hL C0 hK hN hZ hA hbA I hI6 kk cA cN cI cF cQ pA pN pI pF pQ qA qN qI qF qQ mA mN mI mL mF H locs ls hIC hIP hIQ hIM hP hD hT hS hl
      · refine lv_tableIn (off := 563) (tgt := 596) hx hb dL_law_33 (by decide) (by decide) (by decide +kernel) (by decide) ?_
        exact lw_op16 l hL C0 hK hN hZ hA hbA I hI6 kk cA cN cI cF cQ pA pN pI pF pQ qA qN qI qF qQ mA mN mI mL mF H locs ls hIC hIP hIQ hIM hP hD hT hS hl
      · refine lv_tableIn (off := 596) (tgt := 629) hx hb dL_law_33 (by decide) (by decide) (by decide +kernel) (by decide) ?_
        exact lw_op17 l hL C0 hK hN hZ hA hbA I hI6 kk cA cN cI cF cQ pA pN pI pF pQ qA qN qI qF qQ mA mN mI mL mF H locs ls hIC hIP hIQ hIM hP hD hT hS hl
      · refine lv_tableIn (off := 619) (tgt := 652) hx hb dL_law_33 (by decide) (by decide) (by decide +kernel) (by decide) ?_
        exact lw_op18 l hL C0 hK hN hZ hA hbA I hI6 kk cA cN cI cF cQ pA pN pI pF pQ qA qN qI qF qQ mA mN mI mL mF H locs ls hIC hIP hIQ hIM hP hD hT hS hl
      · refine lv_tableIn (off := 652) (tgt := 685) hx hb dL_law_33 (by decide) (by decide) (by decide +kernel) (by decide) ?_
        exact lw_op19 l hL C0 hK hN hZ hA hbA I hI6 kk cA cN cI cF cQ pA pN pI pF pQ qA qN qI qF qQ mA mN mI mL mF H locs ls hIC hIP hIQ hIM hP hD hT hS hl
      · refine lv_tableIn (off := 675) (tgt := 708) hx hb dL_law_33 (by decide) (by decide) (by decide +kernel) (by decide) ?_
        exact lw_op20 l hL C0 hK hN hZ hA hbA I hI6 kk cA cN cI cF cQ pA pN pI pF pQ qA qN qI qF qQ mA mN mI mL mF H locs ls hIC hIP hIQ hIM hP hD hT hS hl
      · refine lv_tableIn (off := 728) (tgt := 761) hx hb dL_law_33 (by decide) (by decide) (by decide +kernel) (by decide) ?_
        exact lw_op21 l hL C0 hK hN hZ hA hbA I hI6 kk cA cN cI cF cQ pA pN pI pF pQ qA qN qI qF qQ mA mN mI mL mF H locs ls hIC hIP hIQ hIM hP hD hT hS hl
      · refine lv_tableIn (off := 741) (tgt := 774) hx hb dL_law_33 (by decide) (by decide) (by decide +kernel) (by decide) ?_
        exact lw_op22 l hL C0 hK hN hZ hA hbA I hI6 kk cA cN cI cF cQ pA pN pI pF pQ qA qN qI qF qQ mA mN mI mL mF H locs ls hIC hIP hIQ hIM hP hD hT hS hl
      · refine lv_tableIn (off := 804) (tgt := 837) hx hb dL_law_33 (by decide) (by decide) (by decide +kernel) (by decide) ?_
        exact lw_op23 l hL C0 hK hN hZ hA hbA I hI6 kk cA cN cI cF cQ pA pN pI pF pQ qA qN qI qF qQ mA mN mI mL mF H locs ls hIC hIP hIQ hIM hP hD hT hS hl
      · refine lv_tableIn (off := 827) (tgt := 860) hx hb dL_law_33 (by decide) (by decide) (by decide +kernel) (by decide) ?_
        exact lw_op24 l hL C0 hK hN hZ hA hbA I hI6 kk cA cN cI cF cQ pA pN pI pF pQ qA qN qI qF qQ mA mN mI mL mF H locs ls hIC hIP hIQ hIM hP hD hT hS hl
      · refine lv_tableIn (off := 850) (tgt := 883) hx hb dL_law_33 (by decide) (by decide) (by decide +kernel) (by decide) ?_
        exact lw_op25 l hL C0 hK hN hZ hA hbA I hI6 kk cA cN cI cF cQ pA pN pI pF pQ qA qN qI qF qQ mA mN mI mL mF H locs ls hIC hIP hIQ hIM hP hD hT hS hl
      · refine lv_tableIn (off := 873) (tgt := 906) hx hb dL_law_33 (by decide) (by decide) (by decide +kernel) (by decide) ?_
        exact lw_op26 l hL C0 hK hN hZ hA hbA I hI6 kk cA cN cI cF cQ pA pN pI pF pQ qA qN qI qF qQ mA mN mI mL mF H locs ls hIC hIP hIQ hIM hP hD hT hS hl
      · refine lv_tableIn (off := 916) (tgt := 949) hx hb dL_law_33 (by decide) (by decide) (by decide +kernel) (by decide) ?_
        exact lw_op27 l hL C0 hK hN hZ hA hbA I hI6 kk cA cN cI cF cQ pA pN pI pF pQ qA qN qI qF qQ mA mN mI mL mF H locs ls hIC hIP hIQ hIM hP hD hT hS hl
      · refine lv_tableIn (off := 949) (tgt := 982) hx hb dL_law_33 (by decide) (by decide) (by decide +kernel) (by decide) ?_
        exact lw_op28 l hL C0 hK hN hZ hA hbA I hI6 kk cA cN cI cF cQ pA pN pI pF pQ qA qN qI qF qQ mA mN mI mL mF H locs ls hIC hIP hIQ hIM hP hD hT hS hl
      · refine lv_tableIn (off := 982) (tgt := 1015) hx hb dL_law_33 (by decide) (by decide) (by decide +kernel) (by decide) ?_
        exact lw_op29 l hL C0 hK hN hZ hA hbA I hI6 kk cA cN cI cF cQ pA pN pI pF pQ qA qN qI qF qQ mA mN mI mL mF H locs ls hIC hIP hIQ hIM hP hD hT hS hl
      · refine lv_tableIn (off := 1005) (tgt := 1038) hx hb dL_law_33 (by decide) (by decide) (by decide +kernel) (by decide) ?_
        exact lw_op30 l hL C0 hK hN hZ hA hbA I hI6 kk cA cN cI cF cQ pA pN pI pF pQ qA qN qI qF qQ mA mN mI mL mF H locs ls hIC hIP hIQ hIM hP hD hT hS hl
      · refine lv_tableIn (off := 1028) (tgt := 1061) hx hb dL_law_33 (by decide) (by decide) (by decide +kernel) (by decide) ?_
        exact lw_op31 l hL C0 hK hN hZ hA hbA I hI6 kk cA cN cI cF cQ pA pN pI pF pQ qA qN qI qF qQ mA mN mI mL mF H locs ls hIC hIP hIQ hIM hP hD hT hS hl
      · refine lv_tableIn (off := 1051) (tgt := 1084) hx hb dL_law_33 (by decide) (by decide) (by decide +kernel) (by decide) ?_
        exact lw_op32 l hL C0 hK hN hZ hA hbA I hI6 kk cA cN cI cF cQ pA pN pI pF pQ qA qN qI qF qQ mA mN mI mL mF H locs ls hIC hIP hIQ hIM hP hD hT hS hl
      · refine lv_tableIn (off := 1074) (tgt := 1107) hx hb dL_law_33 (by decide) (by decide) (by decide +kernel) (by decide) ?_
        exact lw_op33 l hL C0 hK hN hZ hA hbA I hI6 kk cA cN cI cF cQ pA pN pI pF pQ qA qN qI qF qQ mA mN mI mL mF H locs ls hIC hIP hIQ hIM hP hD hT hS hl
      · refine lv_tableIn (off := 1097) (tgt := 1130) hx hb dL_law_33 (by decide) (by decide) (by decide +kernel) (by decide) ?_
        exact lw_op34 l hL C0 hK hN hZ hA hbA I hI6 kk cA cN cI cF cQ pA pN pI pF pQ qA qN qI qF qQ mA mN mI mL mF H locs ls hIC hIP hIQ hIM hP hD hT hS hl
      · refine lv_tableOut (tgt := 1143) hx hb dL_law_33 (Or.inr (by rw [nI_toInt (by omega)]; omega)) (by decide) ?_
        exact kk cA cN cI cF cQ pA pN pI pF pQ qA qN qI qF qQ mA mN mI mL mF H locs ls hIC hIP hIQ hIM hP hD hT hS hl
