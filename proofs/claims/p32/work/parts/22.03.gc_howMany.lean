set_option maxHeartbeats 4000000 in
set_option maxRecDepth 100000 in
theorem gc_howMany (l : Launch) (D : va_G) (y : Nat → ClassId) (g : Nat) (kk : Nat) (nw : Nat) (im : Nat) (kp : Nat) (tx : Nat) (tr : Nat) (be : Nat) (sh : Nat) (sd : Nat) (rf : Nat) (ab : Int32) (bl : Int32) (nk : Nat) (nd : Nat) (ne : Nat) (nm : Nat) (nn : Nat) (fi : Nat) (gl : Nat) (un : Nat) (mi : Nat) (no : Nat) (nd : Nat) (nl : Nat) (na : Nat) (ns : Nat) (nst : Int32) (ncl : Int32) (nnu : Int32) (bys : Nat) (wo : Nat) (fs : Nat) (sc : Nat) (ln : Nat) (sta : Nat) (en : Nat) (tok : Int32) (num : Int32) (tfi : Int32) (tgl : Int32) (tst : Int32) (k : Nat) (hfi : fi ≤ 6) (hgl : gl ≤ 5) (hun : un ≤ 8) (hmi : mi ≤ 4) (hno : no ≤ 6) (hln : ln ≤ 150) (hsta : sta ≤ ln) (hen : en ≤ ln) (hkk : k < 9) : kw_Mi l yX10_howMany wsX10_howMany ({ frames := 1, cells := 0, slots := 0, locals := 60 }) D y [.ref g, .int (nI k)] [(g, .inr (10, [.ref kk, .ref nw, .ref im, .ref kp, .ref tx, .ref tr, .ref be, .ref sh, .ref sd, .ref rf, .int ab, .int bl])), (nw, .inr (4, [.ref kk, .ref nk, .ref nd, .ref ne, .ref nm, .ref nn, .int (nI fi), .int (nI gl), .int (nI un), .int (nI mi), .int (nI no)])), (nd, .inr (1, [.ref nl, .ref na, .ref ns, .int nst, .int ncl, .int nnu])), (tx, .inr (7, [.ref bys, .int (nI ln), .int tok, .int (nI sta), .int (nI en), .int num, .ref wo, .ref fs, .ref sc, .int tfi, .int tgl, .int tst]))] (fun (r : Int32) (u : Unit) => True) (fun _ => [(g, .inr (10, [.ref kk, .ref nw, .ref im, .ref kp, .ref tx, .ref tr, .ref be, .ref sh, .ref sd, .ref rf, .int ab, .int bl])), (nw, .inr (4, [.ref kk, .ref nk, .ref nd, .ref ne, .ref nm, .ref nn, .int (nI fi), .int (nI gl), .int (nI un), .int (nI mi), .int (nI no)])), (nd, .inr (1, [.ref nl, .ref na, .ref ns, .int nst, .int ncl, .int nnu])), (tx, .inr (7, [.ref bys, .int (nI ln), .int tok, .int (nI sta), .int (nI en), .int num, .ref wo, .ref fs, .ref sc, .int tfi, .int tgl, .int tst]))]) 0 0 := by
  refine kw_Mi.of (cc := cX10_howMany) (maxL := 2) (ret := (some .int)) (by decide) rfl ?_
  intro pZ eZ s mZ beZ meZ cZ A hE
  obtain ⟨hx, hb, hr, hml, hts, hown, hlocks, hin, hA, hP, hD, hK, hN⟩ := hE
  have hS : va_S A s.heap s.heap [] := va_S.rf
  have hl := lv_entry ([.ref g, .int (nI k)]) (n := 2) (Nat.le_of_ble_eq_true rfl)
  rw [lg_entry_eq]
  generalize (lg_sl ([.ref g, .int (nI k)]) ++ List.replicate (2 - (lg_sl ([.ref g, .int (nI k)])).length) Slot.unset).toArray = ls at hl ⊢
  have hl : lv_has ls 2 [(0, .ref g), (1, .int (nI k))] := hl
  have fw1 := hts (.fieldLink RX10 36 "GleanDusk" "now" "LGleanDusk$Parish;") (List.mem_of_getElem? (i := 1) rfl)
  have fw2 := hts (.fieldLink RX10 94 "GleanDusk$Parish" "fields" "I") (List.mem_of_getElem? (i := 2) rfl)
  have fw3 := hts (.fieldLink RX10 115 "GleanDusk$Parish" "gleaners" "I") (List.mem_of_getElem? (i := 3) rfl)
  have fw4 := hts (.fieldLink RX10 140 "GleanDusk$Parish" "dusk" "LGleanDusk$Dusk;") (List.mem_of_getElem? (i := 4) rfl)
  have fw5 := hts (.fieldLink RX10 151 "GleanDusk$Dusk" "step" "I") (List.mem_of_getElem? (i := 5) rfl)
  have fw6 := hts (.fieldLink RX10 173 "GleanDusk$Dusk" "cloud" "I") (List.mem_of_getElem? (i := 6) rfl)
  have fw7 := hts (.fieldLink RX10 164 "GleanDusk$Dusk" "number" "I") (List.mem_of_getElem? (i := 7) rfl)
  have fw8 := hts (.fieldLink RX10 240 "GleanDusk$Parish" "missedCount" "I") (List.mem_of_getElem? (i := 8) rfl)
  have fw9 := hts (.fieldLink RX10 250 "GleanDusk$Parish" "noteCount" "I") (List.mem_of_getElem? (i := 9) rfl)
  have fw10 := hts (.fieldLink RX10 176 "GleanDusk$Parish" "undoable" "I") (List.mem_of_getElem? (i := 10) rfl)
  have fw11 := hts (.fieldLink RX10 51 "GleanDusk" "text" "LGleanDusk$Text;") (List.mem_of_getElem? (i := 11) rfl)
  have fw12 := hts (.fieldLink RX10 122 "GleanDusk$Text" "length" "I") (List.mem_of_getElem? (i := 12) rfl)
  have iw10 : ∀ w ∈ wsX100, w ∈ wsX10_howMany := fun _ h => List.mem_cons_of_mem _ (List.mem_append_left _ (List.mem_append_left _ (List.mem_append_left _ (List.mem_append_right _ h))))
  have iw4 : ∀ w ∈ wsX40, w ∈ wsX10_howMany := fun _ h => List.mem_cons_of_mem _ (List.mem_append_left _ (List.mem_append_left _ (List.mem_append_right _ h)))
  have iw1 : ∀ w ∈ wsX10, w ∈ wsX10_howMany := fun _ h => List.mem_cons_of_mem _ (List.mem_append_left _ (List.mem_append_right _ h))
  have iw7 : ∀ w ∈ wsX70, w ∈ wsX10_howMany := fun _ h => List.mem_cons_of_mem _ (List.mem_append_right _ h)
  rcases (show k = 0 ∨ k = 1 ∨ k = 2 ∨ k = 3 ∨ k = 4 ∨ k = 5 ∨ k = 6 ∨ k = 7 ∨ k = 8 by omega) with rfl | rfl | rfl | rfl | rfl | rfl | rfl | rfl | rfl
  · skip
    refine lv_iload_n hx hb dX10_howMany_0 rfl (lv_at hl 1 rfl) ?_
    refine lv_tableIn (off := 47) (tgt := 48) hx hb dX10_howMany_1 (by decide) (by decide) (by decide +kernel) (by decide) ?_
    refine lv_aload_n hx hb dX10_howMany_48 rfl (lv_at hl 0 rfl) ?_
    refine va_get (D := D) (ci := 10) (v := .ref nw) (C := RX10) (T := TX10) (N := 12) hx hb hts iw10 hown hK hP 0 rfl rfl 1 (by decide) fw1 (fun _ h9 => h9) rfl dX10_howMany_49 ?_
    refine va_get (D := D) (ci := 4) (v := .int (nI fi)) (C := RX4) (T := TX4) (N := 11) hx hb hts iw4 hown hK hP 1 rfl rfl 6 (by decide) fw2 (fun _ h9 => h9) rfl dX10_howMany_52 ?_
    exact W.iret (v := (nI fi)) hx hb hr (fun tZ ht hW => ⟨⟨(nI fi), (), rfl, trivial, by rw [ht]; exact hP.sub [0, 1, 2, 3] rfl, hD.sub [0, 1, 2, 3] (by decide) rfl⟩, hS.F ht⟩) hS.2.2 dX10_howMany_55
  · skip
    refine lv_iload_n hx hb dX10_howMany_0 rfl (lv_at hl 1 rfl) ?_
    refine lv_tableIn (off := 55) (tgt := 56) hx hb dX10_howMany_1 (by decide) (by decide) (by decide +kernel) (by decide) ?_
    refine lv_aload_n hx hb dX10_howMany_56 rfl (lv_at hl 0 rfl) ?_
    refine va_get (D := D) (ci := 10) (v := .ref nw) (C := RX10) (T := TX10) (N := 12) hx hb hts iw10 hown hK hP 0 rfl rfl 1 (by decide) fw1 (fun _ h9 => h9) rfl dX10_howMany_57 ?_
    refine va_get (D := D) (ci := 4) (v := .int (nI gl)) (C := RX4) (T := TX4) (N := 11) hx hb hts iw4 hown hK hP 1 rfl rfl 7 (by decide) fw3 (fun _ h9 => h9) rfl dX10_howMany_60 ?_
    exact W.iret (v := (nI gl)) hx hb hr (fun tZ ht hW => ⟨⟨(nI gl), (), rfl, trivial, by rw [ht]; exact hP.sub [0, 1, 2, 3] rfl, hD.sub [0, 1, 2, 3] (by decide) rfl⟩, hS.F ht⟩) hS.2.2 dX10_howMany_63
  · skip
    refine lv_iload_n hx hb dX10_howMany_0 rfl (lv_at hl 1 rfl) ?_
    refine lv_tableIn (off := 63) (tgt := 64) hx hb dX10_howMany_1 (by decide) (by decide) (by decide +kernel) (by decide) ?_
    refine lv_aload_n hx hb dX10_howMany_64 rfl (lv_at hl 0 rfl) ?_
    refine va_get (D := D) (ci := 10) (v := .ref nw) (C := RX10) (T := TX10) (N := 12) hx hb hts iw10 hown hK hP 0 rfl rfl 1 (by decide) fw1 (fun _ h9 => h9) rfl dX10_howMany_65 ?_
    refine va_get (D := D) (ci := 4) (v := .ref nd) (C := RX4) (T := TX4) (N := 11) hx hb hts iw4 hown hK hP 1 rfl rfl 2 (by decide) fw4 (fun _ h9 => h9) rfl dX10_howMany_68 ?_
    refine va_get (D := D) (ci := 1) (v := .int nst) (C := RX1) (T := TX1) (N := 6) hx hb hts iw1 hown hK hP 2 rfl rfl 3 (by decide) fw5 (fun _ h9 => h9) rfl dX10_howMany_71 ?_
    exact W.iret (v := nst) hx hb hr (fun tZ ht hW => ⟨⟨nst, (), rfl, trivial, by rw [ht]; exact hP.sub [0, 1, 2, 3] rfl, hD.sub [0, 1, 2, 3] (by decide) rfl⟩, hS.F ht⟩) hS.2.2 dX10_howMany_74
  · skip
    refine lv_iload_n hx hb dX10_howMany_0 rfl (lv_at hl 1 rfl) ?_
    refine lv_tableIn (off := 74) (tgt := 75) hx hb dX10_howMany_1 (by decide) (by decide) (by decide +kernel) (by decide) ?_
    refine lv_aload_n hx hb dX10_howMany_75 rfl (lv_at hl 0 rfl) ?_
    refine va_get (D := D) (ci := 10) (v := .ref nw) (C := RX10) (T := TX10) (N := 12) hx hb hts iw10 hown hK hP 0 rfl rfl 1 (by decide) fw1 (fun _ h9 => h9) rfl dX10_howMany_76 ?_
    refine va_get (D := D) (ci := 4) (v := .ref nd) (C := RX4) (T := TX4) (N := 11) hx hb hts iw4 hown hK hP 1 rfl rfl 2 (by decide) fw4 (fun _ h9 => h9) rfl dX10_howMany_79 ?_
    refine va_get (D := D) (ci := 1) (v := .int ncl) (C := RX1) (T := TX1) (N := 6) hx hb hts iw1 hown hK hP 2 rfl rfl 4 (by decide) fw6 (fun _ h9 => h9) rfl dX10_howMany_82 ?_
    exact W.iret (v := ncl) hx hb hr (fun tZ ht hW => ⟨⟨ncl, (), rfl, trivial, by rw [ht]; exact hP.sub [0, 1, 2, 3] rfl, hD.sub [0, 1, 2, 3] (by decide) rfl⟩, hS.F ht⟩) hS.2.2 dX10_howMany_85
  · skip
    refine lv_iload_n hx hb dX10_howMany_0 rfl (lv_at hl 1 rfl) ?_
    refine lv_tableIn (off := 85) (tgt := 86) hx hb dX10_howMany_1 (by decide) (by decide) (by decide +kernel) (by decide) ?_
    refine lv_aload_n hx hb dX10_howMany_86 rfl (lv_at hl 0 rfl) ?_
    refine va_get (D := D) (ci := 10) (v := .ref nw) (C := RX10) (T := TX10) (N := 12) hx hb hts iw10 hown hK hP 0 rfl rfl 1 (by decide) fw1 (fun _ h9 => h9) rfl dX10_howMany_87 ?_
    refine va_get (D := D) (ci := 4) (v := .ref nd) (C := RX4) (T := TX4) (N := 11) hx hb hts iw4 hown hK hP 1 rfl rfl 2 (by decide) fw4 (fun _ h9 => h9) rfl dX10_howMany_90 ?_
    refine va_get (D := D) (ci := 1) (v := .int nnu) (C := RX1) (T := TX1) (N := 6) hx hb hts iw1 hown hK hP 2 rfl rfl 5 (by decide) fw7 (fun _ h9 => h9) rfl dX10_howMany_93 ?_
    exact W.iret (v := nnu) hx hb hr (fun tZ ht hW => ⟨⟨nnu, (), rfl, trivial, by rw [ht]; exact hP.sub [0, 1, 2, 3] rfl, hD.sub [0, 1, 2, 3] (by decide) rfl⟩, hS.F ht⟩) hS.2.2 dX10_howMany_96
  · skip
    refine lv_iload_n hx hb dX10_howMany_0 rfl (lv_at hl 1 rfl) ?_
    refine lv_tableIn (off := 96) (tgt := 97) hx hb dX10_howMany_1 (by decide) (by decide) (by decide +kernel) (by decide) ?_
    refine lv_aload_n hx hb dX10_howMany_97 rfl (lv_at hl 0 rfl) ?_
    refine va_get (D := D) (ci := 10) (v := .ref nw) (C := RX10) (T := TX10) (N := 12) hx hb hts iw10 hown hK hP 0 rfl rfl 1 (by decide) fw1 (fun _ h9 => h9) rfl dX10_howMany_98 ?_
    refine va_get (D := D) (ci := 4) (v := .int (nI mi)) (C := RX4) (T := TX4) (N := 11) hx hb hts iw4 hown hK hP 1 rfl rfl 9 (by decide) fw8 (fun _ h9 => h9) rfl dX10_howMany_101 ?_
    exact W.iret (v := (nI mi)) hx hb hr (fun tZ ht hW => ⟨⟨(nI mi), (), rfl, trivial, by rw [ht]; exact hP.sub [0, 1, 2, 3] rfl, hD.sub [0, 1, 2, 3] (by decide) rfl⟩, hS.F ht⟩) hS.2.2 dX10_howMany_104
  · skip
    refine lv_iload_n hx hb dX10_howMany_0 rfl (lv_at hl 1 rfl) ?_
    refine lv_tableIn (off := 104) (tgt := 105) hx hb dX10_howMany_1 (by decide) (by decide) (by decide +kernel) (by decide) ?_
    refine lv_aload_n hx hb dX10_howMany_105 rfl (lv_at hl 0 rfl) ?_
    refine va_get (D := D) (ci := 10) (v := .ref nw) (C := RX10) (T := TX10) (N := 12) hx hb hts iw10 hown hK hP 0 rfl rfl 1 (by decide) fw1 (fun _ h9 => h9) rfl dX10_howMany_106 ?_
    refine va_get (D := D) (ci := 4) (v := .int (nI no)) (C := RX4) (T := TX4) (N := 11) hx hb hts iw4 hown hK hP 1 rfl rfl 10 (by decide) fw9 (fun _ h9 => h9) rfl dX10_howMany_109 ?_
    exact W.iret (v := (nI no)) hx hb hr (fun tZ ht hW => ⟨⟨(nI no), (), rfl, trivial, by rw [ht]; exact hP.sub [0, 1, 2, 3] rfl, hD.sub [0, 1, 2, 3] (by decide) rfl⟩, hS.F ht⟩) hS.2.2 dX10_howMany_112
  · skip
    refine lv_iload_n hx hb dX10_howMany_0 rfl (lv_at hl 1 rfl) ?_
    refine lv_tableIn (off := 112) (tgt := 113) hx hb dX10_howMany_1 (by decide) (by decide) (by decide +kernel) (by decide) ?_
    refine lv_aload_n hx hb dX10_howMany_113 rfl (lv_at hl 0 rfl) ?_
    refine va_get (D := D) (ci := 10) (v := .ref nw) (C := RX10) (T := TX10) (N := 12) hx hb hts iw10 hown hK hP 0 rfl rfl 1 (by decide) fw1 (fun _ h9 => h9) rfl dX10_howMany_114 ?_
    refine va_get (D := D) (ci := 4) (v := .int (nI un)) (C := RX4) (T := TX4) (N := 11) hx hb hts iw4 hown hK hP 1 rfl rfl 8 (by decide) fw10 (fun _ h9 => h9) rfl dX10_howMany_117 ?_
    exact W.iret (v := (nI un)) hx hb hr (fun tZ ht hW => ⟨⟨(nI un), (), rfl, trivial, by rw [ht]; exact hP.sub [0, 1, 2, 3] rfl, hD.sub [0, 1, 2, 3] (by decide) rfl⟩, hS.F ht⟩) hS.2.2 dX10_howMany_120
  · skip
    refine lv_iload_n hx hb dX10_howMany_0 rfl (lv_at hl 1 rfl) ?_
    refine lv_tableOut (tgt := 121) hx hb dX10_howMany_1 (by decide) (by decide) ?_
    refine lv_aload_n hx hb dX10_howMany_121 rfl (lv_at hl 0 rfl) ?_
    refine va_get (D := D) (ci := 10) (v := .ref tx) (C := RX10) (T := TX10) (N := 12) hx hb hts iw10 hown hK hP 0 rfl rfl 4 (by decide) fw11 (fun _ h9 => h9) rfl dX10_howMany_122 ?_
    refine va_get (D := D) (ci := 7) (v := .int (nI ln)) (C := RX7) (T := TX7) (N := 12) hx hb hts iw7 hown hK hP 3 rfl rfl 1 (by decide) fw12 (fun _ h9 => h9) rfl dX10_howMany_125 ?_
    exact W.iret (v := (nI ln)) hx hb hr (fun tZ ht hW => ⟨⟨(nI ln), (), rfl, trivial, by rw [ht]; exact hP.sub [0, 1, 2, 3] rfl, hD.sub [0, 1, 2, 3] (by decide) rfl⟩, hS.F ht⟩) hS.2.2 dX10_howMany_128

set_option maxHeartbeats 4000000 in
set_option maxRecDepth 100000 in
theorem gc_bbegin (l : Launch) (D : va_G) (y : Nat → ClassId) (be : Nat) (br : Nat) (bf : Nat) (bm : Int32)  : kw_Mv l yX0_begin wsX0_begin ({ frames := 1, cells := 0, slots := 0, locals := 60 }) D y [.ref be] [(be, .inr (0, [.ref br, .ref bf, .int bm]))] (fun (u : Unit) => True) (fun _ => [(be, .inr (0, [.ref br, .ref bf, .int (-1)]))]) 0 0 := by
  refine kw_Mv.of (cc := cX0_begin) (maxL := 1) (ret := none) (by decide) rfl ?_
  intro pZ eZ s mZ beZ meZ cZ A hE
  obtain ⟨hx, hb, hr, hml, hts, hown, hlocks, hin, hA, hP, hD, hK, hN⟩ := hE
  have hS : va_S A s.heap s.heap [] := va_S.rf
  have hl := lv_entry ([.ref be]) (n := 1) (Nat.le_of_ble_eq_true rfl)
  rw [lg_entry_eq]
  generalize (lg_sl ([.ref be]) ++ List.replicate (1 - (lg_sl ([.ref be])).length) Slot.unset).toArray = ls at hl ⊢
  have hl : lv_has ls 1 [(0, .ref be)] := hl
  have fw1 := hts (.fieldLink RX0 18 "GleanDusk$Best" "most" "I") (List.mem_of_getElem? (i := 1) rfl)
  have iw0 : ∀ w ∈ wsX00, w ∈ wsX0_begin := fun _ h => List.mem_cons_of_mem _ (List.mem_append_right _ h)
  refine lv_aload_n hx hb dX0_begin_0 rfl (lv_at hl 0 rfl) ?_
  refine lv_iconst (v := (-1)) hx hb dX0_begin_1 (by decide) ?_
  refine va_put (D := D) (ci := 0) (v := .int (-1)) (ty := .int) (C := RX0) (T := TX0) (N := 3) hx hb hts iw0 tyX0 tyX0_ok nmX0 hown hK hP hD hS 0 rfl rfl 2 (by decide) fw1 (fun _ h9 => h9) rfl (by decide +kernel) rfl rfl (Nat.le_of_ble_eq_true rfl) dX0_begin_2 (fun H locs hP hD hS => ?_)
  have hP : va_P D vwCl [(be, .inr (0, [.ref br, .ref bf, .int (-1)]))] H := hP
  have hD : va_D A [(be, .inr (0, [.ref br, .ref bf, .int (-1)]))] := hD
  exact W.vret hx hb hr (fun tZ ht hW => ⟨⟨(), rfl, trivial, by rw [ht]; exact hP.sub [0] rfl, hD.sub [0] (by decide) rfl⟩, hS.F ht⟩) hS.2.2 dX0_begin_5

set_option maxHeartbeats 4000000 in
set_option maxRecDepth 100000 in
theorem gc_offer (l : Launch) (D : va_G) (y : Nat → ClassId) (be : Nat) (br : Nat) (bf : Nat) (bm : Int32) (fbr : Nat → Int32) (fbf : Nat → Int32) (x : Int32) (k : Nat) (hkk : k ≤ 6) : kw_Mv l yX0_offer wsX0_offer ({ frames := 1, cells := 0, slots := 0, locals := 60 }) D y [.ref be, .int x, .int (nI k)] [(be, .inr (0, [.ref br, .ref bf, .int bm])), (br, .inl (y 0, 6, .inl fbr)), (bf, .inl (y 0, 6, .inl fbf))] (fun (u : Int32 × (Nat → Int32)) => True) (fun u => [(be, .inr (0, [.ref br, .ref bf, .int u.1])), (br, .inl (y 0, 6, .inl fbr)), (bf, .inl (y 0, 6, .inl u.2))]) 0 0 := by
  refine kw_Mv.of (cc := cX0_offer) (maxL := 3) (ret := none) (by decide) rfl ?_
  intro pZ eZ s mZ beZ meZ cZ A hE
  obtain ⟨hx, hb, hr, hml, hts, hown, hlocks, hin, hA, hP, hD, hK, hN⟩ := hE
  have hS : va_S A s.heap s.heap [] := va_S.rf
  have hl := lv_entry ([.ref be, .int x, .int (nI k)]) (n := 3) (Nat.le_of_ble_eq_true rfl)
  rw [lg_entry_eq]
  generalize (lg_sl ([.ref be, .int x, .int (nI k)]) ++ List.replicate (3 - (lg_sl ([.ref be, .int x, .int (nI k)])).length) Slot.unset).toArray = ls at hl ⊢
  have hl : lv_has ls 3 [(0, .ref be), (1, .int x), (2, .int (nI k))] := hl
  have fw1 := hts (.fieldLink RX0 18 "GleanDusk$Best" "most" "I") (List.mem_of_getElem? (i := 1) rfl)
  have fw2 := hts (.fieldLink RX0 9 "GleanDusk$Best" "row" "[I") (List.mem_of_getElem? (i := 2) rfl)
  have fw3 := hts (.fieldLink RX0 15 "GleanDusk$Best" "first" "[I") (List.mem_of_getElem? (i := 3) rfl)
  have fw4 := hts (.methodLink RX0 22 Lib.Math.min.name) (List.mem_of_getElem? (i := 4) rfl)
  have fw5 := hts (.static Lib.Math.min.name) (List.mem_of_getElem? (i := 5) rfl)
  have fw6 := hts (.initialized "java/lang/Math") (List.mem_of_getElem? (i := 6) rfl)
  have fw7 := hts (.code Lib.Math.min.name Lib.Math.min.code 2 (some .int)) (List.mem_of_getElem? (i := 7) rfl)
  have fw8 := hts (.methodLink RX0 28 arraycopyName) (List.mem_of_getElem? (i := 8) rfl)
  have fw9 := hts (.native arraycopyName) (List.mem_of_getElem? (i := 9) rfl)
  have fw10 := hts (.static arraycopyName) (List.mem_of_getElem? (i := 10) rfl)
  have fw11 := hts (.initialized "java/lang/System") (List.mem_of_getElem? (i := 11) rfl)
  have iw0 : ∀ w ∈ wsX00, w ∈ wsX0_offer := fun _ h => List.mem_cons_of_mem _ (List.mem_append_right _ h)
  refine lv_iload_n hx hb dX0_offer_0 rfl (lv_at hl 1 rfl) ?_
  refine lv_aload_n hx hb dX0_offer_1 rfl (lv_at hl 0 rfl) ?_
  refine va_get (D := D) (ci := 0) (v := .int bm) (C := RX0) (T := TX0) (N := 3) hx hb hts iw0 hown hK hP 0 rfl rfl 2 (by decide) fw1 (fun _ h9 => h9) rfl dX0_offer_2 ?_
  refine lv_icmp_gt (tgt := 9) hx hb dX0_offer_5 (by decide) (fun h1 => ?_) (fun h2 => ?_)
  · skip
    refine lv_aload_n hx hb dX0_offer_9 rfl (lv_at hl 0 rfl) ?_
    refine lv_iload_n hx hb dX0_offer_10 rfl (lv_at hl 1 rfl) ?_
    refine va_put (D := D) (ci := 0) (v := .int x) (ty := .int) (C := RX0) (T := TX0) (N := 3) hx hb hts iw0 tyX0 tyX0_ok nmX0 hown hK hP hD hS 0 rfl rfl 2 (by decide) fw1 (fun _ h9 => h9) rfl (by decide +kernel) rfl rfl (Nat.le_of_ble_eq_true rfl) dX0_offer_11 (fun H locs hP hD hS => ?_)
    have hP : va_P D vwCl [(be, .inr (0, [.ref br, .ref bf, .int x])), (br, .inl (y 0, 6, .inl fbr)), (bf, .inl (y 0, 6, .inl fbf))] H := hP
    have hD : va_D A [(be, .inr (0, [.ref br, .ref bf, .int x])), (br, .inl (y 0, 6, .inl fbr)), (bf, .inl (y 0, 6, .inl fbf))] := hD
    refine lv_aload_n hx hb dX0_offer_14 rfl (lv_at hl 0 rfl) ?_
    refine va_get (D := D) (ci := 0) (v := .ref br) (C := RX0) (T := TX0) (N := 3) hx hb hts iw0 hown hK hP 0 rfl rfl 0 (by decide) fw2 (fun _ h9 => h9) rfl dX0_offer_15 ?_
    refine lv_iconst (v := 0) hx hb dX0_offer_18 (by decide) ?_
    refine lv_aload_n hx hb dX0_offer_19 rfl (lv_at hl 0 rfl) ?_
    refine va_get (D := D) (ci := 0) (v := .ref bf) (C := RX0) (T := TX0) (N := 3) hx hb hts iw0 hown hK hP 0 rfl rfl 1 (by decide) fw3 (fun _ h9 => h9) rfl dX0_offer_20 ?_
    refine lv_iconst (v := 0) hx hb dX0_offer_23 (by decide) ?_
    refine lv_iload_n hx hb dX0_offer_24 rfl (lv_at hl 2 rfl) ?_
    refine lv_bipush (v := 6) hx hb dX0_offer_25 (by decide) ?_
    refine va_mmin hx hb (hml.trans hl.1.symm) hown fw4 fw5 fw6 fw7 (Nat.le_of_ble_eq_true rfl) (Nat.le_of_ble_eq_true rfl) (Nat.le_of_ble_eq_true rfl) (Nat.le_of_ble_eq_true rfl) dX0_offer_27 ?_
    rw [show (if 6 < (nI k) then 6 else (nI k)) = nI (min k 6) from kw_min (a := k) (b := 6) (by omega) (by omega)]
    refine va_copyi hx hb (hml.trans hl.1.symm) hown fw8 fw9 fw10 fw11 hK hP hD hS 1 2 0 0 rfl rfl rfl rfl rfl (by decide) (by decide) (nI_pos (by omega)) (by rw [nI_clamp (by omega)]; show 0 + _ ≤ _; omega) (by rw [nI_clamp (by omega)]; show 0 + _ ≤ _; omega) (fun _ _ => rfl) (Nat.le_of_ble_eq_true rfl) (Nat.le_of_ble_eq_true rfl) dX0_offer_30 (fun H locs hP hD hS => ?_)
    rw [show ((0 : Int32)).toNatClampNeg = 0 from rfl, nI_clamp (n := (min k 6)) (by omega)] at hP hD
    have hP : va_P D vwCl [(be, .inr (0, [.ref br, .ref bf, .int x])), (br, .inl (y 0, 6, .inl fbr)), (bf, .inl (y 0, 6, .inl (va_cpy fbr fbf 0 0 (min k 6))))] H := hP
    have hD : va_D A [(be, .inr (0, [.ref br, .ref bf, .int x])), (br, .inl (y 0, 6, .inl fbr)), (bf, .inl (y 0, 6, .inl (va_cpy fbr fbf 0 0 (min k 6))))] := hD
    exact W.vret hx hb hr (fun tZ ht hW => ⟨⟨(x, (va_cpy fbr fbf 0 0 (min k 6))), rfl, trivial, by rw [ht]; exact hP.sub [0, 1, 2] rfl, hD.sub [0, 1, 2] (by decide) rfl⟩, hS.F ht⟩) hS.2.2 dX0_offer_33
  · skip
    exact W.vret hx hb hr (fun tZ ht hW => ⟨⟨(bm, fbf), rfl, trivial, by rw [ht]; exact hP.sub [0, 1, 2] rfl, hD.sub [0, 1, 2] (by decide) rfl⟩, hS.F ht⟩) hS.2.2 dX0_offer_8
