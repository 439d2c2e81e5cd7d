theorem goodIn_c {ch : List (List Cond)} {big : List Cond} (hc : ch.flatten = big) (ws : List Cond) (ps : List (Nat × Nat)) (hp : ws = ps.filterMap (fun q => (ch.getD q.1 [])[q.2]?)) (h : ws.all goodWord = true) : GoodIn big ws := by
  intro w hw
  have h1 := List.all_eq_true.mp h w hw
  rw [hp] at hw
  obtain ⟨q, -, hi⟩ := List.mem_filterMap.mp hw
  have hm : w ∈ ch.getD q.1 [] := List.mem_of_getElem? hi
  refine ⟨?_, good_of_word h1⟩
  rw [← hc, List.mem_flatten]
  rw [List.getD_eq_getElem?_getD] at hm
  cases hq : ch[q.1]? with
  | none => rw [hq] at hm; exact absurd hm (by simp)
  | some z => rw [hq] at hm; exact ⟨z, List.mem_of_getElem? hq, hm⟩
def kw_ch : List (List Cond) := [wsL_law_r1, wsL_law_r2, wsL_law_r3, wsL_law_r4, wsL_law_r5, wsL_law_r6, wsL_law_r7, wsL_law_r8, wsL_law_r9, wsL_law_r10, wsL_law_r11, wsL_law_r12, wsL_law_r13, wsL_law_r14, wsL_law_r15, wsL_law_r16, wsL_law_r17, wsL_law_r18, wsL_law_r19, wsL_law_r20, wsL_law_r21, wsL_law_r22, wsL_law_r23, wsL_law_r24, wsL_law_r25, wsL_law_r26, wsL_law_r27, wsL_law_r28, wsL_law_r29, wsL_law_r30, wsL_law_r31, wsL_law_r32, wsL_law_r33, wsL_law_r34, wsL_law_r35, wsL_law_r36, wsL_law_r37, wsL_law_r38, wsL_law_r39, wsL_law_r40, wsL_law_r41, wsL_law_r42, wsX100, wsX110, wsX50, wsX80, wsX90, wsX60, wsX20, wsX30, wsX40, wsX70, wsX10, wsX00]
theorem kw_chE : kw_ch.flatten = wsL_law := by
  simp only [kw_ch, wsL_law, List.flatten_cons, List.flatten_nil, List.append_nil, List.append_assoc]
