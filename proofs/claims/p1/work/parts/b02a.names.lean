/-! the law's words by chunks -/
theorem gi_ch {big : List Cond} (chs : List (List Cond)) (hc : ∀ w ∈ chs.flatten, w ∈ big) (ws : List Cond) (ps : List (Nat × Nat)) (hp : ws = ps.filterMap (fun p => (chs[p.1]?).bind (fun c => c[p.2]?))) (h : ws.all goodWord = true) : GoodIn big ws := by
  intro w hw
  have h1 := List.all_eq_true.mp h w hw
  rw [hp] at hw
  obtain ⟨p, -, hi⟩ := List.mem_filterMap.mp hw
  have hm : w ∈ chs.flatten := by
    cases hq : chs[p.1]? with
    | none => rw [hq] at hi; cases hi
    | some c =>
      rw [hq] at hi
      exact List.mem_flatten.mpr ⟨c, List.mem_of_getElem? hq, List.mem_of_getElem? hi⟩
  exact ⟨hc w hm, good_of_word h1⟩
def lwC : List (List Cond) := [wsL_law0_r1, wsL_law0_r2, wsL_law0_r3, wsL_law0_r4, wsL_law0_r5, wsL_law0_r6, wsL_law0_r7, wsL_law0_r8, wsL_law0_r9, wsL_law0_r10, wsL_law0_r11, wsL_law0_r12, wsL_law0_r13, wsL_law0_r14, wsL_law0_r15, wsL_law0_r16, wsL_law0_r17, wsL_law0_r18, wsL_law0_r19, wsL_law0_r20, wsL_law0_r21, wsL_law0_r22, wsL_law0_r23, wsL_law0_r24, wsL_law0_r25, wsL_law0_r26, wsL_law0_r27, wsL_law0_r28, wsL_law0_r29, wsL_law0_r30, wsL_law0_r31, wsL_law0_r32, wsL_law0_r33, wsL_law0_r34, wsL_law0_r35, wsL_law0_r36, wsL_law0_r37, wsL_law0_r38, wsL_law0_r39, wsL_law0_r40, wsL_law0_r41, wsL_law0_r42, wsL_law0_r43, wsX90, wsX100, wsX30, wsX20, wsX10, wsX60, wsX50, wsX40]
theorem lwC_in : ∀ w ∈ lwC.flatten, w ∈ wsL_law := by
  intro w hw
  have e : lwC.flatten = wsL_law0 := by
    unfold lwC wsL_law0
    simp only [List.flatten_cons, List.flatten_nil, List.append_assoc, List.append_nil]
  rw [e] at hw
  exact List.mem_append_left _ (List.mem_append_left _ hw)
