/-! the law's words by pieces -/
theorem goodIn_q {big : List Cond} {L : List (List Cond)} (hL : big = L.flatten) (ws : List Cond) (ps : List (Nat × Nat)) (hp : ws = ps.filterMap (fun x => (L[x.1]?).bind (fun l => l[x.2]?))) (h : ws.all goodWord = true) : GoodIn big ws := by
  intro w hw
  have h1 := List.all_eq_true.mp h w hw
  rw [hp] at hw
  obtain ⟨x, -, hx⟩ := List.mem_filterMap.mp hw
  obtain ⟨l, hl, hi⟩ := Option.bind_eq_some_iff.mp hx
  have hm : w ∈ big := by
    rw [hL]
    exact List.mem_flatten.mpr ⟨l, List.mem_of_getElem? hl, List.mem_of_getElem? hi⟩
  exact ⟨hm, good_of_word h1⟩
def wsL_P : List (List Cond) := [wsL_law_r1, wsL_law_r2, wsL_law_r3, wsL_law_r4, wsL_law_r5, wsL_law_r6, wsL_law_r7, wsL_law_r8, wsL_law_r9, wsL_law_r10, wsL_law_r11, wsL_law_r12, wsL_law_r13, wsL_law_r14, wsL_law_r15, wsL_law_r16, wsL_law_r17, wsL_law_r18, wsL_law_r19, wsL_law_r20, wsL_law_r21, wsL_law_r22, wsL_law_r23, wsL_law_r24, wsL_law_r25, wsL_law_r26, wsL_law_r27, wsL_law_r28, wsL_law_r29, wsL_law_r30, wsL_law_r31, wsL_law_r32, wsX80, wsX90, wsX10, wsX40, wsX70, wsX50, wsX20, wsX30, wsX00, wsX60]
theorem wsL_fl : wsL_law = wsL_P.flatten := by simp only [wsL_law, wsL_P, List.flatten_cons, List.flatten_nil, List.append_assoc, List.append_nil]
