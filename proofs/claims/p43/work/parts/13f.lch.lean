/-! the law's words, by chunks (written by mk13g.py) -/
def lawCh : List (List Cond) := [wsL_law0_r1, wsL_law0_r2, wsL_law0_r3, wsL_law0_r4, wsL_law0_r5, wsL_law0_r6, wsL_law0_r7, wsL_law0_r8, wsL_law0_r9, wsL_law0_r10, wsL_law0_r11, wsL_law0_r12, wsL_law0_r13, wsL_law0_r14, wsL_law0_r15, wsL_law0_r16, wsL_law0_r17, wsL_law0_r18, wsL_law0_r19, wsL_law0_r20, wsL_law0_r21, wsL_law0_r22, wsL_law0_r23, wsL_law0_r24, wsL_law0_r25, wsL_law0_r26, wsL_law0_r27, wsL_law0_r28, wsL_law0_r29, wsL_law0_r30, wsL_law0_r31, wsL_law0_r32, wsL_law0_r33, wsL_law0_r34, wsL_law0_r35, wsL_law0_r36, wsL_law0_r37, wsL_law0_r38, wsL_law0_r39, wsL_law0_r40, wsL_law0_r41, wsL_law0_r42, wsL_law0_r43, wsL_law0_r44, wsL_law0_r45, wsJ40, wsX80, wsX50, wsX20, wsX70, wsX30, wsX60, wsX40, wsJ00]
theorem lawCh_f : lawCh.flatten = wsL_law0 := by
  unfold lawCh wsL_law0
  simp only [List.flatten_cons, List.flatten_nil, List.append_nil, List.append_assoc]
theorem lawCh_in {j : Nat} {c : List Cond} (h : lawCh[j]? = some c) : ∀ w ∈ c, w ∈ wsL_law := fun w hw => by
  have h0 : w ∈ wsL_law0 := by
    rw [← lawCh_f]
    exact List.mem_flatten.mpr ⟨c, List.mem_of_getElem? h, hw⟩
  unfold wsL_law
  simp only [List.mem_append]
  simp only [h0, true_or]
theorem goodIn_2 (ws : List Cond) (ps : List (Nat × Nat)) (hp : ws = ps.filterMap (fun q => (lawCh[q.1]?).bind (fun c => c[q.2]?))) (h : ws.all goodWord = true) : GoodIn wsL_law ws :=
  goodIn_sub (fun w hw => by
    rw [hp] at hw
    obtain ⟨q, -, hq⟩ := List.mem_filterMap.mp hw
    obtain ⟨c, hc, hi⟩ := Option.bind_eq_some_iff.mp hq
    exact lawCh_in hc w (List.mem_of_getElem? hi)) h
