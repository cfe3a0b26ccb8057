/-! the law's words are among the tables' words (written by mk16.py) -/
set_option maxRecDepth 100000 in
theorem m_wsJ40 : ∀ w ∈ wsJ40, w ∈ lw_tbl := by decide +kernel
set_option maxRecDepth 100000 in
theorem m_wsX80 : ∀ w ∈ wsX80, w ∈ lw_tbl := by decide +kernel
set_option maxRecDepth 100000 in
theorem m_wsX50 : ∀ w ∈ wsX50, w ∈ lw_tbl := by decide +kernel
set_option maxRecDepth 100000 in
theorem m_wsX20 : ∀ w ∈ wsX20, w ∈ lw_tbl := by decide +kernel
set_option maxRecDepth 100000 in
theorem m_wsX70 : ∀ w ∈ wsX70, w ∈ lw_tbl := by decide +kernel
set_option maxRecDepth 100000 in
theorem m_wsX30 : ∀ w ∈ wsX30, w ∈ lw_tbl := by decide +kernel
set_option maxRecDepth 100000 in
theorem m_wsX60 : ∀ w ∈ wsX60, w ∈ lw_tbl := by decide +kernel
set_option maxRecDepth 100000 in
theorem m_wsX40 : ∀ w ∈ wsX40, w ∈ lw_tbl := by decide +kernel
set_option maxRecDepth 100000 in
theorem m_wsJ00 : ∀ w ∈ wsJ00, w ∈ lw_tbl := by decide +kernel
set_option maxRecDepth 100000 in
theorem wsL_law_in0 : ∀ w ∈ wsL_law0, w ∈ lw_tb2 := fun w hw => by
  rw [← lawCh_f] at hw
  obtain ⟨c, hc, h⟩ := List.mem_flatten.mp hw
  unfold lawCh at hc
  simp only [List.mem_cons, List.not_mem_nil, or_false] at hc
  rcases hc with rfl | rfl | rfl | rfl | rfl | rfl | rfl | rfl | rfl | rfl | rfl | rfl | rfl | rfl | rfl | rfl | rfl | rfl | rfl | rfl | rfl | rfl | rfl | rfl | rfl | rfl | rfl | rfl | rfl | rfl | rfl | rfl | rfl | rfl | rfl | rfl | rfl | rfl | rfl | rfl | rfl | rfl | rfl | rfl | rfl | rfl | rfl | rfl | rfl | rfl | rfl | rfl | rfl | rfl
  · exact List.mem_append_right _ (m_wsL_law0_r1 w h)
  · exact List.mem_append_right _ (m_wsL_law0_r2 w h)
  · exact List.mem_append_right _ (m_wsL_law0_r3 w h)
  · exact List.mem_append_right _ (m_wsL_law0_r4 w h)
  · exact List.mem_append_right _ (m_wsL_law0_r5 w h)
  · exact List.mem_append_right _ (m_wsL_law0_r6 w h)
  · exact List.mem_append_right _ (m_wsL_law0_r7 w h)
  · exact List.mem_append_right _ (m_wsL_law0_r8 w h)
  · exact List.mem_append_right _ (m_wsL_law0_r9 w h)
  · exact List.mem_append_right _ (m_wsL_law0_r10 w h)
  · exact List.mem_append_right _ (m_wsL_law0_r11 w h)
  · exact List.mem_append_right _ (m_wsL_law0_r12 w h)
  · exact List.mem_append_right _ (m_wsL_law0_r13 w h)
  · exact List.mem_append_right _ (m_wsL_law0_r14 w h)
  · exact List.mem_append_right _ (m_wsL_law0_r15 w h)
  · exact List.mem_append_right _ (m_wsL_law0_r16 w h)
  · exact List.mem_append_right _ (m_wsL_law0_r17 w h)
  · exact List.mem_append_right _ (m_wsL_law0_r18 w h)
  · exact List.mem_append_right _ (m_wsL_law0_r19 w h)
  · exact List.mem_append_right _ (m_wsL_law0_r20 w h)
  · exact List.mem_append_right _ (m_wsL_law0_r21 w h)
  · exact m_wsL_law0_r22 w h
  · exact m_wsL_law0_r23 w h
  · exact List.mem_append_right _ (m_wsL_law0_r24 w h)
  · exact List.mem_append_right _ (m_wsL_law0_r25 w h)
  · exact m_wsL_law0_r26 w h
  · exact List.mem_append_right _ (m_wsL_law0_r27 w h)
  · exact List.mem_append_right _ (m_wsL_law0_r28 w h)
  · exact List.mem_append_right _ (m_wsL_law0_r29 w h)
  · exact List.mem_append_right _ (m_wsL_law0_r30 w h)
  · exact List.mem_append_right _ (m_wsL_law0_r31 w h)
  · exact List.mem_append_right _ (m_wsL_law0_r32 w h)
  · exact List.mem_append_right _ (m_wsL_law0_r33 w h)
  · exact List.mem_append_right _ (m_wsL_law0_r34 w h)
  · exact List.mem_append_right _ (m_wsL_law0_r35 w h)
  · exact List.mem_append_right _ (m_wsL_law0_r36 w h)
  · exact List.mem_append_right _ (m_wsL_law0_r37 w h)
  · exact List.mem_append_right _ (m_wsL_law0_r38 w h)
  · exact List.mem_append_right _ (m_wsL_law0_r39 w h)
  · exact List.mem_append_right _ (m_wsL_law0_r40 w h)
  · exact List.mem_append_right _ (m_wsL_law0_r41 w h)
  · exact List.mem_append_right _ (m_wsL_law0_r42 w h)
  · exact List.mem_append_right _ (m_wsL_law0_r43 w h)
  · exact List.mem_append_right _ (m_wsL_law0_r44 w h)
  · exact List.mem_append_right _ (m_wsL_law0_r45 w h)
  · exact List.mem_append_right _ (m_wsJ40 w h)
  · exact List.mem_append_right _ (m_wsX80 w h)
  · exact List.mem_append_right _ (m_wsX50 w h)
  · exact List.mem_append_right _ (m_wsX20 w h)
  · exact List.mem_append_right _ (m_wsX70 w h)
  · exact List.mem_append_right _ (m_wsX30 w h)
  · exact List.mem_append_right _ (m_wsX60 w h)
  · exact List.mem_append_right _ (m_wsX40 w h)
  · exact List.mem_append_right _ (m_wsJ00 w h)
set_option maxRecDepth 100000 in
theorem wsL_law_x0 : ∀ w ∈ (vx_atM "java/lang/ArithmeticException" ["java/lang/RuntimeException", "java/lang/Exception"]).filter goodWord, w ∈ lw_tbl := by decide +kernel
set_option maxRecDepth 100000 in
theorem wsL_law_x1 : ∀ w ∈ (vx_atM "java/lang/ArrayIndexOutOfBoundsException" ["java/lang/IndexOutOfBoundsException", "java/lang/RuntimeException", "java/lang/Exception"]).filter goodWord, w ∈ lw_tbl := by decide +kernel
set_option maxRecDepth 100000 in
theorem wsL_law_x2 : ∀ w ∈ (vx_atS RX8 114 "java/lang/IndexOutOfBoundsException" ["java/lang/RuntimeException", "java/lang/Exception"]).filter goodWord, w ∈ lw_tbl := by decide +kernel
set_option maxRecDepth 100000 in
theorem wsL_law_x3 : ∀ w ∈ (vx_atS RX8 143 "java/lang/IllegalArgumentException" ["java/lang/RuntimeException", "java/lang/Exception"]).filter goodWord, w ∈ lw_tbl := by decide +kernel
set_option maxRecDepth 100000 in
theorem wsL_law_x4 : ∀ w ∈ (vx_atS RX8 319 "java/lang/UnsupportedOperationException" ["java/lang/RuntimeException", "java/lang/Exception"]).filter goodWord, w ∈ lw_tbl := by decide +kernel
set_option maxRecDepth 100000 in
theorem wsL_law_x5 : ∀ w ∈ (vx_atS RX8 265 "java/lang/IllegalStateException" ["java/lang/RuntimeException", "java/lang/Exception"]).filter goodWord, w ∈ lw_tbl := by decide +kernel
set_option maxRecDepth 100000 in
theorem wsL_law_x6 : ∀ w ∈ (nse_at RX8 180).filter goodWord, w ∈ lw_tbl := by decide +kernel
set_option maxRecDepth 100000 in
theorem wsL_law_x7 : ∀ w ∈ (vx_atS RX8 240 "java/lang/ArithmeticException" ["java/lang/RuntimeException", "java/lang/Exception"]).filter goodWord, w ∈ lw_tbl := by decide +kernel
set_option maxRecDepth 100000 in
theorem wsL_law_in : ∀ w ∈ wsL_law, w ∈ lw_tb2 := fun w h => (List.mem_append.mp h).elim (fun h => (List.mem_append.mp h).elim (fun h => (List.mem_append.mp h).elim (fun h => (List.mem_append.mp h).elim (fun h => (List.mem_append.mp h).elim (fun h => (List.mem_append.mp h).elim (fun h => (List.mem_append.mp h).elim (fun h => (List.mem_append.mp h).elim (fun h => wsL_law_in0 w h) (fun h => List.mem_append_right _ (wsL_law_x0 w h))) (fun h => List.mem_append_right _ (wsL_law_x1 w h))) (fun h => List.mem_append_right _ (wsL_law_x2 w h))) (fun h => List.mem_append_right _ (wsL_law_x3 w h))) (fun h => List.mem_append_right _ (wsL_law_x4 w h))) (fun h => List.mem_append_right _ (wsL_law_x5 w h))) (fun h => List.mem_append_right _ (wsL_law_x6 w h))) (fun h => List.mem_append_right _ (wsL_law_x7 w h))
