/-! the law's words are among the tables' words, by chunks -/
set_option maxRecDepth 100000 in
theorem m_wsL_law0_r31 : ∀ w ∈ wsL_law0_r31, w ∈ lw_tbl := by decide +kernel
set_option maxRecDepth 100000 in
theorem m_wsL_law0_r32 : ∀ w ∈ wsL_law0_r32, w ∈ lw_tbl := by decide +kernel
set_option maxRecDepth 100000 in
theorem m_wsL_law0_r33 : ∀ w ∈ wsL_law0_r33, w ∈ lw_tbl := by decide +kernel
set_option maxRecDepth 100000 in
theorem m_wsL_law0_r34 : ∀ w ∈ wsL_law0_r34, w ∈ lw_tbl := by decide +kernel
set_option maxRecDepth 100000 in
theorem m_wsL_law0_r35 : ∀ w ∈ wsL_law0_r35, w ∈ lw_tbl := by decide +kernel
set_option maxRecDepth 100000 in
theorem m_wsL_law0_r36 : ∀ w ∈ wsL_law0_r36, w ∈ lw_tbl := by decide +kernel
set_option maxRecDepth 100000 in
theorem m_wsL_law0_r37 : ∀ w ∈ wsL_law0_r37, w ∈ lw_tbl := by decide +kernel
set_option maxRecDepth 100000 in
theorem m_wsL_law0_r38 : ∀ w ∈ wsL_law0_r38, w ∈ lw_tbl := by decide +kernel
set_option maxRecDepth 100000 in
theorem m_wsL_law0_r39 : ∀ w ∈ wsL_law0_r39, w ∈ lw_tbl := by decide +kernel
set_option maxRecDepth 100000 in
theorem m_wsL_law0_r40 : ∀ w ∈ wsL_law0_r40, w ∈ lw_tbl := by decide +kernel
set_option maxRecDepth 100000 in
theorem m_wsL_law0_r41 : ∀ w ∈ wsL_law0_r41, w ∈ lw_tbl := by decide +kernel
set_option maxRecDepth 100000 in
theorem m_wsL_law0_r42 : ∀ w ∈ wsL_law0_r42, w ∈ lw_tbl := by decide +kernel
set_option maxRecDepth 100000 in
theorem m_wsL_law0_r43 : ∀ w ∈ wsL_law0_r43, w ∈ lw_tbl := by decide +kernel
set_option maxRecDepth 100000 in
theorem m_wsL_law0_r44 : ∀ w ∈ wsL_law0_r44, w ∈ lw_tbl := by decide +kernel
set_option maxRecDepth 100000 in
theorem m_wsL_law0_r45 : ∀ w ∈ wsL_law0_r45, w ∈ lw_tbl := by decide +kernel
