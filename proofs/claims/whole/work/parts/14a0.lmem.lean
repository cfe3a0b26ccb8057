/-! the law's words among the tables' words -/
set_option maxRecDepth 20000 in
theorem m_wsL_law0_r31 : ∀ w ∈ wsL_law0_r31, w ∈ lw_tbl := fun w h => (goodIn_p wsL_law0_r31 [904, 1600, 911, 1604] (by decide +kernel) (by decide +kernel) w h).1
set_option maxRecDepth 20000 in
theorem m_wsL_law0_r32 : ∀ w ∈ wsL_law0_r32, w ∈ lw_tbl := fun w h => (goodIn_p wsL_law0_r32 [919, 924, 929, 933, 937, 1608] (by decide +kernel) (by decide +kernel) w h).1
set_option maxRecDepth 20000 in
theorem m_wsL_law0_r33 : ∀ w ∈ wsL_law0_r33, w ∈ lw_tbl := fun w h => (goodIn_p wsL_law0_r33 [1612, 1616, 1620, 1624, 945] (by decide +kernel) (by decide +kernel) w h).1
set_option maxRecDepth 20000 in
theorem m_wsL_law0_r34 : ∀ w ∈ wsL_law0_r34, w ∈ lw_tbl := fun w h => (goodIn_p wsL_law0_r34 [949, 348, 1628, 956, 338, 341] (by decide +kernel) (by decide +kernel) w h).1
set_option maxRecDepth 20000 in
theorem m_wsL_law0_r35 : ∀ w ∈ wsL_law0_r35, w ∈ lw_tbl := fun w h => (goodIn_p wsL_law0_r35 [1632, 1636, 1640, 965] (by decide +kernel) (by decide +kernel) w h).1
set_option maxRecDepth 20000 in
theorem m_wsL_law0_r36 : ∀ w ∈ wsL_law0_r36, w ∈ lw_tbl := fun w h => (goodIn_p wsL_law0_r36 [352, 359, 356, 1644, 973] (by decide +kernel) (by decide +kernel) w h).1
set_option maxRecDepth 20000 in
theorem m_wsL_law0_r37 : ∀ w ∈ wsL_law0_r37, w ∈ lw_tbl := fun w h => (goodIn_p wsL_law0_r37 [366, 370, 1649, 1653, 981] (by decide +kernel) (by decide +kernel) w h).1
set_option maxRecDepth 20000 in
theorem m_wsL_law0_r38 : ∀ w ∈ wsL_law0_r38, w ∈ lw_tbl := fun w h => (goodIn_p wsL_law0_r38 [378, 382, 1657, 1003] (by decide +kernel) (by decide +kernel) w h).1
set_option maxRecDepth 20000 in
theorem m_wsL_law0_r39 : ∀ w ∈ wsL_law0_r39, w ∈ lw_tbl := fun w h => (goodIn_p wsL_law0_r39 [1662, 1015, 1019, 1023, 1666] (by decide +kernel) (by decide +kernel) w h).1
set_option maxRecDepth 20000 in
theorem m_wsL_law0_r40 : ∀ w ∈ wsL_law0_r40, w ∈ lw_tbl := fun w h => (goodIn_p wsL_law0_r40 [1670, 1030, 1034, 1038, 1674] (by decide +kernel) (by decide +kernel) w h).1
set_option maxRecDepth 20000 in
theorem m_wsL_law0_r41 : ∀ w ∈ wsL_law0_r41, w ∈ lw_tbl := fun w h => (goodIn_p wsL_law0_r41 [1678, 261, 304, 394, 1682] (by decide +kernel) (by decide +kernel) w h).1
set_option maxRecDepth 20000 in
theorem m_wsL_law0_r42 : ∀ w ∈ wsL_law0_r42, w ∈ lw_tbl := fun w h => (goodIn_p wsL_law0_r42 [1046, 1050, 1070, 1074] (by decide +kernel) (by decide +kernel) w h).1
set_option maxRecDepth 20000 in
theorem m_wsL_law0_r43 : ∀ w ∈ wsL_law0_r43, w ∈ lw_tbl := fun w h => (goodIn_p wsL_law0_r43 [1686, 1081, 1173, 1085, 1089, 1095] (by decide +kernel) (by decide +kernel) w h).1
set_option maxRecDepth 20000 in
theorem m_wsL_law0_r44 : ∀ w ∈ wsL_law0_r44, w ∈ lw_tbl := fun w h => (goodIn_p wsL_law0_r44 [1099, 1103, 1107, 1113] (by decide +kernel) (by decide +kernel) w h).1
