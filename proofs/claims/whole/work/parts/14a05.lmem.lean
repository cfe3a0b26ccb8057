/-! the law's words among the tables' words -/
set_option maxRecDepth 20000 in
theorem m_wsL_law0_r45 : ∀ w ∈ wsL_law0_r45, w ∈ lw_tbl := fun w h => (goodIn_p wsL_law0_r45 [1117, 1121, 1124, 1127, 1132, 1135] (by decide +kernel) (by decide +kernel) w h).1
set_option maxRecDepth 20000 in
theorem m_wsL_law0_r46 : ∀ w ∈ wsL_law0_r46, w ∈ lw_tbl := fun w h => (goodIn_p wsL_law0_r46 [1138, 1141, 1145, 1155, 1158, 1161, 1166] (by decide +kernel) (by decide +kernel) w h).1
set_option maxRecDepth 20000 in
theorem m_wsL_law0_r47 : ∀ w ∈ wsL_law0_r47, w ∈ lw_tbl := fun w h => (goodIn_p wsL_law0_r47 [1170, 1177, 1183, 1188, 1690] (by decide +kernel) (by decide +kernel) w h).1
set_option maxRecDepth 20000 in
theorem m_wsL_law0_r48 : ∀ w ∈ wsL_law0_r48, w ∈ lw_tbl := fun w h => (goodIn_p wsL_law0_r48 [1694, 1698, 1702, 1706, 1710] (by decide +kernel) (by decide +kernel) w h).1
set_option maxRecDepth 20000 in
theorem m_wsL_law0_r49 : ∀ w ∈ wsL_law0_r49, w ∈ lw_tbl := fun w h => (goodIn_p wsL_law0_r49 [1714, 1718, 1721, 1725, 1729, 1198] (by decide +kernel) (by decide +kernel) w h).1
set_option maxRecDepth 20000 in
theorem m_wsL_law0_r50 : ∀ w ∈ wsL_law0_r50, w ∈ lw_tbl := fun w h => (goodIn_p wsL_law0_r50 [1733, 1206, 1737, 1214] (by decide +kernel) (by decide +kernel) w h).1
set_option maxRecDepth 20000 in
theorem m_wsL_law0_r51 : ∀ w ∈ wsL_law0_r51, w ∈ lw_tbl := fun w h => (goodIn_p wsL_law0_r51 [1218, 1222, 1226, 1233, 1741] (by decide +kernel) (by decide +kernel) w h).1
set_option maxRecDepth 20000 in
theorem m_wsL_law0_r52 : ∀ w ∈ wsL_law0_r52, w ∈ lw_tbl := fun w h => (goodIn_p wsL_law0_r52 [1745, 1240, 1749, 1753, 1249] (by decide +kernel) (by decide +kernel) w h).1
set_option maxRecDepth 20000 in
theorem m_wsL_law0_r53 : ∀ w ∈ wsL_law0_r53, w ∈ lw_tbl := fun w h => (goodIn_p wsL_law0_r53 [1254, 1757, 1261, 1265, 1269] (by decide +kernel) (by decide +kernel) w h).1
set_option maxRecDepth 20000 in
theorem m_wsL_law0_r54 : ∀ w ∈ wsL_law0_r54, w ∈ lw_tbl := fun w h => (goodIn_p wsL_law0_r54 [1273, 1277, 1281, 1285, 1289, 1293] (by decide +kernel) (by decide +kernel) w h).1
set_option maxRecDepth 20000 in
theorem m_wsL_law0_r55 : ∀ w ∈ wsL_law0_r55, w ∈ lw_tbl := fun w h => (goodIn_p wsL_law0_r55 [1297, 1301, 1305, 1761, 1765, 1769] (by decide +kernel) (by decide +kernel) w h).1
set_option maxRecDepth 20000 in
theorem m_wsL_law0_r56 : ∀ w ∈ wsL_law0_r56, w ∈ lw_tbl := fun w h => (goodIn_p wsL_law0_r56 [1773, 1313, 1777, 1321] (by decide +kernel) (by decide +kernel) w h).1
set_option maxRecDepth 20000 in
theorem m_wsL_law0_r57 : ∀ w ∈ wsL_law0_r57, w ∈ lw_tbl := fun w h => (goodIn_p wsL_law0_r57 [1781, 1328, 1333, 1785, 400, 1789] (by decide +kernel) (by decide +kernel) w h).1
set_option maxRecDepth 20000 in
theorem m_wsL_law0_r58 : ∀ w ∈ wsL_law0_r58, w ∈ lw_tbl := fun w h => (goodIn_p wsL_law0_r58 [1340, 1345, 1793] (by decide +kernel) (by decide +kernel) w h).1
