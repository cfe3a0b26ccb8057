set_option maxRecDepth 20000 in
theorem m_wsL_law0_r31 : ∀ w ∈ wsL_law0_r31, w ∈ lw_tbl := fun w h => (goodIn_p wsL_law0_r31 [904, 1600, 911, 1604] (by decide +kernel) (by decide +kernel) w h).1
set_option maxRecDepth 20000 in
theorem m_wsL_law0_r32 : ∀ w ∈ wsL_law0_r32, w ∈ lw_tbl := fun w h => (goodIn_p wsL_law0_r32 [919, 924, 929, 933, 937, 1608] (by decide +kernel) (by decide +kernel) w h).1
set_option maxRecDepth 20000 in
theorem m_wsL_law0_r33 : ∀ w ∈ wsL_law0_r33, w ∈ lw_tbl := fun w h => (goodIn_p wsL_law0_r33 [1612, 1616, 1620, 1624, 945] (by decide +kernel) (by decide +kernel) w h).1
set_option maxRecDepth 20000 in
theorem m_wsL_law0_r34 : ∀ w ∈ wsL_law0_r34, w ∈ lw_tbl := fun w h => (goodIn_p wsL_law0_r34 [949, 348, 1628, 956, 338, 341] (by decide +kernel) (by decide +kernel) w h).1
set_option maxRecDepth 20000 in
theorem m_wsL_law0_r35 : ∀ w ∈ wsL_law0_r35, w ∈ lw_tbl := fun w h => (goodIn_p wsL_law0_r35 [1632, 1636, 1640, 965] (by decide +kernel) (by decide +kernel) w h).1
set_option maxRecDepth 20000 in
theorem m_wsL_law0_r36 : ∀ w ∈ wsL_law0_r36, w ∈ lw_tbl := fun w h => (goodIn_p wsL_law0_r36 [352, 359, 356, 1644, 973] (by decide +kernel) (by decide +kernel) w h).1
set_option maxRecDepth 20000 in
theorem m_wsL_law0_r37 : ∀ w ∈ wsL_law0_r37, w ∈ lw_tbl := fun w h => (goodIn_p wsL_law0_r37 [366, 370, 1649, 1653, 981] (by decide +kernel) (by decide +kernel) w h).1
set_option maxRecDepth 20000 in
theorem m_wsL_law0_r38 : ∀ w ∈ wsL_law0_r38, w ∈ lw_tbl := fun w h => (goodIn_p wsL_law0_r38 [378, 382, 1657, 1003] (by decide +kernel) (by decide +kernel) w h).1
set_option maxRecDepth 20000 in
theorem m_wsL_law0_r39 : ∀ w ∈ wsL_law0_r39, w ∈ lw_tbl := fun w h => (goodIn_p wsL_law0_r39 [1662, 1015, 1019, 1023, 1666] (by decide +kernel) (by decide +kernel) w h).1
set_option maxRecDepth 20000 in
theorem m_wsL_law0_r40 : ∀ w ∈ wsL_law0_r40, w ∈ lw_tbl := fun w h => (goodIn_p wsL_law0_r40 [1670, 1030, 1034, 1038, 1674] (by decide +kernel) (by decide +kernel) w h).1
set_option maxRecDepth 20000 in
theorem m_wsL_law0_r41 : ∀ w ∈ wsL_law0_r41, w ∈ lw_tbl := fun w h => (goodIn_p wsL_law0_r41 [1678, 261, 304, 394, 1682] (by decide +kernel) (by decide +kernel) w h).1
set_option maxRecDepth 20000 in
theorem m_wsL_law0_r42 : ∀ w ∈ wsL_law0_r42, w ∈ lw_tbl := fun w h => (goodIn_p wsL_law0_r42 [1046, 1050, 1070, 1074] (by decide +kernel) (by decide +kernel) w h).1
set_option maxRecDepth 20000 in
theorem m_wsL_law0_r43 : ∀ w ∈ wsL_law0_r43, w ∈ lw_tbl := fun w h => (goodIn_p wsL_law0_r43 [1686, 1081, 1173, 1085, 1089, 1095] (by decide +kernel) (by decide +kernel) w h).1
set_option maxRecDepth 20000 in
theorem m_wsL_law0_r44 : ∀ w ∈ wsL_law0_r44, w ∈ lw_tbl := fun w h => (goodIn_p wsL_law0_r44 [1099, 1103, 1107, 1113] (by decide +kernel) (by decide +kernel) w h).1
set_option maxRecDepth 20000 in
theorem m_wsL_law0_r45 : ∀ w ∈ wsL_law0_r45, w ∈ lw_tbl := fun w h => (goodIn_p wsL_law0_r45 [1117, 1121, 1124, 1127, 1132, 1135] (by decide +kernel) (by decide +kernel) w h).1
set_option maxRecDepth 20000 in
theorem m_wsL_law0_r46 : ∀ w ∈ wsL_law0_r46, w ∈ lw_tbl := fun w h => (goodIn_p wsL_law0_r46 [1138, 1141, 1145, 1155, 1158, 1161, 1166] (by decide +kernel) (by decide +kernel) w h).1
set_option maxRecDepth 20000 in
theorem m_wsL_law0_r47 : ∀ w ∈ wsL_law0_r47, w ∈ lw_tbl := fun w h => (goodIn_p wsL_law0_r47 [1170, 1177, 1183, 1188, 1690] (by decide +kernel) (by decide +kernel) w h).1
set_option maxRecDepth 20000 in
theorem m_wsL_law0_r48 : ∀ w ∈ wsL_law0_r48, w ∈ lw_tbl := fun w h => (goodIn_p wsL_law0_r48 [1694, 1698, 1702, 1706, 1710] (by decide +kernel) (by decide +kernel) w h).1
set_option maxRecDepth 20000 in
theorem m_wsL_law0_r49 : ∀ w ∈ wsL_law0_r49, w ∈ lw_tbl := fun w h => (goodIn_p wsL_law0_r49 [1714, 1718, 1721, 1725, 1729, 1198] (by decide +kernel) (by decide +kernel) w h).1
set_option maxRecDepth 20000 in
theorem m_wsL_law0_r50 : ∀ w ∈ wsL_law0_r50, w ∈ lw_tbl := fun w h => (goodIn_p wsL_law0_r50 [1733, 1206, 1737, 1214] (by decide +kernel) (by decide +kernel) w h).1
set_option maxRecDepth 20000 in
theorem m_wsL_law0_r51 : ∀ w ∈ wsL_law0_r51, w ∈ lw_tbl := fun w h => (goodIn_p wsL_law0_r51 [1218, 1222, 1226, 1233, 1741] (by decide +kernel) (by decide +kernel) w h).1
set_option maxRecDepth 20000 in
theorem m_wsL_law0_r52 : ∀ w ∈ wsL_law0_r52, w ∈ lw_tbl := fun w h => (goodIn_p wsL_law0_r52 [1745, 1240, 1749, 1753, 1249] (by decide +kernel) (by decide +kernel) w h).1
set_option maxRecDepth 20000 in
theorem m_wsL_law0_r53 : ∀ w ∈ wsL_law0_r53, w ∈ lw_tbl := fun w h => (goodIn_p wsL_law0_r53 [1254, 1757, 1261, 1265, 1269] (by decide +kernel) (by decide +kernel) w h).1
set_option maxRecDepth 20000 in
theorem m_wsL_law0_r54 : ∀ w ∈ wsL_law0_r54, w ∈ lw_tbl := fun w h => (goodIn_p wsL_law0_r54 [1273, 1277, 1281, 1285, 1289, 1293] (by decide +kernel) (by decide +kernel) w h).1
set_option maxRecDepth 20000 in
theorem m_wsL_law0_r55 : ∀ w ∈ wsL_law0_r55, w ∈ lw_tbl := fun w h => (goodIn_p wsL_law0_r55 [1297, 1301, 1305, 1761, 1765, 1769] (by decide +kernel) (by decide +kernel) w h).1
set_option maxRecDepth 20000 in
theorem m_wsL_law0_r56 : ∀ w ∈ wsL_law0_r56, w ∈ lw_tbl := fun w h => (goodIn_p wsL_law0_r56 [1773, 1313, 1777, 1321] (by decide +kernel) (by decide +kernel) w h).1
set_option maxRecDepth 20000 in
theorem m_wsL_law0_r57 : ∀ w ∈ wsL_law0_r57, w ∈ lw_tbl := fun w h => (goodIn_p wsL_law0_r57 [1781, 1328, 1333, 1785, 400, 1789] (by decide +kernel) (by decide +kernel) w h).1
set_option maxRecDepth 20000 in
theorem m_wsL_law0_r58 : ∀ w ∈ wsL_law0_r58, w ∈ lw_tbl := fun w h => (goodIn_p wsL_law0_r58 [1340, 1345, 1793] (by decide +kernel) (by decide +kernel) w h).1
set_option maxRecDepth 20000 in
theorem wsL_law_in0 : ∀ w ∈ wsL_law0, w ∈ lw_tbl := fun w h => (List.mem_append.mp h).elim (fun h => m_wsL_law0_r1 w h) (fun h => (List.mem_append.mp h).elim (fun h => m_wsL_law0_r2 w h) (fun h => (List.mem_append.mp h).elim (fun h => m_wsL_law0_r3 w h) (fun h => (List.mem_append.mp h).elim (fun h => m_wsL_law0_r4 w h) (fun h => (List.mem_append.mp h).elim (fun h => m_wsL_law0_r5 w h) (fun h => (List.mem_append.mp h).elim (fun h => m_wsL_law0_r6 w h) (fun h => (List.mem_append.mp h).elim (fun h => m_wsL_law0_r7 w h) (fun h => (List.mem_append.mp h).elim (fun h => m_wsL_law0_r8 w h) (fun h => (List.mem_append.mp h).elim (fun h => m_wsL_law0_r9 w h) (fun h => (List.mem_append.mp h).elim (fun h => m_wsL_law0_r10 w h) (fun h => (List.mem_append.mp h).elim (fun h => m_wsL_law0_r11 w h) (fun h => (List.mem_append.mp h).elim (fun h => m_wsL_law0_r12 w h) (fun h => (List.mem_append.mp h).elim (fun h => m_wsL_law0_r13 w h) (fun h => (List.mem_append.mp h).elim (fun h => m_wsL_law0_r14 w h) (fun h => (List.mem_append.mp h).elim (fun h => m_wsL_law0_r15 w h) (fun h => (List.mem_append.mp h).elim (fun h => m_wsL_law0_r16 w h) (fun h => (List.mem_append.mp h).elim (fun h => m_wsL_law0_r17 w h) (fun h => (List.mem_append.mp h).elim (fun h => m_wsL_law0_r18 w h) (fun h => (List.mem_append.mp h).elim (fun h => m_wsL_law0_r19 w h) (fun h => (List.mem_append.mp h).elim (fun h => m_wsL_law0_r20 w h) (fun h => (List.mem_append.mp h).elim (fun h => m_wsL_law0_r21 w h) (fun h => (List.mem_append.mp h).elim (fun h => m_wsL_law0_r22 w h) (fun h => (List.mem_append.mp h).elim (fun h => m_wsL_law0_r23 w h) (fun h => (List.mem_append.mp h).elim (fun h => m_wsL_law0_r24 w h) (fun h => (List.mem_append.mp h).elim (fun h => m_wsL_law0_r25 w h) (fun h => (List.mem_append.mp h).elim (fun h => m_wsL_law0_r26 w h) (fun h => (List.mem_append.mp h).elim (fun h => m_wsL_law0_r27 w h) (fun h => (List.mem_append.mp h).elim (fun h => m_wsL_law0_r28 w h) (fun h => (List.mem_append.mp h).elim (fun h => m_wsL_law0_r29 w h) (fun h => (List.mem_append.mp h).elim (fun h => m_wsL_law0_r30 w h) (fun h => (List.mem_append.mp h).elim (fun h => m_wsL_law0_r31 w h) (fun h => (List.mem_append.mp h).elim (fun h => m_wsL_law0_r32 w h) (fun h => (List.mem_append.mp h).elim (fun h => m_wsL_law0_r33 w h) (fun h => (List.mem_append.mp h).elim (fun h => m_wsL_law0_r34 w h) (fun h => (List.mem_append.mp h).elim (fun h => m_wsL_law0_r35 w h) (fun h => (List.mem_append.mp h).elim (fun h => m_wsL_law0_r36 w h) (fun h => (List.mem_append.mp h).elim (fun h => m_wsL_law0_r37 w h) (fun h => (List.mem_append.mp h).elim (fun h => m_wsL_law0_r38 w h) (fun h => (List.mem_append.mp h).elim (fun h => m_wsL_law0_r39 w h) (fun h => (List.mem_append.mp h).elim (fun h => m_wsL_law0_r40 w h) (fun h => (List.mem_append.mp h).elim (fun h => m_wsL_law0_r41 w h) (fun h => (List.mem_append.mp h).elim (fun h => m_wsL_law0_r42 w h) (fun h => (List.mem_append.mp h).elim (fun h => m_wsL_law0_r43 w h) (fun h => (List.mem_append.mp h).elim (fun h => m_wsL_law0_r44 w h) (fun h => (List.mem_append.mp h).elim (fun h => m_wsL_law0_r45 w h) (fun h => (List.mem_append.mp h).elim (fun h => m_wsL_law0_r46 w h) (fun h => (List.mem_append.mp h).elim (fun h => m_wsL_law0_r47 w h) (fun h => (List.mem_append.mp h).elim (fun h => m_wsL_law0_r48 w h) (fun h => (List.mem_append.mp h).elim (fun h => m_wsL_law0_r49 w h) (fun h => (List.mem_append.mp h).elim (fun h => m_wsL_law0_r50 w h) (fun h => (List.mem_append.mp h).elim (fun h => m_wsL_law0_r51 w h) (fun h => (List.mem_append.mp h).elim (fun h => m_wsL_law0_r52 w h) (fun h => (List.mem_append.mp h).elim (fun h => m_wsL_law0_r53 w h) (fun h => (List.mem_append.mp h).elim (fun h => m_wsL_law0_r54 w h) (fun h => (List.mem_append.mp h).elim (fun h => m_wsL_law0_r55 w h) (fun h => (List.mem_append.mp h).elim (fun h => m_wsL_law0_r56 w h) (fun h => (List.mem_append.mp h).elim (fun h => m_wsL_law0_r57 w h) (fun h => m_wsL_law0_r58 w h)))))))))))))))))))))))))))))))))))))))))))))))))))))))))
theorem wsL_law_x0 : ∀ w ∈ (vx_atM "java/lang/ArrayIndexOutOfBoundsException" ["java/lang/IndexOutOfBoundsException", "java/lang/RuntimeException", "java/lang/Exception"]).filter goodWord, w ∈ lw_tbl := by decide +kernel
theorem wsL_law_x1 : ∀ w ∈ (vx_atS RX8 114 "java/lang/IndexOutOfBoundsException" ["java/lang/RuntimeException", "java/lang/Exception"]).filter goodWord, w ∈ lw_tbl := by decide +kernel
theorem wsL_law_x2 : ∀ w ∈ (vx_atS RX8 143 "java/lang/IllegalArgumentException" ["java/lang/RuntimeException", "java/lang/Exception"]).filter goodWord, w ∈ lw_tbl := by decide +kernel
theorem wsL_law_x3 : ∀ w ∈ (vx_atS RX8 319 "java/lang/UnsupportedOperationException" ["java/lang/RuntimeException", "java/lang/Exception"]).filter goodWord, w ∈ lw_tbl := by decide +kernel
theorem wsL_law_x4 : ∀ w ∈ (nse_at RX8 180).filter goodWord, w ∈ lw_tbl := by decide +kernel
theorem wsL_law_x5 : ∀ w ∈ (vx_atS RX8 240 "java/lang/ArithmeticException" ["java/lang/RuntimeException", "java/lang/Exception"]).filter goodWord, w ∈ lw_tbl := by decide +kernel
theorem wsL_law_x6 : ∀ w ∈ (vx_atS RX8 265 "java/lang/IllegalStateException" ["java/lang/RuntimeException", "java/lang/Exception"]).filter goodWord, w ∈ lw_tbl := by decide +kernel
theorem wsL_law_in : ∀ w ∈ wsL_law, w ∈ lw_tbl := fun w h => (List.mem_append.mp h).elim (fun h => (List.mem_append.mp h).elim (fun h => (List.mem_append.mp h).elim (fun h => (List.mem_append.mp h).elim (fun h => (List.mem_append.mp h).elim (fun h => (List.mem_append.mp h).elim (fun h => (List.mem_append.mp h).elim (fun h => wsL_law_in0 w h) (fun h => wsL_law_x0 w h)) (fun h => wsL_law_x1 w h)) (fun h => wsL_law_x2 w h)) (fun h => wsL_law_x3 w h)) (fun h => wsL_law_x4 w h)) (fun h => wsL_law_x5 w h)) (fun h => wsL_law_x6 w h)
theorem inX0 : ∀ w ∈ wsX00, w ∈ lw_tbl := by decide +kernel
theorem inX1 : ∀ w ∈ wsX10, w ∈ lw_tbl := by decide +kernel
theorem inlX2 : ∀ w ∈ wsX20, w ∈ wsL_law := fun _ h => List.mem_append_left _ (List.mem_append_left _ (List.mem_append_left _ (List.mem_append_left _ (List.mem_append_left _ (List.mem_append_left _ (List.mem_append_left _ (List.mem_append_left _ (List.mem_append_left _ (List.mem_append_left _ (List.mem_append_left _ (List.mem_append_left _ (List.mem_append_left _ (List.mem_append_right _ h)))))))))))))
theorem inX2 : ∀ w ∈ wsX20, w ∈ lw_tbl := fun w h => wsL_law_in w (inlX2 w h)
theorem inlX3 : ∀ w ∈ wsX30, w ∈ wsL_law := fun _ h => List.mem_append_left _ (List.mem_append_left _ (List.mem_append_left _ (List.mem_append_left _ (List.mem_append_left _ (List.mem_append_left _ (List.mem_append_left _ (List.mem_append_left _ (List.mem_append_left _ (List.mem_append_left _ (List.mem_append_left _ (List.mem_append_right _ h)))))))))))
theorem inX3 : ∀ w ∈ wsX30, w ∈ lw_tbl := fun w h => wsL_law_in w (inlX3 w h)
theorem inlX4 : ∀ w ∈ wsX40, w ∈ wsL_law := fun _ h => List.mem_append_left _ (List.mem_append_left _ (List.mem_append_left _ (List.mem_append_left _ (List.mem_append_left _ (List.mem_append_left _ (List.mem_append_left _ (List.mem_append_left _ (List.mem_append_left _ (List.mem_append_right _ h)))))))))
theorem inX4 : ∀ w ∈ wsX40, w ∈ lw_tbl := fun w h => wsL_law_in w (inlX4 w h)
theorem inlX5 : ∀ w ∈ wsX50, w ∈ wsL_law := fun _ h => List.mem_append_left _ (List.mem_append_left _ (List.mem_append_left _ (List.mem_append_left _ (List.mem_append_left _ (List.mem_append_left _ (List.mem_append_left _ (List.mem_append_left _ (List.mem_append_left _ (List.mem_append_left _ (List.mem_append_left _ (List.mem_append_left _ (List.mem_append_left _ (List.mem_append_left _ (List.mem_append_right _ h))))))))))))))
theorem inX5 : ∀ w ∈ wsX50, w ∈ lw_tbl := fun w h => wsL_law_in w (inlX5 w h)
theorem inlX6 : ∀ w ∈ wsX60, w ∈ wsL_law := fun _ h => List.mem_append_left _ (List.mem_append_left _ (List.mem_append_left _ (List.mem_append_left _ (List.mem_append_left _ (List.mem_append_left _ (List.mem_append_left _ (List.mem_append_left _ (List.mem_append_left _ (List.mem_append_left _ (List.mem_append_right _ h))))))))))
theorem inX6 : ∀ w ∈ wsX60, w ∈ lw_tbl := fun w h => wsL_law_in w (inlX6 w h)
theorem inlX7 : ∀ w ∈ wsX70, w ∈ wsL_law := fun _ h => List.mem_append_left _ (List.mem_append_left _ (List.mem_append_left _ (List.mem_append_left _ (List.mem_append_left _ (List.mem_append_left _ (List.mem_append_left _ (List.mem_append_left _ (List.mem_append_left _ (List.mem_append_left _ (List.mem_append_left _ (List.mem_append_left _ (List.mem_append_right _ h))))))))))))
theorem inX7 : ∀ w ∈ wsX70, w ∈ lw_tbl := fun w h => wsL_law_in w (inlX7 w h)
theorem inlX8 : ∀ w ∈ wsX80, w ∈ wsL_law := fun _ h => List.mem_append_left _ (List.mem_append_left _ (List.mem_append_left _ (List.mem_append_left _ (List.mem_append_left _ (List.mem_append_left _ (List.mem_append_left _ (List.mem_append_left _ (List.mem_append_left _ (List.mem_append_left _ (List.mem_append_left _ (List.mem_append_left _ (List.mem_append_left _ (List.mem_append_left _ (List.mem_append_left _ (List.mem_append_left _ (List.mem_append_right _ h))))))))))))))))
theorem inX8 : ∀ w ∈ wsX80, w ∈ lw_tbl := fun w h => wsL_law_in w (inlX8 w h)
theorem inlX9 : ∀ w ∈ wsX90, w ∈ wsL_law := fun _ h => List.mem_append_left _ (List.mem_append_left _ (List.mem_append_left _ (List.mem_append_left _ (List.mem_append_left _ (List.mem_append_left _ (List.mem_append_left _ (List.mem_append_left _ (List.mem_append_left _ (List.mem_append_left _ (List.mem_append_left _ (List.mem_append_left _ (List.mem_append_left _ (List.mem_append_left _ (List.mem_append_left _ (List.mem_append_right _ h)))))))))))))))
theorem inX9 : ∀ w ∈ wsX90, w ∈ lw_tbl := fun w h => wsL_law_in w (inlX9 w h)
theorem inJx145de : ∀ w ∈ wsJx145de0, w ∈ lw_tbl := by decide +kernel
theorem inJx00060 : ∀ w ∈ wsJx000600, w ∈ lw_tbl := by decide +kernel
theorem inJx9f9b0 : ∀ w ∈ wsJx9f9b00, w ∈ lw_tbl := by decide +kernel
theorem inJxb160c : ∀ w ∈ wsJxb160c0, w ∈ lw_tbl := by decide +kernel
theorem inJx29ce0 : ∀ w ∈ wsJx29ce00, w ∈ lw_tbl := by decide +kernel
theorem inJ6 : ∀ w ∈ wsJ60, w ∈ lw_tbl := by decide +kernel
theorem inJ9 : ∀ w ∈ wsJ90, w ∈ lw_tbl := by decide +kernel
theorem inlJ0 : ∀ w ∈ wsJ00, w ∈ wsL_law := fun _ h => List.mem_append_left _ (List.mem_append_left _ (List.mem_append_left _ (List.mem_append_left _ (List.mem_append_left _ (List.mem_append_left _ (List.mem_append_left _ (List.mem_append_left _ (List.mem_append_right _ h))))))))
theorem inJ0 : ∀ w ∈ wsJ00, w ∈ lw_tbl := fun w h => wsL_law_in w (inlJ0 w h)
theorem inJ1 : ∀ w ∈ wsJ10, w ∈ lw_tbl := by decide +kernel
theorem inJ2 : ∀ w ∈ wsJ20, w ∈ lw_tbl := by decide +kernel
theorem inJ10 : ∀ w ∈ wsJ100, w ∈ lw_tbl := by decide +kernel
theorem inJxfd54e : ∀ w ∈ wsJxfd54e0, w ∈ lw_tbl := by decide +kernel
theorem inJx3cf43 : ∀ w ∈ wsJx3cf430, w ∈ lw_tbl := by decide +kernel
theorem inJ3 : ∀ w ∈ wsJ30, w ∈ lw_tbl := by decide +kernel
