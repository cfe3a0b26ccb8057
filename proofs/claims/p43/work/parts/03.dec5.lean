theorem dX8_account_124 : decode cX8_account 124 = .ok (.ireturn, 1) := by decide +kernel
theorem dX8_account_125 : decode cX8_account 125 = .ok (.aload_n 0, 1) := by decide +kernel
theorem dX8_account_126 : decode cX8_account 126 = .ok (.getfield 20, 3) := by decide +kernel
theorem dX8_account_129 : decode cX8_account 129 = .ok (.invokevirtual 373, 3) := by decide +kernel
theorem dX8_account_132 : decode cX8_account 132 = .ok (.ireturn, 1) := by decide +kernel
theorem dX8_account_133 : decode cX8_account 133 = .ok (.aload_n 0, 1) := by decide +kernel
theorem dX8_account_134 : decode cX8_account 134 = .ok (.getfield 20, 3) := by decide +kernel
theorem dX8_account_137 : decode cX8_account 137 = .ok (.invokevirtual 376, 3) := by decide +kernel
theorem dX8_account_140 : decode cX8_account 140 = .ok (.ireturn, 1) := by decide +kernel
theorem dX8_account_141 : decode cX8_account 141 = .ok (.aload_n 0, 1) := by decide +kernel
theorem dX8_account_142 : decode cX8_account 142 = .ok (.getfield 38, 3) := by decide +kernel
theorem dX8_account_145 : decode cX8_account 145 = .ok (.invokevirtual 270, 3) := by decide +kernel
theorem dX8_account_148 : decode cX8_account 148 = .ok (.ireturn, 1) := by decide +kernel
theorem dX8_account_149 : decode cX8_account 149 = .ok (.aload_n 0, 1) := by decide +kernel
theorem dX8_account_150 : decode cX8_account 150 = .ok (.getfield 31, 3) := by decide +kernel
theorem dX8_account_153 : decode cX8_account 153 = .ok (.invokevirtual 379, 3) := by decide +kernel
theorem dX8_account_156 : decode cX8_account 156 = .ok (.ireturn, 1) := by decide +kernel
theorem dX8_account_157 : decode cX8_account 157 = .ok (.new 139, 3) := by decide +kernel
theorem dX8_account_160 : decode cX8_account 160 = .ok (.dup, 1) := by decide +kernel
theorem dX8_account_161 : decode cX8_account 161 = .ok (.ldc_w 380, 3) := by decide +kernel
theorem dX8_account_164 : decode cX8_account 164 = .ok (.invokespecial 143, 3) := by decide +kernel
theorem dX8_account_167 : decode cX8_account 167 = .ok (.athrow, 1) := by decide +kernel
set_option maxRecDepth 20000 in
theorem ggX8_undo_X2_size : GoodIn wsX8_undo wsX2_size := goodIn_r _ [10, 11, 40, 41] (by decide +kernel) (by decide +kernel)
set_option maxRecDepth 20000 in
theorem gX8_undo_X2_size : GoodIn wsX8_undo (wsV RX8 379 RX2 yX2_size wsX2_size) := goodIn_app (goodIn_of _ (by decide +kernel)) ggX8_undo_X2_size
set_option maxRecDepth 20000 in
theorem ggX8_undo_X2_pop : GoodIn wsX8_undo wsX2_pop := goodIn_r _ [15, 11, 16, 17, 18, 19, 20, 40, 41] (by decide +kernel) (by decide +kernel)
set_option maxRecDepth 20000 in
theorem gX8_undo_X2_pop : GoodIn wsX8_undo (wsV RX8 386 RX2 yX2_pop wsX2_pop) := goodIn_app (goodIn_of _ (by decide +kernel)) ggX8_undo_X2_pop
set_option maxRecDepth 20000 in
theorem ggX8_undo_X6_copyFrom : GoodIn wsX8_undo wsX6_copyFrom := goodIn_r _ [25, 26, 27, 18, 19, 20, 42] (by decide +kernel) (by decide +kernel)
set_option maxRecDepth 20000 in
theorem gX8_undo_X6_copyFrom : GoodIn wsX8_undo (wsV RX8 300 RX6 yX6_copyFrom wsX6_copyFrom) := goodIn_app (goodIn_of _ (by decide +kernel)) ggX8_undo_X6_copyFrom
theorem dX8_undo_0 : decode cX8_undo 0 = .ok (.aload_n 0, 1) := by decide +kernel
theorem dX8_undo_1 : decode cX8_undo 1 = .ok (.getfield 31, 3) := by decide +kernel
theorem dX8_undo_4 : decode cX8_undo 4 = .ok (.invokevirtual 379, 3) := by decide +kernel
theorem dX8_undo_7 : decode cX8_undo 7 = .ok (.ifCond .ne 14, 3) := by decide +kernel
theorem dX8_undo_10 : decode cX8_undo 10 = .ok (.new 261, 3) := by decide +kernel
theorem dX8_undo_13 : decode cX8_undo 13 = .ok (.dup, 1) := by decide +kernel
theorem dX8_undo_14 : decode cX8_undo 14 = .ok (.ldc_w 384, 3) := by decide +kernel
theorem dX8_undo_17 : decode cX8_undo 17 = .ok (.invokespecial 265, 3) := by decide +kernel
theorem dX8_undo_20 : decode cX8_undo 20 = .ok (.athrow, 1) := by decide +kernel
theorem dX8_undo_21 : decode cX8_undo 21 = .ok (.aload_n 0, 1) := by decide +kernel
theorem dX8_undo_22 : decode cX8_undo 22 = .ok (.getfield 31, 3) := by decide +kernel
theorem dX8_undo_25 : decode cX8_undo 25 = .ok (.aload_n 0, 1) := by decide +kernel
theorem dX8_undo_26 : decode cX8_undo 26 = .ok (.getfield 51, 3) := by decide +kernel
theorem dX8_undo_29 : decode cX8_undo 29 = .ok (.invokevirtual 386, 3) := by decide +kernel
theorem dX8_undo_32 : decode cX8_undo 32 = .ok (.aload_n 0, 1) := by decide +kernel
theorem dX8_undo_33 : decode cX8_undo 33 = .ok (.getfield 20, 3) := by decide +kernel
theorem dX8_undo_36 : decode cX8_undo 36 = .ok (.aload_n 0, 1) := by decide +kernel
theorem dX8_undo_37 : decode cX8_undo 37 = .ok (.getfield 51, 3) := by decide +kernel
theorem dX8_undo_40 : decode cX8_undo 40 = .ok (.invokevirtual 300, 3) := by decide +kernel
theorem dX8_undo_43 : decode cX8_undo 43 = .ok (.aload_n 0, 1) := by decide +kernel
theorem dX8_undo_44 : decode cX8_undo 44 = .ok (.getfield 31, 3) := by decide +kernel
theorem dX8_undo_47 : decode cX8_undo 47 = .ok (.invokevirtual 379, 3) := by decide +kernel
theorem dX8_undo_50 : decode cX8_undo 50 = .ok (.ireturn, 1) := by decide +kernel
set_option maxRecDepth 20000 in
theorem ggX8_save_X6_copyTo : GoodIn wsX8_save wsX6_copyTo := goodIn_r _ [8, 9, 10, 11, 12, 13, 30] (by decide +kernel) (by decide +kernel)
set_option maxRecDepth 20000 in
theorem gX8_save_X6_copyTo : GoodIn wsX8_save (wsV RX8 281 RX6 yX6_copyTo wsX6_copyTo) := goodIn_app (goodIn_of _ (by decide +kernel)) ggX8_save_X6_copyTo
set_option maxRecDepth 20000 in
theorem ggX8_save_X6_napkins : GoodIn wsX8_save wsX6_napkins := goodIn_ca (goodIn_r _ [17, 9, 30] (by decide +kernel) (by decide +kernel)) (goodIn_sub (fun _ h => List.mem_cons_of_mem _ (List.mem_append_right _ h)) (by decide +kernel))
set_option maxRecDepth 20000 in
theorem gX8_save_X6_napkins : GoodIn wsX8_save (wsV RX8 246 RX6 yX6_napkins wsX6_napkins) := goodIn_app (goodIn_of _ (by decide +kernel)) ggX8_save_X6_napkins
theorem dX8_save_0 : decode cX8_save 0 = .ok (.aload_n 0, 1) := by decide +kernel
theorem dX8_save_1 : decode cX8_save 1 = .ok (.getfield 20, 3) := by decide +kernel
theorem dX8_save_4 : decode cX8_save 4 = .ok (.aload_n 0, 1) := by decide +kernel
theorem dX8_save_5 : decode cX8_save 5 = .ok (.getfield 55, 3) := by decide +kernel
theorem dX8_save_8 : decode cX8_save 8 = .ok (.invokevirtual 281, 3) := by decide +kernel
theorem dX8_save_11 : decode cX8_save 11 = .ok (.aload_n 0, 1) := by decide +kernel
theorem dX8_save_12 : decode cX8_save 12 = .ok (.iconst 1, 1) := by decide +kernel
theorem dX8_save_13 : decode cX8_save 13 = .ok (.putfield 58, 3) := by decide +kernel
theorem dX8_save_16 : decode cX8_save 16 = .ok (.aload_n 0, 1) := by decide +kernel
theorem dX8_save_17 : decode cX8_save 17 = .ok (.getfield 20, 3) := by decide +kernel
theorem dX8_save_20 : decode cX8_save 20 = .ok (.invokevirtual 246, 3) := by decide +kernel
theorem dX8_save_23 : decode cX8_save 23 = .ok (.ireturn, 1) := by decide +kernel
set_option maxRecDepth 20000 in
theorem ggX8_restore_X6_copyFrom : GoodIn wsX8_restore wsX6_copyFrom := goodIn_r _ [11, 12, 13, 14, 15, 16, 39] (by decide +kernel) (by decide +kernel)
set_option maxRecDepth 20000 in
theorem gX8_restore_X6_copyFrom : GoodIn wsX8_restore (wsV RX8 300 RX6 yX6_copyFrom wsX6_copyFrom) := goodIn_app (goodIn_of _ (by decide +kernel)) ggX8_restore_X6_copyFrom
set_option maxRecDepth 20000 in
theorem ggX8_restore_X2_empty : GoodIn wsX8_restore wsX2_empty := goodIn_r _ [21, 22, 40, 41] (by decide +kernel) (by decide +kernel)
set_option maxRecDepth 20000 in
theorem gX8_restore_X2_empty : GoodIn wsX8_restore (wsV RX8 391 RX2 yX2_empty wsX2_empty) := goodIn_app (goodIn_of _ (by decide +kernel)) ggX8_restore_X2_empty
set_option maxRecDepth 20000 in
theorem ggX8_restore_X6_napkins : GoodIn wsX8_restore wsX6_napkins := goodIn_ca (goodIn_r _ [26, 12, 39] (by decide +kernel) (by decide +kernel)) (goodIn_sub (fun _ h => List.mem_cons_of_mem _ (List.mem_append_right _ h)) (by decide +kernel))
set_option maxRecDepth 20000 in
theorem gX8_restore_X6_napkins : GoodIn wsX8_restore (wsV RX8 246 RX6 yX6_napkins wsX6_napkins) := goodIn_app (goodIn_of _ (by decide +kernel)) ggX8_restore_X6_napkins
theorem dX8_restore_0 : decode cX8_restore 0 = .ok (.aload_n 0, 1) := by decide +kernel
theorem dX8_restore_1 : decode cX8_restore 1 = .ok (.getfield 58, 3) := by decide +kernel
theorem dX8_restore_4 : decode cX8_restore 4 = .ok (.ifCond .ne 14, 3) := by decide +kernel
theorem dX8_restore_7 : decode cX8_restore 7 = .ok (.new 261, 3) := by decide +kernel
theorem dX8_restore_10 : decode cX8_restore 10 = .ok (.dup, 1) := by decide +kernel
theorem dX8_restore_11 : decode cX8_restore 11 = .ok (.ldc_w 389, 3) := by decide +kernel
theorem dX8_restore_14 : decode cX8_restore 14 = .ok (.invokespecial 265, 3) := by decide +kernel
theorem dX8_restore_17 : decode cX8_restore 17 = .ok (.athrow, 1) := by decide +kernel
theorem dX8_restore_18 : decode cX8_restore 18 = .ok (.aload_n 0, 1) := by decide +kernel
theorem dX8_restore_19 : decode cX8_restore 19 = .ok (.getfield 20, 3) := by decide +kernel
theorem dX8_restore_22 : decode cX8_restore 22 = .ok (.aload_n 0, 1) := by decide +kernel
theorem dX8_restore_23 : decode cX8_restore 23 = .ok (.getfield 55, 3) := by decide +kernel
theorem dX8_restore_26 : decode cX8_restore 26 = .ok (.invokevirtual 300, 3) := by decide +kernel
theorem dX8_restore_29 : decode cX8_restore 29 = .ok (.aload_n 0, 1) := by decide +kernel
theorem dX8_restore_30 : decode cX8_restore 30 = .ok (.getfield 31, 3) := by decide +kernel
theorem dX8_restore_33 : decode cX8_restore 33 = .ok (.invokevirtual 391, 3) := by decide +kernel
theorem dX8_restore_36 : decode cX8_restore 36 = .ok (.aload_n 0, 1) := by decide +kernel
theorem dX8_restore_37 : decode cX8_restore 37 = .ok (.getfield 20, 3) := by decide +kernel
theorem dX8_restore_40 : decode cX8_restore 40 = .ok (.invokevirtual 246, 3) := by decide +kernel
theorem dX8_restore_43 : decode cX8_restore 43 = .ok (.ireturn, 1) := by decide +kernel
set_option maxRecDepth 20000 in
theorem ggX8_change_X5_judge : GoodIn wsX8_change wsX5_judge := goodIn_ca (goodIn_r _ [15, 16, 17, 18, 19, 20, 21, 22, 23, 24, 25, 26, 14, 27, 28, 29, 30, 31, 32, 33, 34, 35, 36, 37, 38, 39, 40, 41, 42, 43, 44, 45, 46, 47, 48, 49, 50, 51, 52, 53, 54, 55, 56, 57, 58, 59, 60, 61, 62, 63, 64, 65, 66, 67, 68, 69, 70, 71, 72, 73, 74, 75, 76, 77, 78, 79, 80, 81, 82, 83, 84, 85, 86, 87, 88, 89, 90, 91, 92, 93, 94, 95, 96, 97, 98, 99, 100, 101, 102, 103, 104, 105, 106, 107, 108, 109, 110, 111, 112, 113, 114, 115, 116, 117, 118, 119, 120, 121, 122, 123, 124, 125, 126, 127, 128, 129, 130, 131, 132, 133, 134, 135, 136, 137, 138, 139, 140, 141, 142, 143, 144, 287, 288, 289, 290, 291, 292, 293, 294, 295, 296] (by decide +kernel) (by decide +kernel)) (goodIn_sub (fun _ h => List.mem_cons_of_mem _ (List.mem_append_right _ h)) (by decide +kernel))
set_option maxRecDepth 20000 in
theorem gX8_change_X5_judge : GoodIn wsX8_change (wsV RX8 293 RX5 yX5_judge wsX5_judge) := goodIn_app (goodIn_of _ (by decide +kernel)) ggX8_change_X5_judge
set_option maxRecDepth 20000 in
theorem ggX8_change_X8_refuse : GoodIn wsX8_change wsX8_refuse := goodIn_r _ [148, 149, 150, 275, 276, 277, 278, 279, 280, 281, 282, 283, 284, 285, 286] (by decide +kernel) (by decide +kernel)
set_option maxRecDepth 20000 in
theorem gX8_change_X8_refuse : GoodIn wsX8_change (wsV RX8 311 RX8 yX8_refuse wsX8_refuse) := goodIn_app (goodIn_of _ (by decide +kernel)) ggX8_change_X8_refuse
set_option maxRecDepth 20000 in
theorem ggX8_change_X6_copyTo : GoodIn wsX8_change wsX6_copyTo := goodIn_r _ [154, 34, 155, 156, 157, 158, 289] (by decide +kernel) (by decide +kernel)
set_option maxRecDepth 20000 in
theorem gX8_change_X6_copyTo : GoodIn wsX8_change (wsV RX8 281 RX6 yX6_copyTo wsX6_copyTo) := goodIn_app (goodIn_of _ (by decide +kernel)) ggX8_change_X6_copyTo
set_option maxRecDepth 20000 in
theorem ggX8_change_X2_push : GoodIn wsX8_change wsX2_push := goodIn_r _ [163, 164, 165, 166, 156, 157, 158, 297, 298] (by decide +kernel) (by decide +kernel)
set_option maxRecDepth 20000 in
theorem gX8_change_X2_push : GoodIn wsX8_change (wsV RX8 320 RX2 yX2_push wsX2_push) := goodIn_app (goodIn_of _ (by decide +kernel)) ggX8_change_X2_push
set_option maxRecDepth 20000 in
theorem ggX8_change_X5_carryOut : GoodIn wsX8_change wsX5_carryOut := goodIn_ca (goodIn_r _ [170, 16, 28, 17, 18, 19, 20, 21, 22, 23, 171, 172, 173, 32, 174, 34, 175, 30, 31, 33, 176, 177, 178, 179, 58, 59, 14, 60, 180, 181, 182, 183, 184, 55, 56, 57, 50, 51, 52, 53, 185, 186, 187, 188, 189, 190, 191, 192, 193, 47, 48, 49, 194, 195, 196, 197, 99, 80, 81, 82, 83, 84, 85, 86, 198, 199, 200, 201, 202, 129, 130, 131, 132, 133, 134, 203, 204, 205, 206, 207, 208, 209, 210, 211, 212, 213, 214, 215, 216, 217, 218, 75, 76, 77, 78, 219, 72, 73, 74, 220, 221, 222, 223, 224, 225, 226, 227, 228, 229, 230, 231, 232, 105, 106, 107, 233, 234, 235, 236, 237, 238, 239, 240, 116, 117, 118, 119, 120, 121, 122, 123, 124, 125, 126, 127, 128, 135, 136, 137, 138, 139, 140, 241, 242, 243, 244, 245, 246, 247, 248, 249, 250, 251, 252, 253, 254, 255, 256, 257, 258, 259, 260, 261, 262, 263, 264, 265, 266, 267, 268, 269, 270, 271, 272, 273, 274, 287, 288, 289, 290, 291, 292, 293, 294, 295, 296] (by decide +kernel) (by decide +kernel)) (goodIn_sub (fun _ h => List.mem_cons_of_mem _ (List.mem_append_right _ h)) (by decide +kernel))
set_option maxRecDepth 20000 in
theorem gX8_change_X5_carryOut : GoodIn wsX8_change (wsV RX8 296 RX5 yX5_carryOut wsX5_carryOut) := goodIn_app (goodIn_of _ (by decide +kernel)) ggX8_change_X5_carryOut
theorem dX8_change_0 : decode cX8_change 0 = .ok (.aload_n 0, 1) := by decide +kernel
theorem dX8_change_1 : decode cX8_change 1 = .ok (.getfield 10, 3) := by decide +kernel
theorem dX8_change_4 : decode cX8_change 4 = .ok (.aload_n 1, 1) := by decide +kernel
theorem dX8_change_5 : decode cX8_change 5 = .ok (.iload_n 2, 1) := by decide +kernel
theorem dX8_change_6 : decode cX8_change 6 = .ok (.iload_n 3, 1) := by decide +kernel
theorem dX8_change_7 : decode cX8_change 7 = .ok (.iload 4, 2) := by decide +kernel
theorem dX8_change_9 : decode cX8_change 9 = .ok (.invokevirtual 293, 3) := by decide +kernel
theorem dX8_change_12 : decode cX8_change 12 = .ok (.istore 5, 2) := by decide +kernel
theorem dX8_change_14 : decode cX8_change 14 = .ok (.iload 5, 2) := by decide +kernel
theorem dX8_change_16 : decode cX8_change 16 = .ok (.iconst (-1), 1) := by decide +kernel
theorem dX8_change_17 : decode cX8_change 17 = .ok (.if_icmp .ne 14, 3) := by decide +kernel
theorem dX8_change_20 : decode cX8_change 20 = .ok (.new 110, 3) := by decide +kernel
theorem dX8_change_23 : decode cX8_change 23 = .ok (.dup, 1) := by decide +kernel
theorem dX8_change_24 : decode cX8_change 24 = .ok (.ldc_w 392, 3) := by decide +kernel
theorem dX8_change_27 : decode cX8_change 27 = .ok (.invokespecial 114, 3) := by decide +kernel
theorem dX8_change_30 : decode cX8_change 30 = .ok (.athrow, 1) := by decide +kernel
theorem dX8_change_31 : decode cX8_change 31 = .ok (.iload 5, 2) := by decide +kernel
theorem dX8_change_33 : decode cX8_change 33 = .ok (.bipush (-2), 2) := by decide +kernel
theorem dX8_change_35 : decode cX8_change 35 = .ok (.if_icmp .ne 14, 3) := by decide +kernel
theorem dX8_change_38 : decode cX8_change 38 = .ok (.new 139, 3) := by decide +kernel
theorem dX8_change_41 : decode cX8_change 41 = .ok (.dup, 1) := by decide +kernel
theorem dX8_change_42 : decode cX8_change 42 = .ok (.ldc_w 394, 3) := by decide +kernel
theorem dX8_change_45 : decode cX8_change 45 = .ok (.invokespecial 143, 3) := by decide +kernel
theorem dX8_change_48 : decode cX8_change 48 = .ok (.athrow, 1) := by decide +kernel
theorem dX8_change_49 : decode cX8_change 49 = .ok (.iload 5, 2) := by decide +kernel
theorem dX8_change_51 : decode cX8_change 51 = .ok (.ifCond .eq 21, 3) := by decide +kernel
theorem dX8_change_54 : decode cX8_change 54 = .ok (.aload_n 0, 1) := by decide +kernel
theorem dX8_change_55 : decode cX8_change 55 = .ok (.iload 5, 2) := by decide +kernel
theorem dX8_change_57 : decode cX8_change 57 = .ok (.iconst 0, 1) := by decide +kernel
theorem dX8_change_58 : decode cX8_change 58 = .ok (.invokevirtual 311, 3) := by decide +kernel
theorem dX8_change_61 : decode cX8_change 61 = .ok (.new 315, 3) := by decide +kernel
theorem dX8_change_64 : decode cX8_change 64 = .ok (.dup, 1) := by decide +kernel
theorem dX8_change_65 : decode cX8_change 65 = .ok (.ldc_w 396, 3) := by decide +kernel
theorem dX8_change_68 : decode cX8_change 68 = .ok (.invokespecial 319, 3) := by decide +kernel
theorem dX8_change_71 : decode cX8_change 71 = .ok (.athrow, 1) := by decide +kernel
theorem dX8_change_72 : decode cX8_change 72 = .ok (.aload_n 0, 1) := by decide +kernel
theorem dX8_change_73 : decode cX8_change 73 = .ok (.getfield 20, 3) := by decide +kernel
theorem dX8_change_76 : decode cX8_change 76 = .ok (.aload_n 0, 1) := by decide +kernel
theorem dX8_change_77 : decode cX8_change 77 = .ok (.getfield 51, 3) := by decide +kernel
theorem dX8_change_80 : decode cX8_change 80 = .ok (.invokevirtual 281, 3) := by decide +kernel
theorem dX8_change_83 : decode cX8_change 83 = .ok (.aload_n 0, 1) := by decide +kernel
theorem dX8_change_84 : decode cX8_change 84 = .ok (.getfield 31, 3) := by decide +kernel
theorem dX8_change_87 : decode cX8_change 87 = .ok (.aload_n 0, 1) := by decide +kernel
theorem dX8_change_88 : decode cX8_change 88 = .ok (.getfield 51, 3) := by decide +kernel
theorem dX8_change_91 : decode cX8_change 91 = .ok (.invokevirtual 320, 3) := by decide +kernel
theorem dX8_change_94 : decode cX8_change 94 = .ok (.aload_n 0, 1) := by decide +kernel
theorem dX8_change_95 : decode cX8_change 95 = .ok (.getfield 10, 3) := by decide +kernel
theorem dX8_change_98 : decode cX8_change 98 = .ok (.aload_n 1, 1) := by decide +kernel
theorem dX8_change_99 : decode cX8_change 99 = .ok (.iload_n 2, 1) := by decide +kernel
theorem dX8_change_100 : decode cX8_change 100 = .ok (.iload_n 3, 1) := by decide +kernel
theorem dX8_change_101 : decode cX8_change 101 = .ok (.iload 4, 2) := by decide +kernel
theorem dX8_change_103 : decode cX8_change 103 = .ok (.invokevirtual 296, 3) := by decide +kernel
theorem dX8_change_106 : decode cX8_change 106 = .ok (.ireturn, 1) := by decide +kernel
theorem dX8_refuse_0 : decode cX8_refuse 0 = .ok (.aload_n 0, 1) := by decide +kernel
theorem dX8_refuse_1 : decode cX8_refuse 1 = .ok (.iload_n 1, 1) := by decide +kernel
theorem dX8_refuse_2 : decode cX8_refuse 2 = .ok (.putfield 66, 3) := by decide +kernel
theorem dX8_refuse_5 : decode cX8_refuse 5 = .ok (.aload_n 0, 1) := by decide +kernel
theorem dX8_refuse_6 : decode cX8_refuse 6 = .ok (.iload_n 2, 1) := by decide +kernel
theorem dX8_refuse_7 : decode cX8_refuse 7 = .ok (.putfield 69, 3) := by decide +kernel
theorem dX8_refuse_10 : decode cX8_refuse 10 = .ok (.return_, 1) := by decide +kernel
set_option maxRecDepth 20000 in
theorem ggX8_checkTable_X8_isTable : GoodIn wsX8_checkTable wsX8_isTable := goodIn_r _ [6] (by decide +kernel) (by decide +kernel)
set_option maxRecDepth 20000 in
theorem gX8_checkTable_X8_isTable : GoodIn wsX8_checkTable (va_wsS RX8 398 yX8_isTable wsX8_isTable) := goodIn_app (goodIn_of _ (by decide +kernel)) ggX8_checkTable_X8_isTable
theorem dX8_checkTable_0 : decode cX8_checkTable 0 = .ok (.iload_n 1, 1) := by decide +kernel
theorem dX8_checkTable_1 : decode cX8_checkTable 1 = .ok (.invokestatic 398, 3) := by decide +kernel
theorem dX8_checkTable_4 : decode cX8_checkTable 4 = .ok (.ifCond .ne 14, 3) := by decide +kernel
theorem dX8_checkTable_7 : decode cX8_checkTable 7 = .ok (.new 110, 3) := by decide +kernel
theorem dX8_checkTable_10 : decode cX8_checkTable 10 = .ok (.dup, 1) := by decide +kernel
theorem dX8_checkTable_11 : decode cX8_checkTable 11 = .ok (.ldc_w 401, 3) := by decide +kernel
theorem dX8_checkTable_14 : decode cX8_checkTable 14 = .ok (.invokespecial 114, 3) := by decide +kernel
theorem dX8_checkTable_17 : decode cX8_checkTable 17 = .ok (.athrow, 1) := by decide +kernel
theorem dX8_checkTable_18 : decode cX8_checkTable 18 = .ok (.return_, 1) := by decide +kernel
set_option maxRecDepth 20000 in
theorem ggX8_heard_X4_hear : GoodIn wsX8_heard wsX4_hear := goodIn_ca (goodIn_r _ [7, 8, 9, 10, 11, 12, 13, 14, 15, 16, 17, 18, 19, 20, 21, 22, 23, 24, 25, 26, 27, 28, 29, 30, 31, 32, 33, 34, 35, 36, 37, 38, 39, 40, 41, 42, 43, 44, 45, 58, 59, 60, 61, 62, 63, 64, 65] (by decide +kernel) (by decide +kernel)) (goodIn_sub (fun _ h => List.mem_cons_of_mem _ (List.mem_append_right _ h)) (by decide +kernel))
set_option maxRecDepth 20000 in
theorem gX8_heard_X4_hear : GoodIn wsX8_heard (wsV RX8 403 RX4 yX4_hear wsX4_hear) := goodIn_app (goodIn_of _ (by decide +kernel)) ggX8_heard_X4_hear
theorem dX8_heard_0 : decode cX8_heard 0 = .ok (.aload_n 0, 1) := by decide +kernel
theorem dX8_heard_1 : decode cX8_heard 1 = .ok (.getfield 27, 3) := by decide +kernel
theorem dX8_heard_4 : decode cX8_heard 4 = .ok (.aload_n 0, 1) := by decide +kernel
theorem dX8_heard_5 : decode cX8_heard 5 = .ok (.getfield 20, 3) := by decide +kernel
theorem dX8_heard_8 : decode cX8_heard 8 = .ok (.iload_n 1, 1) := by decide +kernel
theorem dX8_heard_9 : decode cX8_heard 9 = .ok (.invokevirtual 403, 3) := by decide +kernel
theorem dX8_heard_12 : decode cX8_heard 12 = .ok (.aload_n 0, 1) := by decide +kernel
theorem dX8_heard_13 : decode cX8_heard 13 = .ok (.getfield 27, 3) := by decide +kernel
theorem dX8_heard_16 : decode cX8_heard 16 = .ok (.areturn, 1) := by decide +kernel
set_option maxRecDepth 20000 in
theorem ggX8_rightTables_X8_heard : GoodIn wsX8_rightTables wsX8_heard := goodIn_ca (goodIn_r _ [5, 6, 7, 8, 9, 10, 11, 12, 13, 14, 15, 16, 17, 18, 19, 20, 21, 22, 23, 24, 25, 26, 27, 28, 29, 30, 31, 32, 33, 34, 35, 36, 37, 38, 39, 40, 41, 42, 43, 44, 45, 46, 47, 48, 49, 50, 69, 70, 71, 72, 73, 74, 75, 76, 77, 78, 79, 80, 81, 82, 83, 84, 85, 86, 87, 88] (by decide +kernel) (by decide +kernel)) (goodIn_sub (fun _ h => List.mem_cons_of_mem _ (List.mem_append_right _ h)) (by decide +kernel))
set_option maxRecDepth 20000 in
theorem gX8_rightTables_X8_heard : GoodIn wsX8_rightTables (wsV RX8 151 RX8 yX8_heard wsX8_heard) := goodIn_app (goodIn_of _ (by decide +kernel)) ggX8_rightTables_X8_heard
set_option maxRecDepth 20000 in
theorem ggX8_rightTables_X4_isWhole : GoodIn wsX8_rightTables wsX4_isWhole := goodIn_ca (goodIn_r _ [54, 55, 56, 57, 11, 58, 13, 59, 60, 61, 62, 15, 63, 64, 65, 66, 67, 68, 81, 82, 83, 84, 85, 86, 87] (by decide +kernel) (by decide +kernel)) (goodIn_sub (fun _ h => List.mem_cons_of_mem _ (List.mem_append_right _ h)) (by decide +kernel))
set_option maxRecDepth 20000 in
theorem gX8_rightTables_X4_isWhole : GoodIn wsX8_rightTables (wsV RX8 196 RX4 yX4_isWhole wsX4_isWhole) := goodIn_app (goodIn_of _ (by decide +kernel)) ggX8_rightTables_X4_isWhole
theorem dX8_rightTables_0 : decode cX8_rightTables 0 = .ok (.iconst 0, 1) := by decide +kernel
theorem dX8_rightTables_1 : decode cX8_rightTables 1 = .ok (.istore_n 1, 1) := by decide +kernel
theorem dX8_rightTables_2 : decode cX8_rightTables 2 = .ok (.iconst 0, 1) := by decide +kernel
theorem dX8_rightTables_3 : decode cX8_rightTables 3 = .ok (.istore_n 2, 1) := by decide +kernel
theorem dX8_rightTables_4 : decode cX8_rightTables 4 = .ok (.iload_n 2, 1) := by decide +kernel
theorem dX8_rightTables_5 : decode cX8_rightTables 5 = .ok (.iconst 3, 1) := by decide +kernel
theorem dX8_rightTables_6 : decode cX8_rightTables 6 = .ok (.if_icmp .ge 23, 3) := by decide +kernel
theorem dX8_rightTables_9 : decode cX8_rightTables 9 = .ok (.aload_n 0, 1) := by decide +kernel
theorem dX8_rightTables_10 : decode cX8_rightTables 10 = .ok (.iload_n 2, 1) := by decide +kernel
theorem dX8_rightTables_11 : decode cX8_rightTables 11 = .ok (.invokevirtual 151, 3) := by decide +kernel
theorem dX8_rightTables_14 : decode cX8_rightTables 14 = .ok (.invokevirtual 196, 3) := by decide +kernel
theorem dX8_rightTables_17 : decode cX8_rightTables 17 = .ok (.ifCond .eq 6, 3) := by decide +kernel
theorem dX8_rightTables_20 : decode cX8_rightTables 20 = .ok (.iinc 1 1, 3) := by decide +kernel
theorem dX8_rightTables_23 : decode cX8_rightTables 23 = .ok (.iinc 2 1, 3) := by decide +kernel
theorem dX8_rightTables_26 : decode cX8_rightTables 26 = .ok (.goto (-22), 3) := by decide +kernel
theorem dX8_rightTables_29 : decode cX8_rightTables 29 = .ok (.iload_n 1, 1) := by decide +kernel
theorem dX8_rightTables_30 : decode cX8_rightTables 30 = .ok (.ireturn, 1) := by decide +kernel
set_option maxRecDepth 20000 in
theorem ggX8_tablesAheadOf_X8_isTableAhead : GoodIn wsX8_tablesAheadOf wsX8_isTableAhead := goodIn_ca (goodIn_r _ [5, 6, 7, 8, 4, 9, 10, 11, 12, 13, 14, 15, 16, 17, 18, 19, 20, 21, 22, 23, 24, 25, 26, 27, 28, 29, 30, 31, 32, 33, 34, 35, 36, 37, 38, 39, 40, 41, 42, 43, 44, 45, 46, 47, 48, 49, 50, 51, 52, 53, 54, 55, 56, 57, 58, 59, 60, 61, 62, 63, 64, 65, 66, 67, 68, 69, 70, 71, 72, 73, 74, 75, 76, 77, 78, 79, 80, 81, 82, 83, 84, 85, 86, 87, 88, 89, 90, 91, 92, 93, 94, 95, 96, 97, 98, 99, 100, 101, 102, 103, 104, 105, 106, 107, 108] (by decide +kernel) (by decide +kernel)) (goodIn_sub (fun _ h => List.mem_cons_of_mem _ (List.mem_append_right _ h)) (by decide +kernel))
set_option maxRecDepth 20000 in
theorem gX8_tablesAheadOf_X8_isTableAhead : GoodIn wsX8_tablesAheadOf (wsV RX8 407 RX8 yX8_isTableAhead wsX8_isTableAhead) := goodIn_app (goodIn_of _ (by decide +kernel)) ggX8_tablesAheadOf_X8_isTableAhead
theorem dX8_tablesAheadOf_0 : decode cX8_tablesAheadOf 0 = .ok (.iconst 0, 1) := by decide +kernel
theorem dX8_tablesAheadOf_1 : decode cX8_tablesAheadOf 1 = .ok (.istore_n 2, 1) := by decide +kernel
theorem dX8_tablesAheadOf_2 : decode cX8_tablesAheadOf 2 = .ok (.iconst 0, 1) := by decide +kernel
theorem dX8_tablesAheadOf_3 : decode cX8_tablesAheadOf 3 = .ok (.istore_n 3, 1) := by decide +kernel
theorem dX8_tablesAheadOf_4 : decode cX8_tablesAheadOf 4 = .ok (.iload_n 3, 1) := by decide +kernel
theorem dX8_tablesAheadOf_5 : decode cX8_tablesAheadOf 5 = .ok (.iconst 3, 1) := by decide +kernel
theorem dX8_tablesAheadOf_6 : decode cX8_tablesAheadOf 6 = .ok (.if_icmp .ge 21, 3) := by decide +kernel
theorem dX8_tablesAheadOf_9 : decode cX8_tablesAheadOf 9 = .ok (.aload_n 0, 1) := by decide +kernel
theorem dX8_tablesAheadOf_10 : decode cX8_tablesAheadOf 10 = .ok (.iload_n 3, 1) := by decide +kernel
theorem dX8_tablesAheadOf_11 : decode cX8_tablesAheadOf 11 = .ok (.iload_n 1, 1) := by decide +kernel
theorem dX8_tablesAheadOf_12 : decode cX8_tablesAheadOf 12 = .ok (.invokevirtual 407, 3) := by decide +kernel
theorem dX8_tablesAheadOf_15 : decode cX8_tablesAheadOf 15 = .ok (.ifCond .eq 6, 3) := by decide +kernel
theorem dX8_tablesAheadOf_18 : decode cX8_tablesAheadOf 18 = .ok (.iinc 2 1, 3) := by decide +kernel
theorem dX8_tablesAheadOf_21 : decode cX8_tablesAheadOf 21 = .ok (.iinc 3 1, 3) := by decide +kernel
theorem dX8_tablesAheadOf_24 : decode cX8_tablesAheadOf 24 = .ok (.goto (-20), 3) := by decide +kernel
theorem dX8_tablesAheadOf_27 : decode cX8_tablesAheadOf 27 = .ok (.iload_n 2, 1) := by decide +kernel
theorem dX8_tablesAheadOf_28 : decode cX8_tablesAheadOf 28 = .ok (.ireturn, 1) := by decide +kernel
set_option maxRecDepth 20000 in
theorem ggX8_isTableAhead_X8_heard : GoodIn wsX8_isTableAhead wsX8_heard := goodIn_ca (goodIn_r _ [5, 6, 7, 8, 9, 10, 11, 12, 13, 14, 15, 16, 17, 18, 19, 20, 21, 22, 23, 24, 25, 26, 27, 28, 29, 30, 31, 32, 33, 34, 35, 36, 37, 38, 39, 40, 41, 42, 43, 44, 45, 46, 47, 48, 49, 50, 85, 86, 87, 88, 89, 90, 91, 92, 93, 94, 95, 96, 97, 98, 99, 100, 101, 102, 103, 104] (by decide +kernel) (by decide +kernel)) (goodIn_sub (fun _ h => List.mem_cons_of_mem _ (List.mem_append_right _ h)) (by decide +kernel))
set_option maxRecDepth 20000 in
theorem gX8_isTableAhead_X8_heard : GoodIn wsX8_isTableAhead (wsV RX8 151 RX8 yX8_heard wsX8_heard) := goodIn_app (goodIn_of _ (by decide +kernel)) ggX8_isTableAhead_X8_heard
set_option maxRecDepth 20000 in
theorem ggX8_isTableAhead_X4_phraseCount : GoodIn wsX8_isTableAhead wsX4_phraseCount := goodIn_ca (goodIn_r _ [54, 55, 56, 57, 11, 58, 13, 59, 60, 61, 62, 15, 63, 64, 65, 66, 67, 68, 69, 70, 71, 72, 97, 98, 99, 100, 101, 102, 103] (by decide +kernel) (by decide +kernel)) (goodIn_sub (fun _ h => List.mem_cons_of_mem _ (List.mem_append_right _ h)) (by decide +kernel))
set_option maxRecDepth 20000 in
theorem gX8_isTableAhead_X4_phraseCount : GoodIn wsX8_isTableAhead (wsV RX8 200 RX4 yX4_phraseCount wsX4_phraseCount) := goodIn_app (goodIn_of _ (by decide +kernel)) ggX8_isTableAhead_X4_phraseCount
set_option maxRecDepth 20000 in
theorem ggX8_isTableAhead_X4_doubtByNapkins : GoodIn wsX8_isTableAhead wsX4_doubtByNapkins := goodIn_ca (goodIn_r _ [76, 13, 77, 78, 79, 11, 80, 17, 81, 82, 83, 84, 97, 98, 99, 100, 101, 102, 103] (by decide +kernel) (by decide +kernel)) (goodIn_sub (fun _ h => List.mem_cons_of_mem _ (List.mem_append_right _ h)) (by decide +kernel))
set_option maxRecDepth 20000 in
theorem gX8_isTableAhead_X4_doubtByNapkins : GoodIn wsX8_isTableAhead (wsV RX8 230 RX4 yX4_doubtByNapkins wsX4_doubtByNapkins) := goodIn_app (goodIn_of _ (by decide +kernel)) ggX8_isTableAhead_X4_doubtByNapkins
theorem dX8_isTableAhead_0 : decode cX8_isTableAhead 0 = .ok (.aload_n 0, 1) := by decide +kernel
theorem dX8_isTableAhead_1 : decode cX8_isTableAhead 1 = .ok (.iload_n 1, 1) := by decide +kernel
theorem dX8_isTableAhead_2 : decode cX8_isTableAhead 2 = .ok (.invokevirtual 151, 3) := by decide +kernel
theorem dX8_isTableAhead_5 : decode cX8_isTableAhead 5 = .ok (.invokevirtual 200, 3) := by decide +kernel
theorem dX8_isTableAhead_8 : decode cX8_isTableAhead 8 = .ok (.istore_n 3, 1) := by decide +kernel
theorem dX8_isTableAhead_9 : decode cX8_isTableAhead 9 = .ok (.aload_n 0, 1) := by decide +kernel
theorem dX8_isTableAhead_10 : decode cX8_isTableAhead 10 = .ok (.iload_n 2, 1) := by decide +kernel
theorem dX8_isTableAhead_11 : decode cX8_isTableAhead 11 = .ok (.invokevirtual 151, 3) := by decide +kernel
theorem dX8_isTableAhead_14 : decode cX8_isTableAhead 14 = .ok (.invokevirtual 200, 3) := by decide +kernel
theorem dX8_isTableAhead_17 : decode cX8_isTableAhead 17 = .ok (.istore 4, 2) := by decide +kernel
theorem dX8_isTableAhead_19 : decode cX8_isTableAhead 19 = .ok (.iload_n 3, 1) := by decide +kernel
theorem dX8_isTableAhead_20 : decode cX8_isTableAhead 20 = .ok (.iload 4, 2) := by decide +kernel
theorem dX8_isTableAhead_22 : decode cX8_isTableAhead 22 = .ok (.if_icmp .eq 15, 3) := by decide +kernel
theorem dX8_isTableAhead_25 : decode cX8_isTableAhead 25 = .ok (.iload_n 3, 1) := by decide +kernel
theorem dX8_isTableAhead_26 : decode cX8_isTableAhead 26 = .ok (.iload 4, 2) := by decide +kernel
theorem dX8_isTableAhead_28 : decode cX8_isTableAhead 28 = .ok (.if_icmp .le 7, 3) := by decide +kernel
theorem dX8_isTableAhead_31 : decode cX8_isTableAhead 31 = .ok (.iconst 1, 1) := by decide +kernel
theorem dX8_isTableAhead_32 : decode cX8_isTableAhead 32 = .ok (.goto 4, 3) := by decide +kernel
theorem dX8_isTableAhead_35 : decode cX8_isTableAhead 35 = .ok (.iconst 0, 1) := by decide +kernel
theorem dX8_isTableAhead_36 : decode cX8_isTableAhead 36 = .ok (.ireturn, 1) := by decide +kernel
theorem dX8_isTableAhead_37 : decode cX8_isTableAhead 37 = .ok (.aload_n 0, 1) := by decide +kernel
theorem dX8_isTableAhead_38 : decode cX8_isTableAhead 38 = .ok (.iload_n 1, 1) := by decide +kernel
theorem dX8_isTableAhead_39 : decode cX8_isTableAhead 39 = .ok (.invokevirtual 151, 3) := by decide +kernel
theorem dX8_isTableAhead_42 : decode cX8_isTableAhead 42 = .ok (.invokevirtual 230, 3) := by decide +kernel
theorem dX8_isTableAhead_45 : decode cX8_isTableAhead 45 = .ok (.istore 5, 2) := by decide +kernel
theorem dX8_isTableAhead_47 : decode cX8_isTableAhead 47 = .ok (.aload_n 0, 1) := by decide +kernel
theorem dX8_isTableAhead_48 : decode cX8_isTableAhead 48 = .ok (.iload_n 2, 1) := by decide +kernel
theorem dX8_isTableAhead_49 : decode cX8_isTableAhead 49 = .ok (.invokevirtual 151, 3) := by decide +kernel
theorem dX8_isTableAhead_52 : decode cX8_isTableAhead 52 = .ok (.invokevirtual 230, 3) := by decide +kernel
theorem dX8_isTableAhead_55 : decode cX8_isTableAhead 55 = .ok (.istore 6, 2) := by decide +kernel
theorem dX8_isTableAhead_57 : decode cX8_isTableAhead 57 = .ok (.iload 5, 2) := by decide +kernel
theorem dX8_isTableAhead_59 : decode cX8_isTableAhead 59 = .ok (.iload 6, 2) := by decide +kernel
theorem dX8_isTableAhead_61 : decode cX8_isTableAhead 61 = .ok (.if_icmp .eq 16, 3) := by decide +kernel
theorem dX8_isTableAhead_64 : decode cX8_isTableAhead 64 = .ok (.iload 5, 2) := by decide +kernel
theorem dX8_isTableAhead_66 : decode cX8_isTableAhead 66 = .ok (.iload 6, 2) := by decide +kernel
theorem dX8_isTableAhead_68 : decode cX8_isTableAhead 68 = .ok (.if_icmp .ge 7, 3) := by decide +kernel
theorem dX8_isTableAhead_71 : decode cX8_isTableAhead 71 = .ok (.iconst 1, 1) := by decide +kernel
theorem dX8_isTableAhead_72 : decode cX8_isTableAhead 72 = .ok (.goto 4, 3) := by decide +kernel
theorem dX8_isTableAhead_75 : decode cX8_isTableAhead 75 = .ok (.iconst 0, 1) := by decide +kernel
theorem dX8_isTableAhead_76 : decode cX8_isTableAhead 76 = .ok (.ireturn, 1) := by decide +kernel
theorem dX8_isTableAhead_77 : decode cX8_isTableAhead 77 = .ok (.iload_n 1, 1) := by decide +kernel
theorem dX8_isTableAhead_78 : decode cX8_isTableAhead 78 = .ok (.iload_n 2, 1) := by decide +kernel
theorem dX8_isTableAhead_79 : decode cX8_isTableAhead 79 = .ok (.if_icmp .ge 7, 3) := by decide +kernel
theorem dX8_isTableAhead_82 : decode cX8_isTableAhead 82 = .ok (.iconst 1, 1) := by decide +kernel
theorem dX8_isTableAhead_83 : decode cX8_isTableAhead 83 = .ok (.goto 4, 3) := by decide +kernel
theorem dX8_isTableAhead_86 : decode cX8_isTableAhead 86 = .ok (.iconst 0, 1) := by decide +kernel
theorem dX8_isTableAhead_87 : decode cX8_isTableAhead 87 = .ok (.ireturn, 1) := by decide +kernel
set_option maxRecDepth 20000 in
theorem ggX8_napkinsAheadOf_X6_napkins : GoodIn wsX8_napkinsAheadOf wsX6_napkins := goodIn_ca (goodIn_r _ [6, 7, 37] (by decide +kernel) (by decide +kernel)) (goodIn_sub (fun _ h => List.mem_cons_of_mem _ (List.mem_append_right _ h)) (by decide +kernel))
set_option maxRecDepth 20000 in
theorem gX8_napkinsAheadOf_X6_napkins : GoodIn wsX8_napkinsAheadOf (wsV RX8 246 RX6 yX6_napkins wsX6_napkins) := goodIn_app (goodIn_of _ (by decide +kernel)) ggX8_napkinsAheadOf_X6_napkins
set_option maxRecDepth 20000 in
theorem ggX8_napkinsAheadOf_X8_isNapkinAhead : GoodIn wsX8_napkinsAheadOf wsX8_isNapkinAhead := goodIn_ca (goodIn_r _ [12, 1, 13, 14, 15, 5, 16, 17, 18, 19, 20, 7, 21, 22, 23, 24, 25, 26, 27, 28, 29, 30, 31, 32, 33, 34, 35, 36, 37] (by decide +kernel) (by decide +kernel)) (goodIn_sub (fun _ h => List.mem_cons_of_mem _ (List.mem_append_right _ h)) (by decide +kernel))
set_option maxRecDepth 20000 in
theorem gX8_napkinsAheadOf_X8_isNapkinAhead : GoodIn wsX8_napkinsAheadOf (wsV RX8 410 RX8 yX8_isNapkinAhead wsX8_isNapkinAhead) := goodIn_app (goodIn_of _ (by decide +kernel)) ggX8_napkinsAheadOf_X8_isNapkinAhead
theorem dX8_napkinsAheadOf_0 : decode cX8_napkinsAheadOf 0 = .ok (.iconst 0, 1) := by decide +kernel
theorem dX8_napkinsAheadOf_1 : decode cX8_napkinsAheadOf 1 = .ok (.istore_n 2, 1) := by decide +kernel
theorem dX8_napkinsAheadOf_2 : decode cX8_napkinsAheadOf 2 = .ok (.iconst 0, 1) := by decide +kernel
theorem dX8_napkinsAheadOf_3 : decode cX8_napkinsAheadOf 3 = .ok (.istore_n 3, 1) := by decide +kernel
theorem dX8_napkinsAheadOf_4 : decode cX8_napkinsAheadOf 4 = .ok (.iload_n 3, 1) := by decide +kernel
theorem dX8_napkinsAheadOf_5 : decode cX8_napkinsAheadOf 5 = .ok (.aload_n 0, 1) := by decide +kernel
theorem dX8_napkinsAheadOf_6 : decode cX8_napkinsAheadOf 6 = .ok (.getfield 20, 3) := by decide +kernel
theorem dX8_napkinsAheadOf_9 : decode cX8_napkinsAheadOf 9 = .ok (.invokevirtual 246, 3) := by decide +kernel
theorem dX8_napkinsAheadOf_12 : decode cX8_napkinsAheadOf 12 = .ok (.if_icmp .ge 21, 3) := by decide +kernel
theorem dX8_napkinsAheadOf_15 : decode cX8_napkinsAheadOf 15 = .ok (.aload_n 0, 1) := by decide +kernel
theorem dX8_napkinsAheadOf_16 : decode cX8_napkinsAheadOf 16 = .ok (.iload_n 3, 1) := by decide +kernel
theorem dX8_napkinsAheadOf_17 : decode cX8_napkinsAheadOf 17 = .ok (.iload_n 1, 1) := by decide +kernel
theorem dX8_napkinsAheadOf_18 : decode cX8_napkinsAheadOf 18 = .ok (.invokevirtual 410, 3) := by decide +kernel
theorem dX8_napkinsAheadOf_21 : decode cX8_napkinsAheadOf 21 = .ok (.ifCond .eq 6, 3) := by decide +kernel
theorem dX8_napkinsAheadOf_24 : decode cX8_napkinsAheadOf 24 = .ok (.iinc 2 1, 3) := by decide +kernel
theorem dX8_napkinsAheadOf_27 : decode cX8_napkinsAheadOf 27 = .ok (.iinc 3 1, 3) := by decide +kernel
theorem dX8_napkinsAheadOf_30 : decode cX8_napkinsAheadOf 30 = .ok (.goto (-26), 3) := by decide +kernel
theorem dX8_napkinsAheadOf_33 : decode cX8_napkinsAheadOf 33 = .ok (.iload_n 2, 1) := by decide +kernel
theorem dX8_napkinsAheadOf_34 : decode cX8_napkinsAheadOf 34 = .ok (.ireturn, 1) := by decide +kernel
set_option maxRecDepth 20000 in
theorem ggX8_isNapkinAhead_X6_creasesOf : GoodIn wsX8_isNapkinAhead wsX6_creasesOf := goodIn_ca (goodIn_r _ [6, 7, 8, 9, 5, 10, 11, 28] (by decide +kernel) (by decide +kernel)) (goodIn_sub (fun _ h => List.mem_cons_of_mem _ (List.mem_append_right _ h)) (by decide +kernel))
set_option maxRecDepth 20000 in
theorem gX8_isNapkinAhead_X6_creasesOf : GoodIn wsX8_isNapkinAhead (wsV RX8 124 RX6 yX6_creasesOf wsX6_creasesOf) := goodIn_app (goodIn_of _ (by decide +kernel)) ggX8_isNapkinAhead_X6_creasesOf
set_option maxRecDepth 20000 in
theorem ggX8_isNapkinAhead_X6_stainsOf : GoodIn wsX8_isNapkinAhead wsX6_stainsOf := goodIn_ca (goodIn_r _ [15, 7, 8, 9, 5, 10, 11, 28] (by decide +kernel) (by decide +kernel)) (goodIn_sub (fun _ h => List.mem_cons_of_mem _ (List.mem_append_right _ h)) (by decide +kernel))
set_option maxRecDepth 20000 in
theorem gX8_isNapkinAhead_X6_stainsOf : GoodIn wsX8_isNapkinAhead (wsV RX8 127 RX6 yX6_stainsOf wsX6_stainsOf) := goodIn_app (goodIn_of _ (by decide +kernel)) ggX8_isNapkinAhead_X6_stainsOf
theorem dX8_isNapkinAhead_0 : decode cX8_isNapkinAhead 0 = .ok (.aload_n 0, 1) := by decide +kernel
theorem dX8_isNapkinAhead_1 : decode cX8_isNapkinAhead 1 = .ok (.getfield 20, 3) := by decide +kernel
theorem dX8_isNapkinAhead_4 : decode cX8_isNapkinAhead 4 = .ok (.iload_n 1, 1) := by decide +kernel
theorem dX8_isNapkinAhead_5 : decode cX8_isNapkinAhead 5 = .ok (.invokevirtual 124, 3) := by decide +kernel
theorem dX8_isNapkinAhead_8 : decode cX8_isNapkinAhead 8 = .ok (.aload_n 0, 1) := by decide +kernel
theorem dX8_isNapkinAhead_9 : decode cX8_isNapkinAhead 9 = .ok (.getfield 20, 3) := by decide +kernel
theorem dX8_isNapkinAhead_12 : decode cX8_isNapkinAhead 12 = .ok (.iload_n 2, 1) := by decide +kernel
theorem dX8_isNapkinAhead_13 : decode cX8_isNapkinAhead 13 = .ok (.invokevirtual 124, 3) := by decide +kernel
theorem dX8_isNapkinAhead_16 : decode cX8_isNapkinAhead 16 = .ok (.if_icmp .eq 28, 3) := by decide +kernel
theorem dX8_isNapkinAhead_19 : decode cX8_isNapkinAhead 19 = .ok (.aload_n 0, 1) := by decide +kernel
theorem dX8_isNapkinAhead_20 : decode cX8_isNapkinAhead 20 = .ok (.getfield 20, 3) := by decide +kernel
theorem dX8_isNapkinAhead_23 : decode cX8_isNapkinAhead 23 = .ok (.iload_n 1, 1) := by decide +kernel
theorem dX8_isNapkinAhead_24 : decode cX8_isNapkinAhead 24 = .ok (.invokevirtual 124, 3) := by decide +kernel
theorem dX8_isNapkinAhead_27 : decode cX8_isNapkinAhead 27 = .ok (.aload_n 0, 1) := by decide +kernel
theorem dX8_isNapkinAhead_28 : decode cX8_isNapkinAhead 28 = .ok (.getfield 20, 3) := by decide +kernel
theorem dX8_isNapkinAhead_31 : decode cX8_isNapkinAhead 31 = .ok (.iload_n 2, 1) := by decide +kernel
theorem dX8_isNapkinAhead_32 : decode cX8_isNapkinAhead 32 = .ok (.invokevirtual 124, 3) := by decide +kernel
theorem dX8_isNapkinAhead_35 : decode cX8_isNapkinAhead 35 = .ok (.if_icmp .le 7, 3) := by decide +kernel
theorem dX8_isNapkinAhead_38 : decode cX8_isNapkinAhead 38 = .ok (.iconst 1, 1) := by decide +kernel
theorem dX8_isNapkinAhead_39 : decode cX8_isNapkinAhead 39 = .ok (.goto 4, 3) := by decide +kernel
theorem dX8_isNapkinAhead_42 : decode cX8_isNapkinAhead 42 = .ok (.iconst 0, 1) := by decide +kernel
theorem dX8_isNapkinAhead_43 : decode cX8_isNapkinAhead 43 = .ok (.ireturn, 1) := by decide +kernel
theorem dX8_isNapkinAhead_44 : decode cX8_isNapkinAhead 44 = .ok (.aload_n 0, 1) := by decide +kernel
theorem dX8_isNapkinAhead_45 : decode cX8_isNapkinAhead 45 = .ok (.getfield 20, 3) := by decide +kernel
theorem dX8_isNapkinAhead_48 : decode cX8_isNapkinAhead 48 = .ok (.iload_n 1, 1) := by decide +kernel
theorem dX8_isNapkinAhead_49 : decode cX8_isNapkinAhead 49 = .ok (.invokevirtual 127, 3) := by decide +kernel
theorem dX8_isNapkinAhead_52 : decode cX8_isNapkinAhead 52 = .ok (.aload_n 0, 1) := by decide +kernel
theorem dX8_isNapkinAhead_53 : decode cX8_isNapkinAhead 53 = .ok (.getfield 20, 3) := by decide +kernel
theorem dX8_isNapkinAhead_56 : decode cX8_isNapkinAhead 56 = .ok (.iload_n 2, 1) := by decide +kernel
theorem dX8_isNapkinAhead_57 : decode cX8_isNapkinAhead 57 = .ok (.invokevirtual 127, 3) := by decide +kernel
theorem dX8_isNapkinAhead_60 : decode cX8_isNapkinAhead 60 = .ok (.if_icmp .eq 28, 3) := by decide +kernel
theorem dX8_isNapkinAhead_63 : decode cX8_isNapkinAhead 63 = .ok (.aload_n 0, 1) := by decide +kernel
theorem dX8_isNapkinAhead_64 : decode cX8_isNapkinAhead 64 = .ok (.getfield 20, 3) := by decide +kernel
theorem dX8_isNapkinAhead_67 : decode cX8_isNapkinAhead 67 = .ok (.iload_n 1, 1) := by decide +kernel
theorem dX8_isNapkinAhead_68 : decode cX8_isNapkinAhead 68 = .ok (.invokevirtual 127, 3) := by decide +kernel
theorem dX8_isNapkinAhead_71 : decode cX8_isNapkinAhead 71 = .ok (.aload_n 0, 1) := by decide +kernel
theorem dX8_isNapkinAhead_72 : decode cX8_isNapkinAhead 72 = .ok (.getfield 20, 3) := by decide +kernel
theorem dX8_isNapkinAhead_75 : decode cX8_isNapkinAhead 75 = .ok (.iload_n 2, 1) := by decide +kernel
theorem dX8_isNapkinAhead_76 : decode cX8_isNapkinAhead 76 = .ok (.invokevirtual 127, 3) := by decide +kernel
theorem dX8_isNapkinAhead_79 : decode cX8_isNapkinAhead 79 = .ok (.if_icmp .le 7, 3) := by decide +kernel
theorem dX8_isNapkinAhead_82 : decode cX8_isNapkinAhead 82 = .ok (.iconst 1, 1) := by decide +kernel
theorem dX8_isNapkinAhead_83 : decode cX8_isNapkinAhead 83 = .ok (.goto 4, 3) := by decide +kernel
theorem dX8_isNapkinAhead_86 : decode cX8_isNapkinAhead 86 = .ok (.iconst 0, 1) := by decide +kernel
theorem dX8_isNapkinAhead_87 : decode cX8_isNapkinAhead 87 = .ok (.ireturn, 1) := by decide +kernel
theorem dX8_isNapkinAhead_88 : decode cX8_isNapkinAhead 88 = .ok (.iload_n 1, 1) := by decide +kernel
theorem dX8_isNapkinAhead_89 : decode cX8_isNapkinAhead 89 = .ok (.iload_n 2, 1) := by decide +kernel
theorem dX8_isNapkinAhead_90 : decode cX8_isNapkinAhead 90 = .ok (.if_icmp .ge 7, 3) := by decide +kernel
theorem dX8_isNapkinAhead_93 : decode cX8_isNapkinAhead 93 = .ok (.iconst 1, 1) := by decide +kernel
theorem dX8_isNapkinAhead_94 : decode cX8_isNapkinAhead 94 = .ok (.goto 4, 3) := by decide +kernel
theorem dX8_isNapkinAhead_97 : decode cX8_isNapkinAhead 97 = .ok (.iconst 0, 1) := by decide +kernel
theorem dX8_isNapkinAhead_98 : decode cX8_isNapkinAhead 98 = .ok (.ireturn, 1) := by decide +kernel
