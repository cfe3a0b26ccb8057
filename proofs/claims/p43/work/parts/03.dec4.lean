theorem dX8_phraseOf_37 : decode cX8_phraseOf 37 = .ok (.iload_n 2, 1) := by decide +kernel
theorem dX8_phraseOf_38 : decode cX8_phraseOf 38 = .ok (.invokevirtual 205, 3) := by decide +kernel
theorem dX8_phraseOf_41 : decode cX8_phraseOf 41 = .ok (.istore 5, 2) := by decide +kernel
theorem dX8_phraseOf_43 : decode cX8_phraseOf 43 = .ok (.aload 4, 2) := by decide +kernel
theorem dX8_phraseOf_45 : decode cX8_phraseOf 45 = .ok (.iload 5, 2) := by decide +kernel
theorem dX8_phraseOf_47 : decode cX8_phraseOf 47 = .ok (.invokevirtual 208, 3) := by decide +kernel
theorem dX8_phraseOf_50 : decode cX8_phraseOf 50 = .ok (.istore 6, 2) := by decide +kernel
theorem dX8_phraseOf_52 : decode cX8_phraseOf 52 = .ok (.iload_n 3, 1) := by decide +kernel
theorem dX8_phraseOf_53 : decode cX8_phraseOf 53 = .ok (.tableswitch 89 0 3 #[31, 37, 45, 71], 31) := by decide +kernel
theorem dX8_phraseOf_84 : decode cX8_phraseOf 84 = .ok (.iload 6, 2) := by decide +kernel
theorem dX8_phraseOf_86 : decode cX8_phraseOf 86 = .ok (.iload 5, 2) := by decide +kernel
theorem dX8_phraseOf_88 : decode cX8_phraseOf 88 = .ok (.isub, 1) := by decide +kernel
theorem dX8_phraseOf_89 : decode cX8_phraseOf 89 = .ok (.ireturn, 1) := by decide +kernel
theorem dX8_phraseOf_90 : decode cX8_phraseOf 90 = .ok (.aload 4, 2) := by decide +kernel
theorem dX8_phraseOf_92 : decode cX8_phraseOf 92 = .ok (.iload 6, 2) := by decide +kernel
theorem dX8_phraseOf_94 : decode cX8_phraseOf 94 = .ok (.invokevirtual 185, 3) := by decide +kernel
theorem dX8_phraseOf_97 : decode cX8_phraseOf 97 = .ok (.ireturn, 1) := by decide +kernel
theorem dX8_phraseOf_98 : decode cX8_phraseOf 98 = .ok (.aload 4, 2) := by decide +kernel
theorem dX8_phraseOf_100 : decode cX8_phraseOf 100 = .ok (.iload 6, 2) := by decide +kernel
theorem dX8_phraseOf_102 : decode cX8_phraseOf 102 = .ok (.iconst 1, 1) := by decide +kernel
theorem dX8_phraseOf_103 : decode cX8_phraseOf 103 = .ok (.iadd, 1) := by decide +kernel
theorem dX8_phraseOf_104 : decode cX8_phraseOf 104 = .ok (.invokevirtual 211, 3) := by decide +kernel
theorem dX8_phraseOf_107 : decode cX8_phraseOf 107 = .ok (.ifCond .eq 15, 3) := by decide +kernel
theorem dX8_phraseOf_110 : decode cX8_phraseOf 110 = .ok (.aload 4, 2) := by decide +kernel
theorem dX8_phraseOf_112 : decode cX8_phraseOf 112 = .ok (.iload 6, 2) := by decide +kernel
theorem dX8_phraseOf_114 : decode cX8_phraseOf 114 = .ok (.iconst 1, 1) := by decide +kernel
theorem dX8_phraseOf_115 : decode cX8_phraseOf 115 = .ok (.iadd, 1) := by decide +kernel
theorem dX8_phraseOf_116 : decode cX8_phraseOf 116 = .ok (.invokevirtual 185, 3) := by decide +kernel
theorem dX8_phraseOf_119 : decode cX8_phraseOf 119 = .ok (.goto 4, 3) := by decide +kernel
theorem dX8_phraseOf_122 : decode cX8_phraseOf 122 = .ok (.iconst (-1), 1) := by decide +kernel
theorem dX8_phraseOf_123 : decode cX8_phraseOf 123 = .ok (.ireturn, 1) := by decide +kernel
theorem dX8_phraseOf_124 : decode cX8_phraseOf 124 = .ok (.aload 4, 2) := by decide +kernel
theorem dX8_phraseOf_126 : decode cX8_phraseOf 126 = .ok (.iload 5, 2) := by decide +kernel
theorem dX8_phraseOf_128 : decode cX8_phraseOf 128 = .ok (.iload 6, 2) := by decide +kernel
theorem dX8_phraseOf_130 : decode cX8_phraseOf 130 = .ok (.invokevirtual 214, 3) := by decide +kernel
theorem dX8_phraseOf_133 : decode cX8_phraseOf 133 = .ok (.ifCond .eq 7, 3) := by decide +kernel
theorem dX8_phraseOf_136 : decode cX8_phraseOf 136 = .ok (.iconst 1, 1) := by decide +kernel
theorem dX8_phraseOf_137 : decode cX8_phraseOf 137 = .ok (.goto 4, 3) := by decide +kernel
theorem dX8_phraseOf_140 : decode cX8_phraseOf 140 = .ok (.iconst 0, 1) := by decide +kernel
theorem dX8_phraseOf_141 : decode cX8_phraseOf 141 = .ok (.ireturn, 1) := by decide +kernel
theorem dX8_phraseOf_142 : decode cX8_phraseOf 142 = .ok (.new 139, 3) := by decide +kernel
theorem dX8_phraseOf_145 : decode cX8_phraseOf 145 = .ok (.dup, 1) := by decide +kernel
theorem dX8_phraseOf_146 : decode cX8_phraseOf 146 = .ok (.ldc 217, 2) := by decide +kernel
theorem dX8_phraseOf_148 : decode cX8_phraseOf 148 = .ok (.invokespecial 143, 3) := by decide +kernel
theorem dX8_phraseOf_151 : decode cX8_phraseOf 151 = .ok (.athrow, 1) := by decide +kernel
set_option maxRecDepth 20000 in
theorem ggX8_next_X8_checkTable : GoodIn wsX8_next wsX8_checkTable := goodIn_ca (goodIn_r _ [5, 6, 7, 8, 9, 4, 10] (by decide +kernel) (by decide +kernel)) (goodIn_sub (fun _ h => List.mem_cons_of_mem _ (List.mem_append_left _ (List.mem_append_right _ h))) (by decide +kernel))
set_option maxRecDepth 20000 in
theorem gX8_next_X8_checkTable : GoodIn wsX8_next (wsV RX8 144 RX8 yX8_checkTable wsX8_checkTable) := goodIn_app (goodIn_of _ (by decide +kernel)) ggX8_next_X8_checkTable
set_option maxRecDepth 20000 in
theorem ggX8_next_X8_heard : GoodIn wsX8_next wsX8_heard := goodIn_ca (goodIn_r _ [14, 15, 16, 17, 18, 19, 20, 21, 22, 23, 24, 25, 26, 27, 28, 29, 30, 31, 32, 33, 34, 35, 36, 37, 38, 39, 40, 41, 42, 43, 44, 45, 46, 47, 48, 49, 50, 51, 52, 53, 54, 55, 56, 57, 58, 59, 75, 76, 77, 78, 79, 80, 81, 82, 83, 84, 85, 86, 87, 88, 89, 90, 91, 92, 93, 94] (by decide +kernel) (by decide +kernel)) (goodIn_sub (fun _ h => List.mem_cons_of_mem _ (List.mem_append_right _ h)) (by decide +kernel))
set_option maxRecDepth 20000 in
theorem gX8_next_X8_heard : GoodIn wsX8_next (wsV RX8 151 RX8 yX8_heard wsX8_heard) := goodIn_app (goodIn_of _ (by decide +kernel)) ggX8_next_X8_heard
set_option maxRecDepth 20000 in
theorem ggX8_next_X4_followers : GoodIn wsX8_next wsX4_followers := goodIn_ca (goodIn_r _ [63, 64, 65, 66, 20, 67, 22, 68, 69, 70, 71, 24, 72, 73, 74, 87, 88, 89, 90, 91, 92, 93] (by decide +kernel) (by decide +kernel)) (goodIn_sub (fun _ h => List.mem_cons_of_mem _ (List.mem_append_right _ h)) (by decide +kernel))
set_option maxRecDepth 20000 in
theorem gX8_next_X4_followers : GoodIn wsX8_next (wsV RX8 219 RX4 yX4_followers wsX4_followers) := goodIn_app (goodIn_of _ (by decide +kernel)) ggX8_next_X4_followers
theorem dX8_next_0 : decode cX8_next 0 = .ok (.aload_n 0, 1) := by decide +kernel
theorem dX8_next_1 : decode cX8_next 1 = .ok (.iload_n 1, 1) := by decide +kernel
theorem dX8_next_2 : decode cX8_next 2 = .ok (.invokevirtual 144, 3) := by decide +kernel
theorem dX8_next_5 : decode cX8_next 5 = .ok (.aload_n 0, 1) := by decide +kernel
theorem dX8_next_6 : decode cX8_next 6 = .ok (.iload_n 1, 1) := by decide +kernel
theorem dX8_next_7 : decode cX8_next 7 = .ok (.invokevirtual 151, 3) := by decide +kernel
theorem dX8_next_10 : decode cX8_next 10 = .ok (.invokevirtual 219, 3) := by decide +kernel
theorem dX8_next_13 : decode cX8_next 13 = .ok (.ireturn, 1) := by decide +kernel
set_option maxRecDepth 20000 in
theorem ggX8_fewest_X8_checkTable : GoodIn wsX8_fewest wsX8_checkTable := goodIn_ca (goodIn_r _ [7, 8, 9, 10, 11, 6, 12] (by decide +kernel) (by decide +kernel)) (goodIn_sub (fun _ h => List.mem_cons_of_mem _ (List.mem_append_left _ (List.mem_append_right _ h))) (by decide +kernel))
set_option maxRecDepth 20000 in
theorem gX8_fewest_X8_checkTable : GoodIn wsX8_fewest (wsV RX8 144 RX8 yX8_checkTable wsX8_checkTable) := goodIn_app (goodIn_of _ (by decide +kernel)) ggX8_fewest_X8_checkTable
set_option maxRecDepth 20000 in
theorem ggX8_fewest_X8_heard : GoodIn wsX8_fewest wsX8_heard := goodIn_ca (goodIn_r _ [16, 17, 18, 19, 20, 21, 22, 23, 24, 25, 26, 27, 28, 29, 30, 31, 32, 33, 34, 35, 36, 37, 38, 39, 40, 41, 42, 43, 44, 45, 46, 47, 48, 49, 50, 51, 52, 53, 54, 55, 56, 57, 58, 59, 60, 61, 87, 88, 89, 90, 91, 92, 93, 94, 95, 96, 97, 98, 99, 100, 101, 102, 103, 104, 105, 106] (by decide +kernel) (by decide +kernel)) (goodIn_sub (fun _ h => List.mem_cons_of_mem _ (List.mem_append_right _ h)) (by decide +kernel))
set_option maxRecDepth 20000 in
theorem gX8_fewest_X8_heard : GoodIn wsX8_fewest (wsV RX8 151 RX8 yX8_heard wsX8_heard) := goodIn_app (goodIn_of _ (by decide +kernel)) ggX8_fewest_X8_heard
set_option maxRecDepth 20000 in
theorem ggX8_fewest_X4_fewestBySets : GoodIn wsX8_fewest wsX4_fewestBySets := goodIn_ca (goodIn_r _ [65, 24, 66, 67, 68, 69, 70, 71, 72, 73, 74, 75, 22, 76, 77, 78, 79, 80, 26, 81, 82, 83, 84, 85, 86, 99, 100, 101, 102, 103, 104, 105] (by decide +kernel) (by decide +kernel)) (goodIn_sub (fun _ h => List.mem_cons_of_mem _ (List.mem_append_right _ h)) (by decide +kernel))
set_option maxRecDepth 20000 in
theorem gX8_fewest_X4_fewestBySets : GoodIn wsX8_fewest (wsV RX8 222 RX4 yX4_fewestBySets wsX4_fewestBySets) := goodIn_app (goodIn_of _ (by decide +kernel)) ggX8_fewest_X4_fewestBySets
theorem dX8_fewest_0 : decode cX8_fewest 0 = .ok (.aload_n 0, 1) := by decide +kernel
theorem dX8_fewest_1 : decode cX8_fewest 1 = .ok (.iload_n 1, 1) := by decide +kernel
theorem dX8_fewest_2 : decode cX8_fewest 2 = .ok (.invokevirtual 144, 3) := by decide +kernel
theorem dX8_fewest_5 : decode cX8_fewest 5 = .ok (.aload_n 0, 1) := by decide +kernel
theorem dX8_fewest_6 : decode cX8_fewest 6 = .ok (.iload_n 1, 1) := by decide +kernel
theorem dX8_fewest_7 : decode cX8_fewest 7 = .ok (.invokevirtual 151, 3) := by decide +kernel
theorem dX8_fewest_10 : decode cX8_fewest 10 = .ok (.invokevirtual 222, 3) := by decide +kernel
theorem dX8_fewest_13 : decode cX8_fewest 13 = .ok (.istore_n 2, 1) := by decide +kernel
theorem dX8_fewest_14 : decode cX8_fewest 14 = .ok (.iload_n 2, 1) := by decide +kernel
theorem dX8_fewest_15 : decode cX8_fewest 15 = .ok (.iconst (-1), 1) := by decide +kernel
theorem dX8_fewest_16 : decode cX8_fewest 16 = .ok (.if_icmp .ne 13, 3) := by decide +kernel
theorem dX8_fewest_19 : decode cX8_fewest 19 = .ok (.new 176, 3) := by decide +kernel
theorem dX8_fewest_22 : decode cX8_fewest 22 = .ok (.dup, 1) := by decide +kernel
theorem dX8_fewest_23 : decode cX8_fewest 23 = .ok (.ldc 225, 2) := by decide +kernel
theorem dX8_fewest_25 : decode cX8_fewest 25 = .ok (.invokespecial 180, 3) := by decide +kernel
theorem dX8_fewest_28 : decode cX8_fewest 28 = .ok (.athrow, 1) := by decide +kernel
theorem dX8_fewest_29 : decode cX8_fewest 29 = .ok (.iload_n 2, 1) := by decide +kernel
theorem dX8_fewest_30 : decode cX8_fewest 30 = .ok (.ireturn, 1) := by decide +kernel
set_option maxRecDepth 20000 in
theorem ggX8_fewestAgain_X8_checkTable : GoodIn wsX8_fewestAgain wsX8_checkTable := goodIn_ca (goodIn_r _ [7, 8, 9, 10, 11, 6, 12] (by decide +kernel) (by decide +kernel)) (goodIn_sub (fun _ h => List.mem_cons_of_mem _ (List.mem_append_left _ (List.mem_append_right _ h))) (by decide +kernel))
set_option maxRecDepth 20000 in
theorem gX8_fewestAgain_X8_checkTable : GoodIn wsX8_fewestAgain (wsV RX8 144 RX8 yX8_checkTable wsX8_checkTable) := goodIn_app (goodIn_of _ (by decide +kernel)) ggX8_fewestAgain_X8_checkTable
set_option maxRecDepth 20000 in
theorem ggX8_fewestAgain_X8_heard : GoodIn wsX8_fewestAgain wsX8_heard := goodIn_ca (goodIn_r _ [16, 17, 18, 19, 20, 21, 22, 23, 24, 25, 26, 27, 28, 29, 30, 31, 32, 33, 34, 35, 36, 37, 38, 39, 40, 41, 42, 43, 44, 45, 46, 47, 48, 49, 50, 51, 52, 53, 54, 55, 56, 57, 58, 59, 60, 61, 87, 88, 89, 90, 91, 92, 93, 94, 95, 96, 97, 98, 99, 100, 101, 102, 103, 104, 105, 106] (by decide +kernel) (by decide +kernel)) (goodIn_sub (fun _ h => List.mem_cons_of_mem _ (List.mem_append_right _ h)) (by decide +kernel))
set_option maxRecDepth 20000 in
theorem gX8_fewestAgain_X8_heard : GoodIn wsX8_fewestAgain (wsV RX8 151 RX8 yX8_heard wsX8_heard) := goodIn_app (goodIn_of _ (by decide +kernel)) ggX8_fewestAgain_X8_heard
set_option maxRecDepth 20000 in
theorem ggX8_fewestAgain_X4_fewestByPoints : GoodIn wsX8_fewestAgain wsX4_fewestByPoints := goodIn_ca (goodIn_r _ [65, 66, 24, 67, 68, 69, 70, 71, 72, 73, 22, 74, 26, 75, 76, 77, 78, 79, 80, 81, 82, 83, 84, 85, 86, 99, 100, 101, 102, 103, 104, 105] (by decide +kernel) (by decide +kernel)) (goodIn_sub (fun _ h => List.mem_cons_of_mem _ (List.mem_append_right _ h)) (by decide +kernel))
set_option maxRecDepth 20000 in
theorem gX8_fewestAgain_X4_fewestByPoints : GoodIn wsX8_fewestAgain (wsV RX8 227 RX4 yX4_fewestByPoints wsX4_fewestByPoints) := goodIn_app (goodIn_of _ (by decide +kernel)) ggX8_fewestAgain_X4_fewestByPoints
theorem dX8_fewestAgain_0 : decode cX8_fewestAgain 0 = .ok (.aload_n 0, 1) := by decide +kernel
theorem dX8_fewestAgain_1 : decode cX8_fewestAgain 1 = .ok (.iload_n 1, 1) := by decide +kernel
theorem dX8_fewestAgain_2 : decode cX8_fewestAgain 2 = .ok (.invokevirtual 144, 3) := by decide +kernel
theorem dX8_fewestAgain_5 : decode cX8_fewestAgain 5 = .ok (.aload_n 0, 1) := by decide +kernel
theorem dX8_fewestAgain_6 : decode cX8_fewestAgain 6 = .ok (.iload_n 1, 1) := by decide +kernel
theorem dX8_fewestAgain_7 : decode cX8_fewestAgain 7 = .ok (.invokevirtual 151, 3) := by decide +kernel
theorem dX8_fewestAgain_10 : decode cX8_fewestAgain 10 = .ok (.invokevirtual 227, 3) := by decide +kernel
theorem dX8_fewestAgain_13 : decode cX8_fewestAgain 13 = .ok (.istore_n 2, 1) := by decide +kernel
theorem dX8_fewestAgain_14 : decode cX8_fewestAgain 14 = .ok (.iload_n 2, 1) := by decide +kernel
theorem dX8_fewestAgain_15 : decode cX8_fewestAgain 15 = .ok (.iconst (-1), 1) := by decide +kernel
theorem dX8_fewestAgain_16 : decode cX8_fewestAgain 16 = .ok (.if_icmp .ne 13, 3) := by decide +kernel
theorem dX8_fewestAgain_19 : decode cX8_fewestAgain 19 = .ok (.new 176, 3) := by decide +kernel
theorem dX8_fewestAgain_22 : decode cX8_fewestAgain 22 = .ok (.dup, 1) := by decide +kernel
theorem dX8_fewestAgain_23 : decode cX8_fewestAgain 23 = .ok (.ldc 225, 2) := by decide +kernel
theorem dX8_fewestAgain_25 : decode cX8_fewestAgain 25 = .ok (.invokespecial 180, 3) := by decide +kernel
theorem dX8_fewestAgain_28 : decode cX8_fewestAgain 28 = .ok (.athrow, 1) := by decide +kernel
theorem dX8_fewestAgain_29 : decode cX8_fewestAgain 29 = .ok (.iload_n 2, 1) := by decide +kernel
theorem dX8_fewestAgain_30 : decode cX8_fewestAgain 30 = .ok (.ireturn, 1) := by decide +kernel
set_option maxRecDepth 20000 in
theorem ggX8_doubt_X8_checkTable : GoodIn wsX8_doubt wsX8_checkTable := goodIn_ca (goodIn_r _ [5, 6, 7, 8, 9, 4, 10] (by decide +kernel) (by decide +kernel)) (goodIn_sub (fun _ h => List.mem_cons_of_mem _ (List.mem_append_left _ (List.mem_append_right _ h))) (by decide +kernel))
set_option maxRecDepth 20000 in
theorem gX8_doubt_X8_checkTable : GoodIn wsX8_doubt (wsV RX8 144 RX8 yX8_checkTable wsX8_checkTable) := goodIn_app (goodIn_of _ (by decide +kernel)) ggX8_doubt_X8_checkTable
set_option maxRecDepth 20000 in
theorem ggX8_doubt_X8_heard : GoodIn wsX8_doubt wsX8_heard := goodIn_ca (goodIn_r _ [14, 15, 16, 17, 18, 19, 20, 21, 22, 23, 24, 25, 26, 27, 28, 29, 30, 31, 32, 33, 34, 35, 36, 37, 38, 39, 40, 41, 42, 43, 44, 45, 46, 47, 48, 49, 50, 51, 52, 53, 54, 55, 56, 57, 58, 59, 72, 73, 74, 75, 76, 77, 78, 79, 80, 81, 82, 83, 84, 85, 86, 87, 88, 89, 90, 91] (by decide +kernel) (by decide +kernel)) (goodIn_sub (fun _ h => List.mem_cons_of_mem _ (List.mem_append_right _ h)) (by decide +kernel))
set_option maxRecDepth 20000 in
theorem gX8_doubt_X8_heard : GoodIn wsX8_doubt (wsV RX8 151 RX8 yX8_heard wsX8_heard) := goodIn_app (goodIn_of _ (by decide +kernel)) ggX8_doubt_X8_heard
set_option maxRecDepth 20000 in
theorem ggX8_doubt_X4_doubtByNapkins : GoodIn wsX8_doubt wsX4_doubtByNapkins := goodIn_ca (goodIn_r _ [63, 22, 64, 65, 66, 20, 67, 26, 68, 69, 70, 71, 84, 85, 86, 87, 88, 89, 90] (by decide +kernel) (by decide +kernel)) (goodIn_sub (fun _ h => List.mem_cons_of_mem _ (List.mem_append_right _ h)) (by decide +kernel))
set_option maxRecDepth 20000 in
theorem gX8_doubt_X4_doubtByNapkins : GoodIn wsX8_doubt (wsV RX8 230 RX4 yX4_doubtByNapkins wsX4_doubtByNapkins) := goodIn_app (goodIn_of _ (by decide +kernel)) ggX8_doubt_X4_doubtByNapkins
theorem dX8_doubt_0 : decode cX8_doubt 0 = .ok (.aload_n 0, 1) := by decide +kernel
theorem dX8_doubt_1 : decode cX8_doubt 1 = .ok (.iload_n 1, 1) := by decide +kernel
theorem dX8_doubt_2 : decode cX8_doubt 2 = .ok (.invokevirtual 144, 3) := by decide +kernel
theorem dX8_doubt_5 : decode cX8_doubt 5 = .ok (.aload_n 0, 1) := by decide +kernel
theorem dX8_doubt_6 : decode cX8_doubt 6 = .ok (.iload_n 1, 1) := by decide +kernel
theorem dX8_doubt_7 : decode cX8_doubt 7 = .ok (.invokevirtual 151, 3) := by decide +kernel
theorem dX8_doubt_10 : decode cX8_doubt 10 = .ok (.invokevirtual 230, 3) := by decide +kernel
theorem dX8_doubt_13 : decode cX8_doubt 13 = .ok (.ireturn, 1) := by decide +kernel
set_option maxRecDepth 20000 in
theorem ggX8_sure_X8_checkTable : GoodIn wsX8_sure wsX8_checkTable := goodIn_ca (goodIn_r _ [9, 10, 11, 12, 13, 8, 14] (by decide +kernel) (by decide +kernel)) (goodIn_sub (fun _ h => List.mem_cons_of_mem _ (List.mem_append_left _ (List.mem_append_right _ h))) (by decide +kernel))
set_option maxRecDepth 20000 in
theorem gX8_sure_X8_checkTable : GoodIn wsX8_sure (wsV RX8 144 RX8 yX8_checkTable wsX8_checkTable) := goodIn_app (goodIn_of _ (by decide +kernel)) ggX8_sure_X8_checkTable
set_option maxRecDepth 20000 in
theorem ggX8_sure_X8_heard : GoodIn wsX8_sure wsX8_heard := goodIn_ca (goodIn_r _ [18, 19, 20, 21, 22, 23, 24, 25, 26, 27, 28, 29, 30, 31, 32, 33, 34, 35, 36, 37, 38, 39, 40, 41, 42, 43, 44, 45, 46, 47, 48, 49, 50, 51, 52, 53, 54, 55, 56, 57, 58, 59, 60, 61, 62, 63, 80, 81, 82, 83, 84, 85, 86, 87, 88, 89, 90, 91, 92, 93, 94, 95, 96, 97, 98, 99] (by decide +kernel) (by decide +kernel)) (goodIn_sub (fun _ h => List.mem_cons_of_mem _ (List.mem_append_right _ h)) (by decide +kernel))
set_option maxRecDepth 20000 in
theorem gX8_sure_X8_heard : GoodIn wsX8_sure (wsV RX8 151 RX8 yX8_heard wsX8_heard) := goodIn_app (goodIn_of _ (by decide +kernel)) ggX8_sure_X8_heard
set_option maxRecDepth 20000 in
theorem ggX8_sure_X4_size : GoodIn wsX8_sure wsX4_size := goodIn_r _ [67, 26, 92, 93, 94, 95, 96, 97, 98] (by decide +kernel) (by decide +kernel)
set_option maxRecDepth 20000 in
theorem gX8_sure_X4_size : GoodIn wsX8_sure (wsV RX8 155 RX4 yX4_size wsX4_size) := goodIn_app (goodIn_of _ (by decide +kernel)) ggX8_sure_X4_size
set_option maxRecDepth 20000 in
theorem ggX8_sure_X4_doubtByNapkins : GoodIn wsX8_sure wsX4_doubtByNapkins := goodIn_ca (goodIn_r _ [71, 26, 72, 73, 74, 24, 75, 30, 76, 77, 78, 79, 92, 93, 94, 95, 96, 97, 98] (by decide +kernel) (by decide +kernel)) (goodIn_sub (fun _ h => List.mem_cons_of_mem _ (List.mem_append_right _ h)) (by decide +kernel))
set_option maxRecDepth 20000 in
theorem gX8_sure_X4_doubtByNapkins : GoodIn wsX8_sure (wsV RX8 230 RX4 yX4_doubtByNapkins wsX4_doubtByNapkins) := goodIn_app (goodIn_of _ (by decide +kernel)) ggX8_sure_X4_doubtByNapkins
theorem dX8_sure_0 : decode cX8_sure 0 = .ok (.aload_n 0, 1) := by decide +kernel
theorem dX8_sure_1 : decode cX8_sure 1 = .ok (.iload_n 1, 1) := by decide +kernel
theorem dX8_sure_2 : decode cX8_sure 2 = .ok (.invokevirtual 144, 3) := by decide +kernel
theorem dX8_sure_5 : decode cX8_sure 5 = .ok (.aload_n 0, 1) := by decide +kernel
theorem dX8_sure_6 : decode cX8_sure 6 = .ok (.iload_n 1, 1) := by decide +kernel
theorem dX8_sure_7 : decode cX8_sure 7 = .ok (.invokevirtual 151, 3) := by decide +kernel
theorem dX8_sure_10 : decode cX8_sure 10 = .ok (.astore_n 2, 1) := by decide +kernel
theorem dX8_sure_11 : decode cX8_sure 11 = .ok (.aload_n 2, 1) := by decide +kernel
theorem dX8_sure_12 : decode cX8_sure 12 = .ok (.invokevirtual 155, 3) := by decide +kernel
theorem dX8_sure_15 : decode cX8_sure 15 = .ok (.ifCond .ne 13, 3) := by decide +kernel
theorem dX8_sure_18 : decode cX8_sure 18 = .ok (.new 236, 3) := by decide +kernel
theorem dX8_sure_21 : decode cX8_sure 21 = .ok (.dup, 1) := by decide +kernel
theorem dX8_sure_22 : decode cX8_sure 22 = .ok (.ldc 238, 2) := by decide +kernel
theorem dX8_sure_24 : decode cX8_sure 24 = .ok (.invokespecial 240, 3) := by decide +kernel
theorem dX8_sure_27 : decode cX8_sure 27 = .ok (.athrow, 1) := by decide +kernel
theorem dX8_sure_28 : decode cX8_sure 28 = .ok (.aload_n 2, 1) := by decide +kernel
theorem dX8_sure_29 : decode cX8_sure 29 = .ok (.invokevirtual 155, 3) := by decide +kernel
theorem dX8_sure_32 : decode cX8_sure 32 = .ok (.i2f, 1) := by decide +kernel
theorem dX8_sure_33 : decode cX8_sure 33 = .ok (.fstore_n 3, 1) := by decide +kernel
theorem dX8_sure_34 : decode cX8_sure 34 = .ok (.aload_n 2, 1) := by decide +kernel
theorem dX8_sure_35 : decode cX8_sure 35 = .ok (.invokevirtual 230, 3) := by decide +kernel
theorem dX8_sure_38 : decode cX8_sure 38 = .ok (.i2f, 1) := by decide +kernel
theorem dX8_sure_39 : decode cX8_sure 39 = .ok (.fstore 4, 2) := by decide +kernel
theorem dX8_sure_41 : decode cX8_sure 41 = .ok (.ldc 241, 2) := by decide +kernel
theorem dX8_sure_43 : decode cX8_sure 43 = .ok (.fload_n 3, 1) := by decide +kernel
theorem dX8_sure_44 : decode cX8_sure 44 = .ok (.fmul, 1) := by decide +kernel
theorem dX8_sure_45 : decode cX8_sure 45 = .ok (.ldc 242, 2) := by decide +kernel
theorem dX8_sure_47 : decode cX8_sure 47 = .ok (.fload 4, 2) := by decide +kernel
theorem dX8_sure_49 : decode cX8_sure 49 = .ok (.fmul, 1) := by decide +kernel
theorem dX8_sure_50 : decode cX8_sure 50 = .ok (.fsub, 1) := by decide +kernel
theorem dX8_sure_51 : decode cX8_sure 51 = .ok (.fload_n 3, 1) := by decide +kernel
theorem dX8_sure_52 : decode cX8_sure 52 = .ok (.fdiv, 1) := by decide +kernel
theorem dX8_sure_53 : decode cX8_sure 53 = .ok (.f2i, 1) := by decide +kernel
theorem dX8_sure_54 : decode cX8_sure 54 = .ok (.ireturn, 1) := by decide +kernel
set_option maxRecDepth 20000 in
theorem ggX8_clearest_X8_tablesAheadOf : GoodIn wsX8_clearest wsX8_tablesAheadOf := goodIn_ca (goodIn_r _ [7, 8, 9, 10, 6, 11, 12, 13, 14, 15, 16, 17, 18, 19, 20, 21, 22, 23, 24, 25, 26, 27, 28, 29, 30, 31, 32, 33, 34, 35, 36, 37, 38, 39, 40, 41, 42, 43, 44, 45, 46, 47, 48, 49, 50, 51, 52, 53, 54, 55, 56, 57, 58, 59, 60, 61, 62, 63, 64, 65, 66, 67, 68, 69, 70, 71, 72, 73, 74, 75, 76, 77, 78, 79, 80, 81, 82, 83, 84, 85, 86, 87, 88, 89, 90, 91, 92, 93, 94, 95, 96, 97, 98, 99, 100, 101, 102, 103, 104, 105, 106, 107, 108, 109, 110, 111, 112, 113, 114] (by decide +kernel) (by decide +kernel)) (goodIn_sub (fun _ h => List.mem_cons_of_mem _ (List.mem_append_right _ h)) (by decide +kernel))
set_option maxRecDepth 20000 in
theorem gX8_clearest_X8_tablesAheadOf : GoodIn wsX8_clearest (wsV RX8 243 RX8 yX8_tablesAheadOf wsX8_tablesAheadOf) := goodIn_app (goodIn_of _ (by decide +kernel)) ggX8_clearest_X8_tablesAheadOf
theorem dX8_clearest_0 : decode cX8_clearest 0 = .ok (.iconst 0, 1) := by decide +kernel
theorem dX8_clearest_1 : decode cX8_clearest 1 = .ok (.istore_n 2, 1) := by decide +kernel
theorem dX8_clearest_2 : decode cX8_clearest 2 = .ok (.iload_n 2, 1) := by decide +kernel
theorem dX8_clearest_3 : decode cX8_clearest 3 = .ok (.iconst 3, 1) := by decide +kernel
theorem dX8_clearest_4 : decode cX8_clearest 4 = .ok (.if_icmp .ge 20, 3) := by decide +kernel
theorem dX8_clearest_7 : decode cX8_clearest 7 = .ok (.aload_n 0, 1) := by decide +kernel
theorem dX8_clearest_8 : decode cX8_clearest 8 = .ok (.iload_n 2, 1) := by decide +kernel
theorem dX8_clearest_9 : decode cX8_clearest 9 = .ok (.invokevirtual 243, 3) := by decide +kernel
theorem dX8_clearest_12 : decode cX8_clearest 12 = .ok (.iload_n 1, 1) := by decide +kernel
theorem dX8_clearest_13 : decode cX8_clearest 13 = .ok (.if_icmp .ne 5, 3) := by decide +kernel
theorem dX8_clearest_16 : decode cX8_clearest 16 = .ok (.iload_n 2, 1) := by decide +kernel
theorem dX8_clearest_17 : decode cX8_clearest 17 = .ok (.ireturn, 1) := by decide +kernel
theorem dX8_clearest_18 : decode cX8_clearest 18 = .ok (.iinc 2 1, 3) := by decide +kernel
theorem dX8_clearest_21 : decode cX8_clearest 21 = .ok (.goto (-19), 3) := by decide +kernel
theorem dX8_clearest_24 : decode cX8_clearest 24 = .ok (.new 176, 3) := by decide +kernel
theorem dX8_clearest_27 : decode cX8_clearest 27 = .ok (.dup, 1) := by decide +kernel
theorem dX8_clearest_28 : decode cX8_clearest 28 = .ok (.ldc 178, 2) := by decide +kernel
theorem dX8_clearest_30 : decode cX8_clearest 30 = .ok (.invokespecial 180, 3) := by decide +kernel
theorem dX8_clearest_33 : decode cX8_clearest 33 = .ok (.athrow, 1) := by decide +kernel
set_option maxRecDepth 20000 in
theorem ggX8_worn_X6_napkins : GoodIn wsX8_worn wsX6_napkins := goodIn_ca (goodIn_r _ [8, 9, 43] (by decide +kernel) (by decide +kernel)) (goodIn_sub (fun _ h => List.mem_cons_of_mem _ (List.mem_append_right _ h)) (by decide +kernel))
set_option maxRecDepth 20000 in
theorem gX8_worn_X6_napkins : GoodIn wsX8_worn (wsV RX8 246 RX6 yX6_napkins wsX6_napkins) := goodIn_app (goodIn_of _ (by decide +kernel)) ggX8_worn_X6_napkins
set_option maxRecDepth 20000 in
theorem ggX8_worn_X8_napkinsAheadOf : GoodIn wsX8_worn wsX8_napkinsAheadOf := goodIn_ca (goodIn_r _ [14, 3, 4, 5, 6, 7, 8, 9, 15, 16, 17, 13, 18, 19, 20, 21, 22, 23, 24, 25, 26, 27, 28, 29, 30, 31, 32, 33, 34, 35, 36, 37, 38, 39, 40, 41, 42, 43] (by decide +kernel) (by decide +kernel)) (goodIn_sub (fun _ h => List.mem_cons_of_mem _ (List.mem_append_right _ h)) (by decide +kernel))
set_option maxRecDepth 20000 in
theorem gX8_worn_X8_napkinsAheadOf : GoodIn wsX8_worn (wsV RX8 249 RX8 yX8_napkinsAheadOf wsX8_napkinsAheadOf) := goodIn_app (goodIn_of _ (by decide +kernel)) ggX8_worn_X8_napkinsAheadOf
theorem dX8_worn_0 : decode cX8_worn 0 = .ok (.iconst 0, 1) := by decide +kernel
theorem dX8_worn_1 : decode cX8_worn 1 = .ok (.istore_n 2, 1) := by decide +kernel
theorem dX8_worn_2 : decode cX8_worn 2 = .ok (.iload_n 2, 1) := by decide +kernel
theorem dX8_worn_3 : decode cX8_worn 3 = .ok (.aload_n 0, 1) := by decide +kernel
theorem dX8_worn_4 : decode cX8_worn 4 = .ok (.getfield 20, 3) := by decide +kernel
theorem dX8_worn_7 : decode cX8_worn 7 = .ok (.invokevirtual 246, 3) := by decide +kernel
theorem dX8_worn_10 : decode cX8_worn 10 = .ok (.if_icmp .ge 20, 3) := by decide +kernel
theorem dX8_worn_13 : decode cX8_worn 13 = .ok (.aload_n 0, 1) := by decide +kernel
theorem dX8_worn_14 : decode cX8_worn 14 = .ok (.iload_n 2, 1) := by decide +kernel
theorem dX8_worn_15 : decode cX8_worn 15 = .ok (.invokevirtual 249, 3) := by decide +kernel
theorem dX8_worn_18 : decode cX8_worn 18 = .ok (.iload_n 1, 1) := by decide +kernel
theorem dX8_worn_19 : decode cX8_worn 19 = .ok (.if_icmp .ne 5, 3) := by decide +kernel
theorem dX8_worn_22 : decode cX8_worn 22 = .ok (.iload_n 2, 1) := by decide +kernel
theorem dX8_worn_23 : decode cX8_worn 23 = .ok (.ireturn, 1) := by decide +kernel
theorem dX8_worn_24 : decode cX8_worn 24 = .ok (.iinc 2 1, 3) := by decide +kernel
theorem dX8_worn_27 : decode cX8_worn 27 = .ok (.goto (-25), 3) := by decide +kernel
theorem dX8_worn_30 : decode cX8_worn 30 = .ok (.new 176, 3) := by decide +kernel
theorem dX8_worn_33 : decode cX8_worn 33 = .ok (.dup, 1) := by decide +kernel
theorem dX8_worn_34 : decode cX8_worn 34 = .ok (.ldc 178, 2) := by decide +kernel
theorem dX8_worn_36 : decode cX8_worn 36 = .ok (.invokespecial 180, 3) := by decide +kernel
theorem dX8_worn_39 : decode cX8_worn 39 = .ok (.athrow, 1) := by decide +kernel
set_option maxRecDepth 20000 in
theorem ggX8_isWell_X8_heard : GoodIn wsX8_isWell wsX8_heard := goodIn_ca (goodIn_r _ [6, 7, 1, 8, 9, 10, 11, 12, 13, 14, 15, 16, 17, 18, 19, 20, 21, 22, 23, 24, 25, 26, 27, 28, 29, 30, 31, 32, 33, 34, 35, 36, 37, 38, 39, 40, 41, 42, 43, 44, 45, 46, 47, 48, 49, 50, 152, 153, 154, 155, 156, 157, 158, 159, 160, 161, 162, 163, 164, 165, 166, 167, 168, 169, 170, 171] (by decide +kernel) (by decide +kernel)) (goodIn_sub (fun _ h => List.mem_cons_of_mem _ (List.mem_append_right _ h)) (by decide +kernel))
set_option maxRecDepth 20000 in
theorem gX8_isWell_X8_heard : GoodIn wsX8_isWell (wsV RX8 151 RX8 yX8_heard wsX8_heard) := goodIn_app (goodIn_of _ (by decide +kernel)) ggX8_isWell_X8_heard
set_option maxRecDepth 20000 in
theorem ggX8_isWell_X4_isToldAlike : GoodIn wsX8_isWell wsX4_isToldAlike := goodIn_ca (goodIn_r _ [54, 55, 56, 57, 11, 58, 13, 59, 60, 61, 62, 15, 63, 64, 65, 66, 67, 68, 69, 70, 71, 72, 73, 74, 75, 76, 77, 78, 79, 80, 81, 82, 83, 84, 85, 86, 87, 88, 89, 90, 91, 92, 93, 94, 95, 96, 97, 98, 99, 100, 101, 102, 103, 104, 105, 106, 107, 108, 109, 110, 111, 112, 113, 114, 115, 116, 117, 118, 119, 120, 121, 122, 123, 124, 125, 17, 126, 127, 128, 129, 130, 131, 132, 133, 134, 135, 136, 137, 164, 165, 166, 167, 168, 169, 170] (by decide +kernel) (by decide +kernel)) (goodIn_sub (fun _ h => List.mem_cons_of_mem _ (List.mem_append_right _ h)) (by decide +kernel))
set_option maxRecDepth 20000 in
theorem gX8_isWell_X4_isToldAlike : GoodIn wsX8_isWell (wsV RX8 252 RX4 yX4_isToldAlike wsX4_isToldAlike) := goodIn_app (goodIn_of _ (by decide +kernel)) ggX8_isWell_X4_isToldAlike
set_option maxRecDepth 20000 in
theorem ggX8_isWell_X4_countOf : GoodIn wsX8_isWell wsX4_countOf := goodIn_ca (goodIn_r _ [141, 13, 59, 60, 61, 11, 62, 15, 164, 165, 166, 167, 168, 169, 170] (by decide +kernel) (by decide +kernel)) (goodIn_sub (fun _ h => List.mem_cons_of_mem _ (List.mem_append_right _ h)) (by decide +kernel))
set_option maxRecDepth 20000 in
theorem gX8_isWell_X4_countOf : GoodIn wsX8_isWell (wsV RX8 161 RX4 yX4_countOf wsX4_countOf) := goodIn_app (goodIn_of _ (by decide +kernel)) ggX8_isWell_X4_countOf
set_option maxRecDepth 20000 in
theorem ggX8_isWell_X6_napkins : GoodIn wsX8_isWell wsX6_napkins := goodIn_ca (goodIn_r _ [145, 27, 171] (by decide +kernel) (by decide +kernel)) (goodIn_sub (fun _ h => List.mem_cons_of_mem _ (List.mem_append_right _ h)) (by decide +kernel))
set_option maxRecDepth 20000 in
theorem gX8_isWell_X6_napkins : GoodIn wsX8_isWell (wsV RX8 246 RX6 yX6_napkins wsX6_napkins) := goodIn_app (goodIn_of _ (by decide +kernel)) ggX8_isWell_X6_napkins
set_option maxRecDepth 20000 in
theorem ggX8_isWell_X6_placesUnder : GoodIn wsX8_isWell wsX6_placesUnder := goodIn_ca (goodIn_r _ [149, 150, 19, 20, 21, 22, 23, 24, 25, 26, 27, 151, 29, 30, 31, 32, 33, 34, 171] (by decide +kernel) (by decide +kernel)) (goodIn_sub (fun _ h => List.mem_cons_of_mem _ (List.mem_append_right _ h)) (by decide +kernel))
set_option maxRecDepth 20000 in
theorem gX8_isWell_X6_placesUnder : GoodIn wsX8_isWell (wsV RX8 255 RX6 yX6_placesUnder wsX6_placesUnder) := goodIn_app (goodIn_of _ (by decide +kernel)) ggX8_isWell_X6_placesUnder
theorem dX8_isWell_0 : decode cX8_isWell 0 = .ok (.iconst 0, 1) := by decide +kernel
theorem dX8_isWell_1 : decode cX8_isWell 1 = .ok (.istore_n 1, 1) := by decide +kernel
theorem dX8_isWell_2 : decode cX8_isWell 2 = .ok (.iload_n 1, 1) := by decide +kernel
theorem dX8_isWell_3 : decode cX8_isWell 3 = .ok (.iconst 3, 1) := by decide +kernel
theorem dX8_isWell_4 : decode cX8_isWell 4 = .ok (.if_icmp .ge 32, 3) := by decide +kernel
theorem dX8_isWell_7 : decode cX8_isWell 7 = .ok (.aload_n 0, 1) := by decide +kernel
theorem dX8_isWell_8 : decode cX8_isWell 8 = .ok (.iload_n 1, 1) := by decide +kernel
theorem dX8_isWell_9 : decode cX8_isWell 9 = .ok (.invokevirtual 151, 3) := by decide +kernel
theorem dX8_isWell_12 : decode cX8_isWell 12 = .ok (.astore_n 2, 1) := by decide +kernel
theorem dX8_isWell_13 : decode cX8_isWell 13 = .ok (.aload_n 2, 1) := by decide +kernel
theorem dX8_isWell_14 : decode cX8_isWell 14 = .ok (.invokevirtual 252, 3) := by decide +kernel
theorem dX8_isWell_17 : decode cX8_isWell 17 = .ok (.ifCond .eq 11, 3) := by decide +kernel
theorem dX8_isWell_20 : decode cX8_isWell 20 = .ok (.aload_n 2, 1) := by decide +kernel
theorem dX8_isWell_21 : decode cX8_isWell 21 = .ok (.iconst 0, 1) := by decide +kernel
theorem dX8_isWell_22 : decode cX8_isWell 22 = .ok (.invokevirtual 161, 3) := by decide +kernel
theorem dX8_isWell_25 : decode cX8_isWell 25 = .ok (.ifCond .eq 5, 3) := by decide +kernel
theorem dX8_isWell_28 : decode cX8_isWell 28 = .ok (.iconst 0, 1) := by decide +kernel
theorem dX8_isWell_29 : decode cX8_isWell 29 = .ok (.ireturn, 1) := by decide +kernel
theorem dX8_isWell_30 : decode cX8_isWell 30 = .ok (.iinc 1 1, 3) := by decide +kernel
theorem dX8_isWell_33 : decode cX8_isWell 33 = .ok (.goto (-31), 3) := by decide +kernel
theorem dX8_isWell_36 : decode cX8_isWell 36 = .ok (.iconst 0, 1) := by decide +kernel
theorem dX8_isWell_37 : decode cX8_isWell 37 = .ok (.istore_n 1, 1) := by decide +kernel
theorem dX8_isWell_38 : decode cX8_isWell 38 = .ok (.iload_n 1, 1) := by decide +kernel
theorem dX8_isWell_39 : decode cX8_isWell 39 = .ok (.aload_n 0, 1) := by decide +kernel
theorem dX8_isWell_40 : decode cX8_isWell 40 = .ok (.getfield 20, 3) := by decide +kernel
theorem dX8_isWell_43 : decode cX8_isWell 43 = .ok (.invokevirtual 246, 3) := by decide +kernel
theorem dX8_isWell_46 : decode cX8_isWell 46 = .ok (.if_icmp .ge 23, 3) := by decide +kernel
theorem dX8_isWell_49 : decode cX8_isWell 49 = .ok (.aload_n 0, 1) := by decide +kernel
theorem dX8_isWell_50 : decode cX8_isWell 50 = .ok (.getfield 20, 3) := by decide +kernel
theorem dX8_isWell_53 : decode cX8_isWell 53 = .ok (.iload_n 1, 1) := by decide +kernel
theorem dX8_isWell_54 : decode cX8_isWell 54 = .ok (.invokevirtual 255, 3) := by decide +kernel
theorem dX8_isWell_57 : decode cX8_isWell 57 = .ok (.iconst 1, 1) := by decide +kernel
theorem dX8_isWell_58 : decode cX8_isWell 58 = .ok (.if_icmp .le 5, 3) := by decide +kernel
theorem dX8_isWell_61 : decode cX8_isWell 61 = .ok (.iconst 0, 1) := by decide +kernel
theorem dX8_isWell_62 : decode cX8_isWell 62 = .ok (.ireturn, 1) := by decide +kernel
theorem dX8_isWell_63 : decode cX8_isWell 63 = .ok (.iinc 1 1, 3) := by decide +kernel
theorem dX8_isWell_66 : decode cX8_isWell 66 = .ok (.goto (-28), 3) := by decide +kernel
theorem dX8_isWell_69 : decode cX8_isWell 69 = .ok (.iconst 1, 1) := by decide +kernel
theorem dX8_isWell_70 : decode cX8_isWell 70 = .ok (.ireturn, 1) := by decide +kernel
set_option maxRecDepth 20000 in
theorem ggX8_type_X7_isFull : GoodIn wsX8_type wsX7_isFull := goodIn_r _ [8, 9, 31, 32] (by decide +kernel) (by decide +kernel)
set_option maxRecDepth 20000 in
theorem gX8_type_X7_isFull : GoodIn wsX8_type (wsV RX8 258 RX7 yX7_isFull wsX7_isFull) := goodIn_app (goodIn_of _ (by decide +kernel)) ggX8_type_X7_isFull
set_option maxRecDepth 20000 in
theorem ggX8_type_X7_append : GoodIn wsX8_type wsX7_append := goodIn_ca (goodIn_r _ [13, 9, 14, 31, 32] (by decide +kernel) (by decide +kernel)) (goodIn_sub (fun _ h => List.mem_cons_of_mem _ (List.mem_append_right _ h)) (by decide +kernel))
set_option maxRecDepth 20000 in
theorem gX8_type_X7_append : GoodIn wsX8_type (wsV RX8 266 RX7 yX7_append wsX7_append) := goodIn_app (goodIn_of _ (by decide +kernel)) ggX8_type_X7_append
set_option maxRecDepth 20000 in
theorem ggX8_type_X7_length : GoodIn wsX8_type wsX7_length := goodIn_r _ [18, 9, 31, 32] (by decide +kernel) (by decide +kernel)
set_option maxRecDepth 20000 in
theorem gX8_type_X7_length : GoodIn wsX8_type (wsV RX8 270 RX7 yX7_length wsX7_length) := goodIn_app (goodIn_of _ (by decide +kernel)) ggX8_type_X7_length
theorem dX8_type_0 : decode cX8_type 0 = .ok (.aload_n 0, 1) := by decide +kernel
theorem dX8_type_1 : decode cX8_type 1 = .ok (.getfield 38, 3) := by decide +kernel
theorem dX8_type_4 : decode cX8_type 4 = .ok (.invokevirtual 258, 3) := by decide +kernel
theorem dX8_type_7 : decode cX8_type 7 = .ok (.ifCond .eq 14, 3) := by decide +kernel
theorem dX8_type_10 : decode cX8_type 10 = .ok (.new 261, 3) := by decide +kernel
theorem dX8_type_13 : decode cX8_type 13 = .ok (.dup, 1) := by decide +kernel
theorem dX8_type_14 : decode cX8_type 14 = .ok (.ldc_w 263, 3) := by decide +kernel
theorem dX8_type_17 : decode cX8_type 17 = .ok (.invokespecial 265, 3) := by decide +kernel
theorem dX8_type_20 : decode cX8_type 20 = .ok (.athrow, 1) := by decide +kernel
theorem dX8_type_21 : decode cX8_type 21 = .ok (.aload_n 0, 1) := by decide +kernel
theorem dX8_type_22 : decode cX8_type 22 = .ok (.getfield 38, 3) := by decide +kernel
theorem dX8_type_25 : decode cX8_type 25 = .ok (.iload_n 1, 1) := by decide +kernel
theorem dX8_type_26 : decode cX8_type 26 = .ok (.invokevirtual 266, 3) := by decide +kernel
theorem dX8_type_29 : decode cX8_type 29 = .ok (.aload_n 0, 1) := by decide +kernel
theorem dX8_type_30 : decode cX8_type 30 = .ok (.getfield 38, 3) := by decide +kernel
theorem dX8_type_33 : decode cX8_type 33 = .ok (.invokevirtual 270, 3) := by decide +kernel
theorem dX8_type_36 : decode cX8_type 36 = .ok (.ireturn, 1) := by decide +kernel
set_option maxRecDepth 20000 in
theorem ggX8_read_X7_errorAt : GoodIn wsX8_read wsX7_errorAt := goodIn_ca (goodIn_r _ [19, 20, 21, 22, 23, 18, 24, 25, 26, 27, 28, 29, 30, 31, 32, 33, 34, 35, 36, 37, 38, 39, 40, 41, 42, 43, 44, 45, 46, 47, 48, 49, 50, 51, 52, 53, 54, 55, 56, 57, 58, 59, 60, 61, 62, 63, 64, 65, 66, 67, 68, 69, 70, 71, 72, 73, 74, 75, 76, 77, 78, 79, 80, 81, 82, 83, 84, 85, 86, 87, 88, 89, 90, 91, 92, 93, 94, 95, 96, 97, 98, 99, 100, 101, 102, 103, 104, 105, 106, 11, 12, 13, 397, 398, 399, 400, 401, 402] (by decide +kernel) (by decide +kernel)) (goodIn_sub (fun _ h => List.mem_cons_of_mem _ (List.mem_append_right _ h)) (by decide +kernel))
set_option maxRecDepth 20000 in
theorem gX8_read_X7_errorAt : GoodIn wsX8_read (wsV RX8 273 RX7 yX7_errorAt wsX7_errorAt) := goodIn_app (goodIn_of _ (by decide +kernel)) ggX8_read_X7_errorAt
set_option maxRecDepth 20000 in
theorem ggX8_read_X7_empty : GoodIn wsX8_read wsX7_empty := goodIn_r _ [110, 20, 397, 398] (by decide +kernel) (by decide +kernel)
set_option maxRecDepth 20000 in
theorem gX8_read_X7_empty : GoodIn wsX8_read (wsV RX8 276 RX7 yX7_empty wsX7_empty) := goodIn_app (goodIn_of _ (by decide +kernel)) ggX8_read_X7_empty
set_option maxRecDepth 20000 in
theorem ggX8_read_X6_copyTo : GoodIn wsX8_read wsX6_copyTo := goodIn_r _ [115, 116, 117, 118, 119, 120, 403] (by decide +kernel) (by decide +kernel)
set_option maxRecDepth 20000 in
theorem gX8_read_X6_copyTo : GoodIn wsX8_read (wsV RX8 281 RX6 yX6_copyTo wsX6_copyTo) := goodIn_app (goodIn_of _ (by decide +kernel)) ggX8_read_X6_copyTo
set_option maxRecDepth 20000 in
theorem ggX8_read_X7_commandAt : GoodIn wsX8_read wsX7_commandAt := goodIn_ca (goodIn_r _ [24, 25, 26, 27, 18, 28, 20, 29, 30, 31, 32, 33, 34, 35, 36, 37, 38, 39, 40, 41, 42, 43, 44, 45, 46, 47, 48, 49, 50, 51, 52, 53, 54, 55, 56, 57, 58, 59, 60, 61, 62, 63, 64, 65, 66, 67, 68, 69, 70, 71, 72, 73, 74, 75, 76, 77, 78, 79, 80, 81, 82, 83, 84, 85, 86, 87, 88, 89, 90, 91, 92, 93, 94, 95, 96, 97, 98, 99, 100, 101, 397, 398, 399, 400, 401, 402] (by decide +kernel) (by decide +kernel)) (goodIn_sub (fun _ h => List.mem_cons_of_mem _ (List.mem_append_right _ h)) (by decide +kernel))
set_option maxRecDepth 20000 in
theorem gX8_read_X7_commandAt : GoodIn wsX8_read (wsV RX8 285 RX7 yX7_commandAt wsX7_commandAt) := goodIn_app (goodIn_of _ (by decide +kernel)) ggX8_read_X7_commandAt
set_option maxRecDepth 20000 in
theorem ggX8_read_X7_argument : GoodIn wsX8_read wsX7_argument := goodIn_ca (goodIn_r _ [125, 29, 30, 31, 32, 33, 34, 35, 36, 37, 38, 39, 40, 41, 42, 43, 44, 45, 46, 47, 48, 49, 50, 51, 52, 53, 54, 55, 56, 57, 58, 59, 60, 61, 62, 63, 64, 65, 66, 67, 68, 69, 70, 71, 72, 73, 74, 75, 76, 77, 78, 79, 80, 81, 82, 83, 84, 85, 86, 87, 88, 89, 90, 18, 91, 20, 92, 96, 97, 98, 99, 100, 101, 399, 400, 401, 402, 397, 398] (by decide +kernel) (by decide +kernel)) (goodIn_sub (fun _ h => List.mem_cons_of_mem _ (List.mem_append_right _ h)) (by decide +kernel))
set_option maxRecDepth 20000 in
theorem gX8_read_X7_argument : GoodIn wsX8_read (wsV RX8 289 RX7 yX7_argument wsX7_argument) := goodIn_app (goodIn_of _ (by decide +kernel)) ggX8_read_X7_argument
set_option maxRecDepth 20000 in
theorem ggX8_read_X5_judge : GoodIn wsX8_read wsX5_judge := goodIn_ca (goodIn_r _ [130, 131, 132, 133, 134, 135, 136, 137, 138, 139, 140, 141, 129, 142, 143, 144, 145, 146, 114, 147, 116, 148, 100, 149, 150, 151, 152, 153, 154, 155, 156, 157, 158, 159, 160, 161, 162, 163, 164, 165, 166, 167, 168, 169, 170, 171, 172, 173, 174, 175, 176, 177, 178, 179, 180, 181, 182, 183, 184, 185, 186, 187, 188, 189, 190, 191, 192, 193, 194, 195, 196, 197, 198, 199, 200, 201, 202, 203, 204, 205, 206, 207, 208, 209, 210, 211, 212, 213, 214, 215, 216, 217, 218, 219, 220, 221, 222, 223, 224, 225, 226, 227, 228, 229, 230, 231, 232, 233, 234, 235, 236, 237, 238, 239, 240, 241, 242, 243, 244, 245, 246, 247, 248, 249, 250, 251, 252, 253, 254, 255, 256, 404, 405, 403, 406, 407, 408, 409, 410, 411, 412] (by decide +kernel) (by decide +kernel)) (goodIn_sub (fun _ h => List.mem_cons_of_mem _ (List.mem_append_right _ h)) (by decide +kernel))
set_option maxRecDepth 20000 in
theorem gX8_read_X5_judge : GoodIn wsX8_read (wsV RX8 293 RX5 yX5_judge wsX5_judge) := goodIn_app (goodIn_of _ (by decide +kernel)) ggX8_read_X5_judge
set_option maxRecDepth 20000 in
theorem ggX8_read_X5_carryOut : GoodIn wsX8_read wsX5_carryOut := goodIn_ca (goodIn_r _ [260, 131, 143, 132, 133, 134, 135, 136, 137, 138, 261, 262, 263, 114, 264, 116, 265, 145, 146, 147, 266, 267, 268, 269, 170, 171, 129, 172, 270, 271, 272, 273, 274, 167, 168, 169, 162, 163, 164, 165, 275, 276, 277, 278, 279, 280, 281, 282, 283, 159, 160, 161, 284, 285, 286, 287, 211, 192, 193, 194, 195, 196, 197, 198, 288, 289, 290, 291, 292, 241, 242, 243, 244, 245, 246, 293, 294, 295, 296, 297, 298, 299, 300, 301, 302, 303, 304, 305, 306, 307, 308, 187, 188, 189, 190, 309, 184, 185, 186, 310, 311, 312, 313, 314, 315, 316, 317, 318, 319, 320, 321, 322, 217, 218, 219, 323, 324, 325, 326, 327, 328, 329, 330, 228, 229, 230, 231, 232, 233, 234, 235, 236, 237, 238, 239, 240, 247, 248, 249, 250, 251, 252, 331, 332, 333, 334, 335, 336, 337, 338, 339, 340, 341, 342, 343, 344, 345, 346, 347, 348, 349, 350, 351, 352, 353, 354, 355, 356, 357, 358, 359, 360, 361, 362, 363, 364, 404, 405, 403, 406, 407, 408, 409, 410, 411, 412] (by decide +kernel) (by decide +kernel)) (goodIn_sub (fun _ h => List.mem_cons_of_mem _ (List.mem_append_right _ h)) (by decide +kernel))
set_option maxRecDepth 20000 in
theorem gX8_read_X5_carryOut : GoodIn wsX8_read (wsV RX8 296 RX5 yX5_carryOut wsX5_carryOut) := goodIn_app (goodIn_of _ (by decide +kernel)) ggX8_read_X5_carryOut
set_option maxRecDepth 20000 in
theorem ggX8_read_X1_length : GoodIn wsX8_read wsX1_length := goodIn_r _ [33, 34, 35, 36, 37, 38, 39, 40, 41, 42, 43, 44, 45, 46, 399, 400, 401, 402] (by decide +kernel) (by decide +kernel)
set_option maxRecDepth 20000 in
theorem gX8_read_X1_length : GoodIn wsX8_read (wsV RX8 299 RX1 yX1_length wsX1_length) := goodIn_app (goodIn_of _ (by decide +kernel)) ggX8_read_X1_length
set_option maxRecDepth 20000 in
theorem ggX8_read_X6_copyFrom : GoodIn wsX8_read wsX6_copyFrom := goodIn_r _ [369, 116, 117, 118, 119, 120, 403] (by decide +kernel) (by decide +kernel)
set_option maxRecDepth 20000 in
theorem gX8_read_X6_copyFrom : GoodIn wsX8_read (wsV RX8 300 RX6 yX6_copyFrom wsX6_copyFrom) := goodIn_app (goodIn_of _ (by decide +kernel)) ggX8_read_X6_copyFrom
set_option maxRecDepth 20000 in
theorem ggX8_read_X8_refusedFor : GoodIn wsX8_read wsX8_refusedFor := goodIn_r _ [149] (by decide +kernel) (by decide +kernel)
set_option maxRecDepth 20000 in
theorem gX8_read_X8_refusedFor : GoodIn wsX8_read (va_wsS RX8 303 yX8_refusedFor wsX8_refusedFor) := goodIn_app (goodIn_of _ (by decide +kernel)) ggX8_read_X8_refusedFor
set_option maxRecDepth 20000 in
theorem ggX8_read_X8_refuse : GoodIn wsX8_read wsX8_refuse := goodIn_r _ [374, 375, 376, 385, 386, 387, 388, 389, 390, 391, 392, 393, 394, 395, 396] (by decide +kernel) (by decide +kernel)
set_option maxRecDepth 20000 in
theorem gX8_read_X8_refuse : GoodIn wsX8_read (wsV RX8 311 RX8 yX8_refuse wsX8_refuse) := goodIn_app (goodIn_of _ (by decide +kernel)) ggX8_read_X8_refuse
set_option maxRecDepth 20000 in
theorem ggX8_read_X2_push : GoodIn wsX8_read wsX2_push := goodIn_r _ [381, 382, 383, 384, 118, 119, 120, 413, 414] (by decide +kernel) (by decide +kernel)
set_option maxRecDepth 20000 in
theorem gX8_read_X2_push : GoodIn wsX8_read (wsV RX8 320 RX2 yX2_push wsX2_push) := goodIn_app (goodIn_of _ (by decide +kernel)) ggX8_read_X2_push
theorem dX8_read_0 : decode cX8_read 0 = .ok (.aload_n 0, 1) := by decide +kernel
theorem dX8_read_1 : decode cX8_read 1 = .ok (.getfield 38, 3) := by decide +kernel
theorem dX8_read_4 : decode cX8_read 4 = .ok (.invokevirtual 273, 3) := by decide +kernel
theorem dX8_read_7 : decode cX8_read 7 = .ok (.istore_n 1, 1) := by decide +kernel
theorem dX8_read_8 : decode cX8_read 8 = .ok (.iload_n 1, 1) := by decide +kernel
theorem dX8_read_9 : decode cX8_read 9 = .ok (.iconst (-1), 1) := by decide +kernel
theorem dX8_read_10 : decode cX8_read 10 = .ok (.if_icmp .eq 26, 3) := by decide +kernel
theorem dX8_read_13 : decode cX8_read 13 = .ok (.aload_n 0, 1) := by decide +kernel
theorem dX8_read_14 : decode cX8_read 14 = .ok (.getfield 38, 3) := by decide +kernel
theorem dX8_read_17 : decode cX8_read 17 = .ok (.invokevirtual 276, 3) := by decide +kernel
theorem dX8_read_20 : decode cX8_read 20 = .ok (.aload_n 0, 1) := by decide +kernel
theorem dX8_read_21 : decode cX8_read 21 = .ok (.iload_n 1, 1) := by decide +kernel
theorem dX8_read_22 : decode cX8_read 22 = .ok (.putfield 62, 3) := by decide +kernel
theorem dX8_read_25 : decode cX8_read 25 = .ok (.new 139, 3) := by decide +kernel
theorem dX8_read_28 : decode cX8_read 28 = .ok (.dup, 1) := by decide +kernel
theorem dX8_read_29 : decode cX8_read 29 = .ok (.ldc_w 279, 3) := by decide +kernel
theorem dX8_read_32 : decode cX8_read 32 = .ok (.invokespecial 143, 3) := by decide +kernel
theorem dX8_read_35 : decode cX8_read 35 = .ok (.athrow, 1) := by decide +kernel
theorem dX8_read_36 : decode cX8_read 36 = .ok (.aload_n 0, 1) := by decide +kernel
theorem dX8_read_37 : decode cX8_read 37 = .ok (.getfield 20, 3) := by decide +kernel
theorem dX8_read_40 : decode cX8_read 40 = .ok (.aload_n 0, 1) := by decide +kernel
theorem dX8_read_41 : decode cX8_read 41 = .ok (.getfield 51, 3) := by decide +kernel
theorem dX8_read_44 : decode cX8_read 44 = .ok (.invokevirtual 281, 3) := by decide +kernel
theorem dX8_read_47 : decode cX8_read 47 = .ok (.iconst 0, 1) := by decide +kernel
theorem dX8_read_48 : decode cX8_read 48 = .ok (.istore_n 2, 1) := by decide +kernel
theorem dX8_read_49 : decode cX8_read 49 = .ok (.iconst 0, 1) := by decide +kernel
theorem dX8_read_50 : decode cX8_read 50 = .ok (.istore_n 3, 1) := by decide +kernel
theorem dX8_read_51 : decode cX8_read 51 = .ok (.iconst 0, 1) := by decide +kernel
theorem dX8_read_52 : decode cX8_read 52 = .ok (.istore 4, 2) := by decide +kernel
theorem dX8_read_54 : decode cX8_read 54 = .ok (.aload_n 0, 1) := by decide +kernel
theorem dX8_read_55 : decode cX8_read 55 = .ok (.getfield 38, 3) := by decide +kernel
theorem dX8_read_58 : decode cX8_read 58 = .ok (.iload 4, 2) := by decide +kernel
theorem dX8_read_60 : decode cX8_read 60 = .ok (.invokevirtual 285, 3) := by decide +kernel
theorem dX8_read_63 : decode cX8_read 63 = .ok (.astore 5, 2) := by decide +kernel
theorem dX8_read_65 : decode cX8_read 65 = .ok (.aload 5, 2) := by decide +kernel
theorem dX8_read_67 : decode cX8_read 67 = .ok (.ifnull 120, 3) := by decide +kernel
theorem dX8_read_70 : decode cX8_read 70 = .ok (.iload_n 2, 1) := by decide +kernel
theorem dX8_read_71 : decode cX8_read 71 = .ok (.ifCond .ne 116, 3) := by decide +kernel
theorem dX8_read_74 : decode cX8_read 74 = .ok (.iload_n 3, 1) := by decide +kernel
theorem dX8_read_75 : decode cX8_read 75 = .ok (.bipush 60, 2) := by decide +kernel
theorem dX8_read_77 : decode cX8_read 77 = .ok (.if_icmp .ge 110, 3) := by decide +kernel
theorem dX8_read_80 : decode cX8_read 80 = .ok (.aload_n 0, 1) := by decide +kernel
theorem dX8_read_81 : decode cX8_read 81 = .ok (.getfield 38, 3) := by decide +kernel
theorem dX8_read_84 : decode cX8_read 84 = .ok (.aload 5, 2) := by decide +kernel
theorem dX8_read_86 : decode cX8_read 86 = .ok (.iload 4, 2) := by decide +kernel
theorem dX8_read_88 : decode cX8_read 88 = .ok (.iconst 0, 1) := by decide +kernel
theorem dX8_read_89 : decode cX8_read 89 = .ok (.invokevirtual 289, 3) := by decide +kernel
theorem dX8_read_92 : decode cX8_read 92 = .ok (.istore 6, 2) := by decide +kernel
theorem dX8_read_94 : decode cX8_read 94 = .ok (.aload_n 0, 1) := by decide +kernel
theorem dX8_read_95 : decode cX8_read 95 = .ok (.getfield 38, 3) := by decide +kernel
theorem dX8_read_98 : decode cX8_read 98 = .ok (.aload 5, 2) := by decide +kernel
theorem dX8_read_100 : decode cX8_read 100 = .ok (.iload 4, 2) := by decide +kernel
theorem dX8_read_102 : decode cX8_read 102 = .ok (.iconst 1, 1) := by decide +kernel
theorem dX8_read_103 : decode cX8_read 103 = .ok (.invokevirtual 289, 3) := by decide +kernel
theorem dX8_read_106 : decode cX8_read 106 = .ok (.istore 7, 2) := by decide +kernel
theorem dX8_read_108 : decode cX8_read 108 = .ok (.aload_n 0, 1) := by decide +kernel
theorem dX8_read_109 : decode cX8_read 109 = .ok (.getfield 38, 3) := by decide +kernel
theorem dX8_read_112 : decode cX8_read 112 = .ok (.aload 5, 2) := by decide +kernel
theorem dX8_read_114 : decode cX8_read 114 = .ok (.iload 4, 2) := by decide +kernel
theorem dX8_read_116 : decode cX8_read 116 = .ok (.iconst 2, 1) := by decide +kernel
theorem dX8_read_117 : decode cX8_read 117 = .ok (.invokevirtual 289, 3) := by decide +kernel
theorem dX8_read_120 : decode cX8_read 120 = .ok (.istore 8, 2) := by decide +kernel
theorem dX8_read_122 : decode cX8_read 122 = .ok (.aload_n 0, 1) := by decide +kernel
theorem dX8_read_123 : decode cX8_read 123 = .ok (.getfield 10, 3) := by decide +kernel
theorem dX8_read_126 : decode cX8_read 126 = .ok (.aload 5, 2) := by decide +kernel
theorem dX8_read_128 : decode cX8_read 128 = .ok (.iload 6, 2) := by decide +kernel
theorem dX8_read_130 : decode cX8_read 130 = .ok (.iload 7, 2) := by decide +kernel
theorem dX8_read_132 : decode cX8_read 132 = .ok (.iload 8, 2) := by decide +kernel
theorem dX8_read_134 : decode cX8_read 134 = .ok (.invokevirtual 293, 3) := by decide +kernel
theorem dX8_read_137 : decode cX8_read 137 = .ok (.istore_n 2, 1) := by decide +kernel
theorem dX8_read_138 : decode cX8_read 138 = .ok (.iload_n 2, 1) := by decide +kernel
theorem dX8_read_139 : decode cX8_read 139 = .ok (.ifCond .ne 19, 3) := by decide +kernel
theorem dX8_read_142 : decode cX8_read 142 = .ok (.aload_n 0, 1) := by decide +kernel
theorem dX8_read_143 : decode cX8_read 143 = .ok (.getfield 10, 3) := by decide +kernel
theorem dX8_read_146 : decode cX8_read 146 = .ok (.aload 5, 2) := by decide +kernel
theorem dX8_read_148 : decode cX8_read 148 = .ok (.iload 6, 2) := by decide +kernel
theorem dX8_read_150 : decode cX8_read 150 = .ok (.iload 7, 2) := by decide +kernel
theorem dX8_read_152 : decode cX8_read 152 = .ok (.iload 8, 2) := by decide +kernel
theorem dX8_read_154 : decode cX8_read 154 = .ok (.invokevirtual 296, 3) := by decide +kernel
theorem dX8_read_157 : decode cX8_read 157 = .ok (.pop, 1) := by decide +kernel
theorem dX8_read_158 : decode cX8_read 158 = .ok (.iinc 3 1, 3) := by decide +kernel
theorem dX8_read_161 : decode cX8_read 161 = .ok (.iload 4, 2) := by decide +kernel
theorem dX8_read_163 : decode cX8_read 163 = .ok (.aload 5, 2) := by decide +kernel
theorem dX8_read_165 : decode cX8_read 165 = .ok (.invokevirtual 299, 3) := by decide +kernel
theorem dX8_read_168 : decode cX8_read 168 = .ok (.iconst 1, 1) := by decide +kernel
theorem dX8_read_169 : decode cX8_read 169 = .ok (.iadd, 1) := by decide +kernel
theorem dX8_read_170 : decode cX8_read 170 = .ok (.iadd, 1) := by decide +kernel
theorem dX8_read_171 : decode cX8_read 171 = .ok (.istore 4, 2) := by decide +kernel
theorem dX8_read_173 : decode cX8_read 173 = .ok (.aload_n 0, 1) := by decide +kernel
theorem dX8_read_174 : decode cX8_read 174 = .ok (.getfield 38, 3) := by decide +kernel
theorem dX8_read_177 : decode cX8_read 177 = .ok (.iload 4, 2) := by decide +kernel
theorem dX8_read_179 : decode cX8_read 179 = .ok (.invokevirtual 285, 3) := by decide +kernel
theorem dX8_read_182 : decode cX8_read 182 = .ok (.astore 5, 2) := by decide +kernel
theorem dX8_read_184 : decode cX8_read 184 = .ok (.goto (-119), 3) := by decide +kernel
theorem dX8_read_187 : decode cX8_read 187 = .ok (.aload_n 0, 1) := by decide +kernel
theorem dX8_read_188 : decode cX8_read 188 = .ok (.getfield 38, 3) := by decide +kernel
theorem dX8_read_191 : decode cX8_read 191 = .ok (.invokevirtual 276, 3) := by decide +kernel
theorem dX8_read_194 : decode cX8_read 194 = .ok (.iload_n 2, 1) := by decide +kernel
theorem dX8_read_195 : decode cX8_read 195 = .ok (.ifCond .eq 42, 3) := by decide +kernel
theorem dX8_read_198 : decode cX8_read 198 = .ok (.aload_n 0, 1) := by decide +kernel
theorem dX8_read_199 : decode cX8_read 199 = .ok (.getfield 20, 3) := by decide +kernel
theorem dX8_read_202 : decode cX8_read 202 = .ok (.aload_n 0, 1) := by decide +kernel
theorem dX8_read_203 : decode cX8_read 203 = .ok (.getfield 51, 3) := by decide +kernel
theorem dX8_read_206 : decode cX8_read 206 = .ok (.invokevirtual 300, 3) := by decide +kernel
theorem dX8_read_209 : decode cX8_read 209 = .ok (.aload_n 0, 1) := by decide +kernel
theorem dX8_read_210 : decode cX8_read 210 = .ok (.bipush 9, 2) := by decide +kernel
theorem dX8_read_212 : decode cX8_read 212 = .ok (.iload_n 3, 1) := by decide +kernel
theorem dX8_read_213 : decode cX8_read 213 = .ok (.iconst 1, 1) := by decide +kernel
theorem dX8_read_214 : decode cX8_read 214 = .ok (.isub, 1) := by decide +kernel
theorem dX8_read_215 : decode cX8_read 215 = .ok (.invokestatic 303, 3) := by decide +kernel
theorem dX8_read_218 : decode cX8_read 218 = .ok (.iload_n 2, 1) := by decide +kernel
theorem dX8_read_219 : decode cX8_read 219 = .ok (.iconst 0, 1) := by decide +kernel
theorem dX8_read_220 : decode cX8_read 220 = .ok (.invokestatic 306, 3) := by decide +kernel
theorem dX8_read_223 : decode cX8_read 223 = .ok (.invokevirtual 311, 3) := by decide +kernel
theorem dX8_read_226 : decode cX8_read 226 = .ok (.new 315, 3) := by decide +kernel
theorem dX8_read_229 : decode cX8_read 229 = .ok (.dup, 1) := by decide +kernel
theorem dX8_read_230 : decode cX8_read 230 = .ok (.ldc_w 317, 3) := by decide +kernel
theorem dX8_read_233 : decode cX8_read 233 = .ok (.invokespecial 319, 3) := by decide +kernel
theorem dX8_read_236 : decode cX8_read 236 = .ok (.athrow, 1) := by decide +kernel
theorem dX8_read_237 : decode cX8_read 237 = .ok (.aload_n 0, 1) := by decide +kernel
theorem dX8_read_238 : decode cX8_read 238 = .ok (.getfield 31, 3) := by decide +kernel
theorem dX8_read_241 : decode cX8_read 241 = .ok (.aload_n 0, 1) := by decide +kernel
theorem dX8_read_242 : decode cX8_read 242 = .ok (.getfield 51, 3) := by decide +kernel
theorem dX8_read_245 : decode cX8_read 245 = .ok (.invokevirtual 320, 3) := by decide +kernel
theorem dX8_read_248 : decode cX8_read 248 = .ok (.iload_n 3, 1) := by decide +kernel
theorem dX8_read_249 : decode cX8_read 249 = .ok (.ireturn, 1) := by decide +kernel
theorem dX8_errorPosition_0 : decode cX8_errorPosition 0 = .ok (.aload_n 0, 1) := by decide +kernel
theorem dX8_errorPosition_1 : decode cX8_errorPosition 1 = .ok (.getfield 62, 3) := by decide +kernel
theorem dX8_errorPosition_4 : decode cX8_errorPosition 4 = .ok (.iconst (-1), 1) := by decide +kernel
theorem dX8_errorPosition_5 : decode cX8_errorPosition 5 = .ok (.if_icmp .ne 14, 3) := by decide +kernel
theorem dX8_errorPosition_8 : decode cX8_errorPosition 8 = .ok (.new 176, 3) := by decide +kernel
theorem dX8_errorPosition_11 : decode cX8_errorPosition 11 = .ok (.dup, 1) := by decide +kernel
theorem dX8_errorPosition_12 : decode cX8_errorPosition 12 = .ok (.ldc_w 323, 3) := by decide +kernel
theorem dX8_errorPosition_15 : decode cX8_errorPosition 15 = .ok (.invokespecial 180, 3) := by decide +kernel
theorem dX8_errorPosition_18 : decode cX8_errorPosition 18 = .ok (.athrow, 1) := by decide +kernel
theorem dX8_errorPosition_19 : decode cX8_errorPosition 19 = .ok (.aload_n 0, 1) := by decide +kernel
theorem dX8_errorPosition_20 : decode cX8_errorPosition 20 = .ok (.getfield 62, 3) := by decide +kernel
theorem dX8_errorPosition_23 : decode cX8_errorPosition 23 = .ok (.ireturn, 1) := by decide +kernel
theorem dX8_refusal_0 : decode cX8_refusal 0 = .ok (.iload_n 1, 1) := by decide +kernel
theorem dX8_refusal_1 : decode cX8_refusal 1 = .ok (.ifCond .eq 10, 3) := by decide +kernel
theorem dX8_refusal_4 : decode cX8_refusal 4 = .ok (.aload_n 0, 1) := by decide +kernel
theorem dX8_refusal_5 : decode cX8_refusal 5 = .ok (.getfield 69, 3) := by decide +kernel
theorem dX8_refusal_8 : decode cX8_refusal 8 = .ok (.goto 7, 3) := by decide +kernel
theorem dX8_refusal_11 : decode cX8_refusal 11 = .ok (.aload_n 0, 1) := by decide +kernel
theorem dX8_refusal_12 : decode cX8_refusal 12 = .ok (.getfield 66, 3) := by decide +kernel
theorem dX8_refusal_15 : decode cX8_refusal 15 = .ok (.istore_n 3, 1) := by decide +kernel
theorem dX8_refusal_16 : decode cX8_refusal 16 = .ok (.iload_n 3, 1) := by decide +kernel
theorem dX8_refusal_17 : decode cX8_refusal 17 = .ok (.ifCond .ne 14, 3) := by decide +kernel
theorem dX8_refusal_20 : decode cX8_refusal 20 = .ok (.new 176, 3) := by decide +kernel
theorem dX8_refusal_23 : decode cX8_refusal 23 = .ok (.dup, 1) := by decide +kernel
theorem dX8_refusal_24 : decode cX8_refusal 24 = .ok (.ldc_w 325, 3) := by decide +kernel
theorem dX8_refusal_27 : decode cX8_refusal 27 = .ok (.invokespecial 180, 3) := by decide +kernel
theorem dX8_refusal_30 : decode cX8_refusal 30 = .ok (.athrow, 1) := by decide +kernel
theorem dX8_refusal_31 : decode cX8_refusal 31 = .ok (.iload_n 2, 1) := by decide +kernel
theorem dX8_refusal_32 : decode cX8_refusal 32 = .ok (.ifCond .eq 10, 3) := by decide +kernel
theorem dX8_refusal_35 : decode cX8_refusal 35 = .ok (.iload_n 3, 1) := by decide +kernel
theorem dX8_refusal_36 : decode cX8_refusal 36 = .ok (.bipush 16, 2) := by decide +kernel
theorem dX8_refusal_38 : decode cX8_refusal 38 = .ok (.irem, 1) := by decide +kernel
theorem dX8_refusal_39 : decode cX8_refusal 39 = .ok (.goto 7, 3) := by decide +kernel
theorem dX8_refusal_42 : decode cX8_refusal 42 = .ok (.iload_n 3, 1) := by decide +kernel
theorem dX8_refusal_43 : decode cX8_refusal 43 = .ok (.bipush 16, 2) := by decide +kernel
theorem dX8_refusal_45 : decode cX8_refusal 45 = .ok (.idiv, 1) := by decide +kernel
theorem dX8_refusal_46 : decode cX8_refusal 46 = .ok (.ireturn, 1) := by decide +kernel
set_option maxRecDepth 20000 in
theorem ggX8_show_X8_checkTable : GoodIn wsX8_show wsX8_checkTable := goodIn_ca (goodIn_r _ [8, 9, 10, 11, 12, 7, 13] (by decide +kernel) (by decide +kernel)) (goodIn_sub (fun _ h => List.mem_cons_of_mem _ (List.mem_append_left _ (List.mem_append_right _ h))) (by decide +kernel))
set_option maxRecDepth 20000 in
theorem gX8_show_X8_checkTable : GoodIn wsX8_show (wsV RX8 144 RX8 yX8_checkTable wsX8_checkTable) := goodIn_app (goodIn_of _ (by decide +kernel)) ggX8_show_X8_checkTable
set_option maxRecDepth 20000 in
theorem ggX8_show_X3_empty : GoodIn wsX8_show wsX3_empty := goodIn_r _ [18, 19, 78, 79] (by decide +kernel) (by decide +kernel)
set_option maxRecDepth 20000 in
theorem gX8_show_X3_empty : GoodIn wsX8_show (wsV RX8 327 RX3 yX3_empty wsX3_empty) := goodIn_app (goodIn_of _ (by decide +kernel)) ggX8_show_X3_empty
set_option maxRecDepth 20000 in
theorem ggX8_show_X6_laidOn : GoodIn wsX8_show wsX6_laidOn := goodIn_ca (goodIn_r _ [24, 25, 26, 27, 23, 28, 29, 80] (by decide +kernel) (by decide +kernel)) (goodIn_sub (fun _ h => List.mem_cons_of_mem _ (List.mem_append_right _ h)) (by decide +kernel))
set_option maxRecDepth 20000 in
theorem gX8_show_X6_laidOn : GoodIn wsX8_show (wsV RX8 148 RX6 yX6_laidOn wsX6_laidOn) := goodIn_app (goodIn_of _ (by decide +kernel)) ggX8_show_X6_laidOn
set_option maxRecDepth 20000 in
theorem ggX8_show_X6_seatedAt : GoodIn wsX8_show wsX6_seatedAt := goodIn_ca (goodIn_r _ [33, 29, 34, 35, 23, 36, 80] (by decide +kernel) (by decide +kernel)) (goodIn_sub (fun _ h => List.mem_cons_of_mem _ (List.mem_append_right _ h)) (by decide +kernel))
set_option maxRecDepth 20000 in
theorem gX8_show_X6_seatedAt : GoodIn wsX8_show (wsV RX8 181 RX6 yX6_seatedAt wsX6_seatedAt) := goodIn_app (goodIn_of _ (by decide +kernel)) ggX8_show_X6_seatedAt
set_option maxRecDepth 20000 in
theorem ggX8_show_X3_addDigit : GoodIn wsX8_show wsX3_addDigit := goodIn_ca (goodIn_r _ [40, 41, 42, 43, 17, 44, 19, 45, 78, 79] (by decide +kernel) (by decide +kernel)) (goodIn_sub (fun _ h => List.mem_cons_of_mem _ (List.mem_append_right _ h)) (by decide +kernel))
set_option maxRecDepth 20000 in
theorem gX8_show_X3_addDigit : GoodIn wsX8_show (wsV RX8 328 RX3 yX3_addDigit wsX3_addDigit) := goodIn_app (goodIn_of _ (by decide +kernel)) ggX8_show_X3_addDigit
set_option maxRecDepth 20000 in
theorem ggX8_show_X6_foldOf : GoodIn wsX8_show wsX6_foldOf := goodIn_ca (goodIn_r _ [49, 50, 51, 52, 23, 53, 29, 80] (by decide +kernel) (by decide +kernel)) (goodIn_sub (fun _ h => List.mem_cons_of_mem _ (List.mem_append_right _ h)) (by decide +kernel))
set_option maxRecDepth 20000 in
theorem gX8_show_X6_foldOf : GoodIn wsX8_show (wsV RX8 121 RX6 yX6_foldOf wsX6_foldOf) := goodIn_app (goodIn_of _ (by decide +kernel)) ggX8_show_X6_foldOf
set_option maxRecDepth 20000 in
theorem ggX8_show_X8_letterIn : GoodIn wsX8_show wsX8_letterIn := goodIn_ca (goodIn_r _ [56] (by decide +kernel) (by decide +kernel)) (goodIn_sub (fun _ h => List.mem_cons_of_mem _ (List.mem_append_right _ h)) (by decide +kernel))
set_option maxRecDepth 20000 in
theorem gX8_show_X8_letterIn : GoodIn wsX8_show (va_wsS RX8 335 yX8_letterIn wsX8_letterIn) := goodIn_app (goodIn_of _ (by decide +kernel)) ggX8_show_X8_letterIn
set_option maxRecDepth 20000 in
theorem ggX8_show_X3_add : GoodIn wsX8_show wsX3_add := goodIn_ca (goodIn_r _ [44, 19, 45, 78, 79] (by decide +kernel) (by decide +kernel)) (goodIn_sub (fun _ h => List.mem_cons_of_mem _ (List.mem_append_right _ h)) (by decide +kernel))
set_option maxRecDepth 20000 in
theorem gX8_show_X3_add : GoodIn wsX8_show (wsV RX8 339 RX3 yX3_add wsX3_add) := goodIn_app (goodIn_of _ (by decide +kernel)) ggX8_show_X3_add
set_option maxRecDepth 20000 in
theorem ggX8_show_X6_stainsOf : GoodIn wsX8_show wsX6_stainsOf := goodIn_ca (goodIn_r _ [61, 50, 51, 52, 23, 53, 29, 80] (by decide +kernel) (by decide +kernel)) (goodIn_sub (fun _ h => List.mem_cons_of_mem _ (List.mem_append_right _ h)) (by decide +kernel))
set_option maxRecDepth 20000 in
theorem gX8_show_X6_stainsOf : GoodIn wsX8_show (wsV RX8 127 RX6 yX6_stainsOf wsX6_stainsOf) := goodIn_app (goodIn_of _ (by decide +kernel)) ggX8_show_X6_stainsOf
set_option maxRecDepth 20000 in
theorem ggX8_show_X3_length : GoodIn wsX8_show wsX3_length := goodIn_r _ [65, 19, 78, 79] (by decide +kernel) (by decide +kernel)
set_option maxRecDepth 20000 in
theorem gX8_show_X3_length : GoodIn wsX8_show (wsV RX8 342 RX3 yX3_length wsX3_length) := goodIn_app (goodIn_of _ (by decide +kernel)) ggX8_show_X3_length
theorem dX8_show_0 : decode cX8_show 0 = .ok (.aload_n 0, 1) := by decide +kernel
theorem dX8_show_1 : decode cX8_show 1 = .ok (.iload_n 1, 1) := by decide +kernel
theorem dX8_show_2 : decode cX8_show 2 = .ok (.invokevirtual 144, 3) := by decide +kernel
theorem dX8_show_5 : decode cX8_show 5 = .ok (.aload_n 0, 1) := by decide +kernel
theorem dX8_show_6 : decode cX8_show 6 = .ok (.getfield 45, 3) := by decide +kernel
theorem dX8_show_9 : decode cX8_show 9 = .ok (.invokevirtual 327, 3) := by decide +kernel
theorem dX8_show_12 : decode cX8_show 12 = .ok (.iconst 0, 1) := by decide +kernel
theorem dX8_show_13 : decode cX8_show 13 = .ok (.istore_n 2, 1) := by decide +kernel
theorem dX8_show_14 : decode cX8_show 14 = .ok (.iload_n 2, 1) := by decide +kernel
theorem dX8_show_15 : decode cX8_show 15 = .ok (.aload_n 0, 1) := by decide +kernel
theorem dX8_show_16 : decode cX8_show 16 = .ok (.getfield 20, 3) := by decide +kernel
theorem dX8_show_19 : decode cX8_show 19 = .ok (.iload_n 1, 1) := by decide +kernel
theorem dX8_show_20 : decode cX8_show 20 = .ok (.invokevirtual 148, 3) := by decide +kernel
theorem dX8_show_23 : decode cX8_show 23 = .ok (.if_icmp .ge 68, 3) := by decide +kernel
theorem dX8_show_26 : decode cX8_show 26 = .ok (.aload_n 0, 1) := by decide +kernel
theorem dX8_show_27 : decode cX8_show 27 = .ok (.getfield 20, 3) := by decide +kernel
theorem dX8_show_30 : decode cX8_show 30 = .ok (.iload_n 1, 1) := by decide +kernel
theorem dX8_show_31 : decode cX8_show 31 = .ok (.iload_n 2, 1) := by decide +kernel
theorem dX8_show_32 : decode cX8_show 32 = .ok (.invokevirtual 181, 3) := by decide +kernel
theorem dX8_show_35 : decode cX8_show 35 = .ok (.istore_n 3, 1) := by decide +kernel
theorem dX8_show_36 : decode cX8_show 36 = .ok (.aload_n 0, 1) := by decide +kernel
theorem dX8_show_37 : decode cX8_show 37 = .ok (.getfield 45, 3) := by decide +kernel
theorem dX8_show_40 : decode cX8_show 40 = .ok (.iload_n 3, 1) := by decide +kernel
theorem dX8_show_41 : decode cX8_show 41 = .ok (.invokevirtual 328, 3) := by decide +kernel
theorem dX8_show_44 : decode cX8_show 44 = .ok (.aload_n 0, 1) := by decide +kernel
theorem dX8_show_45 : decode cX8_show 45 = .ok (.getfield 45, 3) := by decide +kernel
theorem dX8_show_48 : decode cX8_show 48 = .ok (.getstatic 331, 3) := by decide +kernel
theorem dX8_show_51 : decode cX8_show 51 = .ok (.aload_n 0, 1) := by decide +kernel
theorem dX8_show_52 : decode cX8_show 52 = .ok (.getfield 20, 3) := by decide +kernel
theorem dX8_show_55 : decode cX8_show 55 = .ok (.iload_n 3, 1) := by decide +kernel
theorem dX8_show_56 : decode cX8_show 56 = .ok (.invokevirtual 121, 3) := by decide +kernel
theorem dX8_show_59 : decode cX8_show 59 = .ok (.invokestatic 335, 3) := by decide +kernel
theorem dX8_show_62 : decode cX8_show 62 = .ok (.invokevirtual 339, 3) := by decide +kernel
theorem dX8_show_65 : decode cX8_show 65 = .ok (.aload_n 0, 1) := by decide +kernel
theorem dX8_show_66 : decode cX8_show 66 = .ok (.getfield 20, 3) := by decide +kernel
theorem dX8_show_69 : decode cX8_show 69 = .ok (.iload_n 3, 1) := by decide +kernel
theorem dX8_show_70 : decode cX8_show 70 = .ok (.invokevirtual 127, 3) := by decide +kernel
theorem dX8_show_73 : decode cX8_show 73 = .ok (.ifCond .le 12, 3) := by decide +kernel
theorem dX8_show_76 : decode cX8_show 76 = .ok (.aload_n 0, 1) := by decide +kernel
theorem dX8_show_77 : decode cX8_show 77 = .ok (.getfield 45, 3) := by decide +kernel
theorem dX8_show_80 : decode cX8_show 80 = .ok (.bipush 42, 2) := by decide +kernel
theorem dX8_show_82 : decode cX8_show 82 = .ok (.invokevirtual 339, 3) := by decide +kernel
theorem dX8_show_85 : decode cX8_show 85 = .ok (.iinc 2 1, 3) := by decide +kernel
theorem dX8_show_88 : decode cX8_show 88 = .ok (.goto (-74), 3) := by decide +kernel
theorem dX8_show_91 : decode cX8_show 91 = .ok (.aload_n 0, 1) := by decide +kernel
theorem dX8_show_92 : decode cX8_show 92 = .ok (.getfield 45, 3) := by decide +kernel
theorem dX8_show_95 : decode cX8_show 95 = .ok (.invokevirtual 342, 3) := by decide +kernel
theorem dX8_show_98 : decode cX8_show 98 = .ok (.ireturn, 1) := by decide +kernel
set_option maxRecDepth 20000 in
theorem ggX8_tell_X8_checkTable : GoodIn wsX8_tell wsX8_checkTable := goodIn_ca (goodIn_r _ [8, 9, 10, 11, 12, 7, 13] (by decide +kernel) (by decide +kernel)) (goodIn_sub (fun _ h => List.mem_cons_of_mem _ (List.mem_append_left _ (List.mem_append_right _ h))) (by decide +kernel))
set_option maxRecDepth 20000 in
theorem gX8_tell_X8_checkTable : GoodIn wsX8_tell (wsV RX8 144 RX8 yX8_checkTable wsX8_checkTable) := goodIn_app (goodIn_of _ (by decide +kernel)) ggX8_tell_X8_checkTable
set_option maxRecDepth 20000 in
theorem ggX8_tell_X3_empty : GoodIn wsX8_tell wsX3_empty := goodIn_r _ [18, 19, 112, 113] (by decide +kernel) (by decide +kernel)
set_option maxRecDepth 20000 in
theorem gX8_tell_X3_empty : GoodIn wsX8_tell (wsV RX8 327 RX3 yX3_empty wsX3_empty) := goodIn_app (goodIn_of _ (by decide +kernel)) ggX8_tell_X3_empty
set_option maxRecDepth 20000 in
theorem ggX8_tell_X8_heard : GoodIn wsX8_tell wsX8_heard := goodIn_ca (goodIn_r _ [23, 24, 3, 25, 26, 27, 28, 29, 30, 31, 32, 33, 34, 35, 36, 37, 38, 39, 40, 41, 42, 43, 44, 45, 46, 47, 48, 49, 50, 51, 52, 53, 54, 55, 56, 57, 58, 59, 60, 61, 62, 63, 64, 65, 66, 67, 100, 101, 102, 103, 104, 105, 106, 107, 108, 109, 110, 111, 114, 115, 116, 117, 118, 119, 120, 121] (by decide +kernel) (by decide +kernel)) (goodIn_sub (fun _ h => List.mem_cons_of_mem _ (List.mem_append_right _ h)) (by decide +kernel))
set_option maxRecDepth 20000 in
theorem gX8_tell_X8_heard : GoodIn wsX8_tell (wsV RX8 151 RX8 yX8_heard wsX8_heard) := goodIn_app (goodIn_of _ (by decide +kernel)) ggX8_tell_X8_heard
set_option maxRecDepth 20000 in
theorem ggX8_tell_X4_size : GoodIn wsX8_tell wsX4_size := goodIn_r _ [71, 30, 114, 115, 116, 117, 118, 119, 120] (by decide +kernel) (by decide +kernel)
set_option maxRecDepth 20000 in
theorem gX8_tell_X4_size : GoodIn wsX8_tell (wsV RX8 155 RX4 yX4_size wsX4_size) := goodIn_app (goodIn_of _ (by decide +kernel)) ggX8_tell_X4_size
set_option maxRecDepth 20000 in
theorem ggX8_tell_X4_napkinAt : GoodIn wsX8_tell wsX4_napkinAt := goodIn_ca (goodIn_r _ [75, 31, 76, 77, 78, 28, 79, 30, 114, 115, 116, 117, 118, 119, 120] (by decide +kernel) (by decide +kernel)) (goodIn_sub (fun _ h => List.mem_cons_of_mem _ (List.mem_append_right _ h)) (by decide +kernel))
set_option maxRecDepth 20000 in
theorem gX8_tell_X4_napkinAt : GoodIn wsX8_tell (wsV RX8 185 RX4 yX4_napkinAt wsX4_napkinAt) := goodIn_app (goodIn_of _ (by decide +kernel)) ggX8_tell_X4_napkinAt
set_option maxRecDepth 20000 in
theorem ggX8_tell_X3_add : GoodIn wsX8_tell wsX3_add := goodIn_ca (goodIn_r _ [83, 19, 84, 112, 113] (by decide +kernel) (by decide +kernel)) (goodIn_sub (fun _ h => List.mem_cons_of_mem _ (List.mem_append_right _ h)) (by decide +kernel))
set_option maxRecDepth 20000 in
theorem gX8_tell_X3_add : GoodIn wsX8_tell (wsV RX8 339 RX3 yX3_add wsX3_add) := goodIn_app (goodIn_of _ (by decide +kernel)) ggX8_tell_X3_add
set_option maxRecDepth 20000 in
theorem ggX8_tell_X6_foldOf : GoodIn wsX8_tell wsX6_foldOf := goodIn_ca (goodIn_r _ [55, 56, 57, 58, 38, 59, 44, 121] (by decide +kernel) (by decide +kernel)) (goodIn_sub (fun _ h => List.mem_cons_of_mem _ (List.mem_append_right _ h)) (by decide +kernel))
set_option maxRecDepth 20000 in
theorem gX8_tell_X6_foldOf : GoodIn wsX8_tell (wsV RX8 121 RX6 yX6_foldOf wsX6_foldOf) := goodIn_app (goodIn_of _ (by decide +kernel)) ggX8_tell_X6_foldOf
set_option maxRecDepth 20000 in
theorem ggX8_tell_X8_letterIn : GoodIn wsX8_tell wsX8_letterIn := goodIn_ca (goodIn_r _ [88] (by decide +kernel) (by decide +kernel)) (goodIn_sub (fun _ h => List.mem_cons_of_mem _ (List.mem_append_right _ h)) (by decide +kernel))
set_option maxRecDepth 20000 in
theorem gX8_tell_X8_letterIn : GoodIn wsX8_tell (va_wsS RX8 335 yX8_letterIn wsX8_letterIn) := goodIn_app (goodIn_of _ (by decide +kernel)) ggX8_tell_X8_letterIn
set_option maxRecDepth 20000 in
theorem ggX8_tell_X6_colourOf : GoodIn wsX8_tell wsX6_colourOf := goodIn_ca (goodIn_r _ [63, 56, 57, 58, 38, 59, 44, 121] (by decide +kernel) (by decide +kernel)) (goodIn_sub (fun _ h => List.mem_cons_of_mem _ (List.mem_append_right _ h)) (by decide +kernel))
set_option maxRecDepth 20000 in
theorem gX8_tell_X6_colourOf : GoodIn wsX8_tell (wsV RX8 117 RX6 yX6_colourOf wsX6_colourOf) := goodIn_app (goodIn_of _ (by decide +kernel)) ggX8_tell_X6_colourOf
set_option maxRecDepth 20000 in
theorem ggX8_tell_X3_addDigit : GoodIn wsX8_tell wsX3_addDigit := goodIn_ca (goodIn_r _ [93, 94, 81, 82, 17, 83, 19, 84, 112, 113] (by decide +kernel) (by decide +kernel)) (goodIn_sub (fun _ h => List.mem_cons_of_mem _ (List.mem_append_right _ h)) (by decide +kernel))
set_option maxRecDepth 20000 in
theorem gX8_tell_X3_addDigit : GoodIn wsX8_tell (wsV RX8 328 RX3 yX3_addDigit wsX3_addDigit) := goodIn_app (goodIn_of _ (by decide +kernel)) ggX8_tell_X3_addDigit
set_option maxRecDepth 20000 in
theorem ggX8_tell_X6_stainsOf : GoodIn wsX8_tell wsX6_stainsOf := goodIn_ca (goodIn_r _ [67, 56, 57, 58, 38, 59, 44, 121] (by decide +kernel) (by decide +kernel)) (goodIn_sub (fun _ h => List.mem_cons_of_mem _ (List.mem_append_right _ h)) (by decide +kernel))
set_option maxRecDepth 20000 in
theorem gX8_tell_X6_stainsOf : GoodIn wsX8_tell (wsV RX8 127 RX6 yX6_stainsOf wsX6_stainsOf) := goodIn_app (goodIn_of _ (by decide +kernel)) ggX8_tell_X6_stainsOf
set_option maxRecDepth 20000 in
theorem ggX8_tell_X3_length : GoodIn wsX8_tell wsX3_length := goodIn_r _ [99, 19, 112, 113] (by decide +kernel) (by decide +kernel)
set_option maxRecDepth 20000 in
theorem gX8_tell_X3_length : GoodIn wsX8_tell (wsV RX8 342 RX3 yX3_length wsX3_length) := goodIn_app (goodIn_of _ (by decide +kernel)) ggX8_tell_X3_length
theorem dX8_tell_0 : decode cX8_tell 0 = .ok (.aload_n 0, 1) := by decide +kernel
theorem dX8_tell_1 : decode cX8_tell 1 = .ok (.iload_n 1, 1) := by decide +kernel
theorem dX8_tell_2 : decode cX8_tell 2 = .ok (.invokevirtual 144, 3) := by decide +kernel
theorem dX8_tell_5 : decode cX8_tell 5 = .ok (.aload_n 0, 1) := by decide +kernel
theorem dX8_tell_6 : decode cX8_tell 6 = .ok (.getfield 45, 3) := by decide +kernel
theorem dX8_tell_9 : decode cX8_tell 9 = .ok (.invokevirtual 327, 3) := by decide +kernel
theorem dX8_tell_12 : decode cX8_tell 12 = .ok (.aload_n 0, 1) := by decide +kernel
theorem dX8_tell_13 : decode cX8_tell 13 = .ok (.iload_n 1, 1) := by decide +kernel
theorem dX8_tell_14 : decode cX8_tell 14 = .ok (.invokevirtual 151, 3) := by decide +kernel
theorem dX8_tell_17 : decode cX8_tell 17 = .ok (.astore_n 2, 1) := by decide +kernel
theorem dX8_tell_18 : decode cX8_tell 18 = .ok (.iconst 0, 1) := by decide +kernel
theorem dX8_tell_19 : decode cX8_tell 19 = .ok (.istore_n 3, 1) := by decide +kernel
theorem dX8_tell_20 : decode cX8_tell 20 = .ok (.iload_n 3, 1) := by decide +kernel
theorem dX8_tell_21 : decode cX8_tell 21 = .ok (.aload_n 2, 1) := by decide +kernel
theorem dX8_tell_22 : decode cX8_tell 22 = .ok (.invokevirtual 155, 3) := by decide +kernel
theorem dX8_tell_25 : decode cX8_tell 25 = .ok (.if_icmp .ge 101, 3) := by decide +kernel
theorem dX8_tell_28 : decode cX8_tell 28 = .ok (.aload_n 2, 1) := by decide +kernel
theorem dX8_tell_29 : decode cX8_tell 29 = .ok (.iload_n 3, 1) := by decide +kernel
theorem dX8_tell_30 : decode cX8_tell 30 = .ok (.invokevirtual 185, 3) := by decide +kernel
theorem dX8_tell_33 : decode cX8_tell 33 = .ok (.istore 4, 2) := by decide +kernel
theorem dX8_tell_35 : decode cX8_tell 35 = .ok (.iload_n 3, 1) := by decide +kernel
theorem dX8_tell_36 : decode cX8_tell 36 = .ok (.ifCond .le 12, 3) := by decide +kernel
theorem dX8_tell_39 : decode cX8_tell 39 = .ok (.aload_n 0, 1) := by decide +kernel
theorem dX8_tell_40 : decode cX8_tell 40 = .ok (.getfield 45, 3) := by decide +kernel
theorem dX8_tell_43 : decode cX8_tell 43 = .ok (.bipush 32, 2) := by decide +kernel
theorem dX8_tell_45 : decode cX8_tell 45 = .ok (.invokevirtual 339, 3) := by decide +kernel
theorem dX8_tell_48 : decode cX8_tell 48 = .ok (.aload_n 0, 1) := by decide +kernel
theorem dX8_tell_49 : decode cX8_tell 49 = .ok (.getfield 45, 3) := by decide +kernel
theorem dX8_tell_52 : decode cX8_tell 52 = .ok (.getstatic 343, 3) := by decide +kernel
theorem dX8_tell_55 : decode cX8_tell 55 = .ok (.aload_n 0, 1) := by decide +kernel
theorem dX8_tell_56 : decode cX8_tell 56 = .ok (.getfield 20, 3) := by decide +kernel
theorem dX8_tell_59 : decode cX8_tell 59 = .ok (.iload 4, 2) := by decide +kernel
theorem dX8_tell_61 : decode cX8_tell 61 = .ok (.invokevirtual 121, 3) := by decide +kernel
theorem dX8_tell_64 : decode cX8_tell 64 = .ok (.invokestatic 335, 3) := by decide +kernel
theorem dX8_tell_67 : decode cX8_tell 67 = .ok (.invokevirtual 339, 3) := by decide +kernel
theorem dX8_tell_70 : decode cX8_tell 70 = .ok (.aload_n 0, 1) := by decide +kernel
theorem dX8_tell_71 : decode cX8_tell 71 = .ok (.getfield 20, 3) := by decide +kernel
theorem dX8_tell_74 : decode cX8_tell 74 = .ok (.iload 4, 2) := by decide +kernel
theorem dX8_tell_76 : decode cX8_tell 76 = .ok (.invokevirtual 121, 3) := by decide +kernel
theorem dX8_tell_79 : decode cX8_tell 79 = .ok (.iconst 4, 1) := by decide +kernel
theorem dX8_tell_80 : decode cX8_tell 80 = .ok (.if_icmp .eq 19, 3) := by decide +kernel
theorem dX8_tell_83 : decode cX8_tell 83 = .ok (.aload_n 0, 1) := by decide +kernel
theorem dX8_tell_84 : decode cX8_tell 84 = .ok (.getfield 45, 3) := by decide +kernel
theorem dX8_tell_87 : decode cX8_tell 87 = .ok (.aload_n 0, 1) := by decide +kernel
theorem dX8_tell_88 : decode cX8_tell 88 = .ok (.getfield 20, 3) := by decide +kernel
theorem dX8_tell_91 : decode cX8_tell 91 = .ok (.iload 4, 2) := by decide +kernel
theorem dX8_tell_93 : decode cX8_tell 93 = .ok (.invokevirtual 117, 3) := by decide +kernel
theorem dX8_tell_96 : decode cX8_tell 96 = .ok (.invokevirtual 328, 3) := by decide +kernel
theorem dX8_tell_99 : decode cX8_tell 99 = .ok (.aload_n 0, 1) := by decide +kernel
theorem dX8_tell_100 : decode cX8_tell 100 = .ok (.getfield 20, 3) := by decide +kernel
theorem dX8_tell_103 : decode cX8_tell 103 = .ok (.iload 4, 2) := by decide +kernel
theorem dX8_tell_105 : decode cX8_tell 105 = .ok (.invokevirtual 127, 3) := by decide +kernel
theorem dX8_tell_108 : decode cX8_tell 108 = .ok (.ifCond .le 12, 3) := by decide +kernel
theorem dX8_tell_111 : decode cX8_tell 111 = .ok (.aload_n 0, 1) := by decide +kernel
theorem dX8_tell_112 : decode cX8_tell 112 = .ok (.getfield 45, 3) := by decide +kernel
theorem dX8_tell_115 : decode cX8_tell 115 = .ok (.bipush 63, 2) := by decide +kernel
theorem dX8_tell_117 : decode cX8_tell 117 = .ok (.invokevirtual 339, 3) := by decide +kernel
theorem dX8_tell_120 : decode cX8_tell 120 = .ok (.iinc 3 1, 3) := by decide +kernel
theorem dX8_tell_123 : decode cX8_tell 123 = .ok (.goto (-103), 3) := by decide +kernel
theorem dX8_tell_126 : decode cX8_tell 126 = .ok (.aload_n 0, 1) := by decide +kernel
theorem dX8_tell_127 : decode cX8_tell 127 = .ok (.getfield 45, 3) := by decide +kernel
theorem dX8_tell_130 : decode cX8_tell 130 = .ok (.invokevirtual 342, 3) := by decide +kernel
theorem dX8_tell_133 : decode cX8_tell 133 = .ok (.ireturn, 1) := by decide +kernel
set_option maxRecDepth 20000 in
theorem ggX8_written_X3_length : GoodIn wsX8_written wsX3_length := goodIn_r _ [8, 9, 27, 28] (by decide +kernel) (by decide +kernel)
set_option maxRecDepth 20000 in
theorem gX8_written_X3_length : GoodIn wsX8_written (wsV RX8 342 RX3 yX3_length wsX3_length) := goodIn_app (goodIn_of _ (by decide +kernel)) ggX8_written_X3_length
set_option maxRecDepth 20000 in
theorem ggX8_written_X3_at : GoodIn wsX8_written wsX3_at := goodIn_ca (goodIn_r _ [13, 9, 14, 27, 28] (by decide +kernel) (by decide +kernel)) (goodIn_sub (fun _ h => List.mem_cons_of_mem _ (List.mem_append_right _ h)) (by decide +kernel))
set_option maxRecDepth 20000 in
theorem gX8_written_X3_at : GoodIn wsX8_written (wsV RX8 348 RX3 yX3_at wsX3_at) := goodIn_app (goodIn_of _ (by decide +kernel)) ggX8_written_X3_at
theorem dX8_written_0 : decode cX8_written 0 = .ok (.iload_n 1, 1) := by decide +kernel
theorem dX8_written_1 : decode cX8_written 1 = .ok (.ifCond .lt 14, 3) := by decide +kernel
theorem dX8_written_4 : decode cX8_written 4 = .ok (.iload_n 1, 1) := by decide +kernel
theorem dX8_written_5 : decode cX8_written 5 = .ok (.aload_n 0, 1) := by decide +kernel
theorem dX8_written_6 : decode cX8_written 6 = .ok (.getfield 45, 3) := by decide +kernel
theorem dX8_written_9 : decode cX8_written 9 = .ok (.invokevirtual 342, 3) := by decide +kernel
theorem dX8_written_12 : decode cX8_written 12 = .ok (.if_icmp .lt 14, 3) := by decide +kernel
theorem dX8_written_15 : decode cX8_written 15 = .ok (.new 176, 3) := by decide +kernel
theorem dX8_written_18 : decode cX8_written 18 = .ok (.dup, 1) := by decide +kernel
theorem dX8_written_19 : decode cX8_written 19 = .ok (.ldc_w 346, 3) := by decide +kernel
theorem dX8_written_22 : decode cX8_written 22 = .ok (.invokespecial 180, 3) := by decide +kernel
theorem dX8_written_25 : decode cX8_written 25 = .ok (.athrow, 1) := by decide +kernel
theorem dX8_written_26 : decode cX8_written 26 = .ok (.aload_n 0, 1) := by decide +kernel
theorem dX8_written_27 : decode cX8_written 27 = .ok (.getfield 45, 3) := by decide +kernel
theorem dX8_written_30 : decode cX8_written 30 = .ok (.iload_n 1, 1) := by decide +kernel
theorem dX8_written_31 : decode cX8_written 31 = .ok (.invokevirtual 348, 3) := by decide +kernel
theorem dX8_written_34 : decode cX8_written 34 = .ok (.ireturn, 1) := by decide +kernel
set_option maxRecDepth 20000 in
theorem ggX8_account_X6_napkins : GoodIn wsX8_account wsX6_napkins := goodIn_ca (goodIn_r _ [10, 11, 143] (by decide +kernel) (by decide +kernel)) (goodIn_sub (fun _ h => List.mem_cons_of_mem _ (List.mem_append_right _ h)) (by decide +kernel))
set_option maxRecDepth 20000 in
theorem gX8_account_X6_napkins : GoodIn wsX8_account (wsV RX8 246 RX6 yX6_napkins wsX6_napkins) := goodIn_app (goodIn_of _ (by decide +kernel)) ggX8_account_X6_napkins
set_option maxRecDepth 20000 in
theorem ggX8_account_X6_foldedCount : GoodIn wsX8_account wsX6_foldedCount := goodIn_ca (goodIn_r _ [15, 16, 7, 8, 9, 10, 11, 17, 18, 19, 20, 21, 22, 23, 24, 143] (by decide +kernel) (by decide +kernel)) (goodIn_sub (fun _ h => List.mem_cons_of_mem _ (List.mem_append_right _ h)) (by decide +kernel))
set_option maxRecDepth 20000 in
theorem gX8_account_X6_foldedCount : GoodIn wsX8_account (wsV RX8 352 RX6 yX6_foldedCount wsX6_foldedCount) := goodIn_app (goodIn_of _ (by decide +kernel)) ggX8_account_X6_foldedCount
set_option maxRecDepth 20000 in
theorem ggX8_account_X6_laidCount : GoodIn wsX8_account wsX6_laidCount := goodIn_ca (goodIn_r _ [28, 29, 30, 31, 9, 32, 11, 143] (by decide +kernel) (by decide +kernel)) (goodIn_sub (fun _ h => List.mem_cons_of_mem _ (List.mem_append_right _ h)) (by decide +kernel))
set_option maxRecDepth 20000 in
theorem gX8_account_X6_laidCount : GoodIn wsX8_account (wsV RX8 355 RX6 yX6_laidCount wsX6_laidCount) := goodIn_app (goodIn_of _ (by decide +kernel)) ggX8_account_X6_laidCount
set_option maxRecDepth 20000 in
theorem ggX8_account_X6_creasesSum : GoodIn wsX8_account wsX6_creasesSum := goodIn_ca (goodIn_r _ [36, 29, 30, 31, 9, 32, 11, 143] (by decide +kernel) (by decide +kernel)) (goodIn_sub (fun _ h => List.mem_cons_of_mem _ (List.mem_append_right _ h)) (by decide +kernel))
set_option maxRecDepth 20000 in
theorem gX8_account_X6_creasesSum : GoodIn wsX8_account (wsV RX8 358 RX6 yX6_creasesSum wsX6_creasesSum) := goodIn_app (goodIn_of _ (by decide +kernel)) ggX8_account_X6_creasesSum
set_option maxRecDepth 20000 in
theorem ggX8_account_X6_stainsSum : GoodIn wsX8_account wsX6_stainsSum := goodIn_ca (goodIn_r _ [40, 29, 30, 31, 9, 32, 11, 143] (by decide +kernel) (by decide +kernel)) (goodIn_sub (fun _ h => List.mem_cons_of_mem _ (List.mem_append_right _ h)) (by decide +kernel))
set_option maxRecDepth 20000 in
theorem gX8_account_X6_stainsSum : GoodIn wsX8_account (wsV RX8 361 RX6 yX6_stainsSum wsX6_stainsSum) := goodIn_app (goodIn_of _ (by decide +kernel)) ggX8_account_X6_stainsSum
set_option maxRecDepth 20000 in
theorem ggX8_account_X8_rightTables : GoodIn wsX8_account wsX8_rightTables := goodIn_ca (goodIn_r _ [45, 46, 47, 48, 44, 49, 50, 3, 51, 52, 53, 54, 55, 56, 57, 58, 59, 60, 61, 62, 63, 9, 64, 65, 66, 67, 68, 11, 69, 70, 71, 72, 73, 74, 75, 76, 18, 19, 20, 21, 22, 23, 24, 77, 78, 79, 80, 81, 82, 83, 84, 85, 86, 87, 88, 89, 90, 91, 92, 93, 94, 95, 96, 97, 98, 99, 100, 101, 102, 131, 132, 133, 134, 135, 136, 137, 138, 139, 140, 141, 142, 144, 145, 146, 147, 148, 149, 150, 143] (by decide +kernel) (by decide +kernel)) (goodIn_sub (fun _ h => List.mem_cons_of_mem _ (List.mem_append_right _ h)) (by decide +kernel))
set_option maxRecDepth 20000 in
theorem gX8_account_X8_rightTables : GoodIn wsX8_account (wsV RX8 364 RX8 yX8_rightTables wsX8_rightTables) := goodIn_app (goodIn_of _ (by decide +kernel)) ggX8_account_X8_rightTables
set_option maxRecDepth 20000 in
theorem ggX8_account_X6_understood : GoodIn wsX8_account wsX6_understood := goodIn_ca (goodIn_r _ [106, 11, 143] (by decide +kernel) (by decide +kernel)) (goodIn_sub (fun _ h => List.mem_cons_of_mem _ (List.mem_append_right _ h)) (by decide +kernel))
set_option maxRecDepth 20000 in
theorem gX8_account_X6_understood : GoodIn wsX8_account (wsV RX8 367 RX6 yX6_understood wsX6_understood) := goodIn_app (goodIn_of _ (by decide +kernel)) ggX8_account_X6_understood
set_option maxRecDepth 20000 in
theorem ggX8_account_X6_puzzlesSum : GoodIn wsX8_account wsX6_puzzlesSum := goodIn_ca (goodIn_r _ [110, 29, 30, 31, 9, 32, 11, 143] (by decide +kernel) (by decide +kernel)) (goodIn_sub (fun _ h => List.mem_cons_of_mem _ (List.mem_append_right _ h)) (by decide +kernel))
set_option maxRecDepth 20000 in
theorem gX8_account_X6_puzzlesSum : GoodIn wsX8_account (wsV RX8 370 RX6 yX6_puzzlesSum wsX6_puzzlesSum) := goodIn_app (goodIn_of _ (by decide +kernel)) ggX8_account_X6_puzzlesSum
set_option maxRecDepth 20000 in
theorem ggX8_account_X6_foldingsSum : GoodIn wsX8_account wsX6_foldingsSum := goodIn_ca (goodIn_r _ [114, 29, 30, 31, 9, 32, 11, 143] (by decide +kernel) (by decide +kernel)) (goodIn_sub (fun _ h => List.mem_cons_of_mem _ (List.mem_append_right _ h)) (by decide +kernel))
set_option maxRecDepth 20000 in
theorem gX8_account_X6_foldingsSum : GoodIn wsX8_account (wsV RX8 373 RX6 yX6_foldingsSum wsX6_foldingsSum) := goodIn_app (goodIn_of _ (by decide +kernel)) ggX8_account_X6_foldingsSum
set_option maxRecDepth 20000 in
theorem ggX8_account_X6_washedAway : GoodIn wsX8_account wsX6_washedAway := goodIn_ca (goodIn_r _ [118, 11, 143] (by decide +kernel) (by decide +kernel)) (goodIn_sub (fun _ h => List.mem_cons_of_mem _ (List.mem_append_right _ h)) (by decide +kernel))
set_option maxRecDepth 20000 in
theorem gX8_account_X6_washedAway : GoodIn wsX8_account (wsV RX8 376 RX6 yX6_washedAway wsX6_washedAway) := goodIn_app (goodIn_of _ (by decide +kernel)) ggX8_account_X6_washedAway
set_option maxRecDepth 20000 in
theorem ggX8_account_X7_length : GoodIn wsX8_account wsX7_length := goodIn_r _ [123, 124, 151, 152] (by decide +kernel) (by decide +kernel)
set_option maxRecDepth 20000 in
theorem gX8_account_X7_length : GoodIn wsX8_account (wsV RX8 270 RX7 yX7_length wsX7_length) := goodIn_app (goodIn_of _ (by decide +kernel)) ggX8_account_X7_length
set_option maxRecDepth 20000 in
theorem ggX8_account_X2_size : GoodIn wsX8_account wsX2_size := goodIn_r _ [129, 130, 153, 154] (by decide +kernel) (by decide +kernel)
set_option maxRecDepth 20000 in
theorem gX8_account_X2_size : GoodIn wsX8_account (wsV RX8 379 RX2 yX2_size wsX2_size) := goodIn_app (goodIn_of _ (by decide +kernel)) ggX8_account_X2_size
theorem dX8_account_0 : decode cX8_account 0 = .ok (.iload_n 1, 1) := by decide +kernel
theorem dX8_account_1 : decode cX8_account 1 = .ok (.tableswitch 156 0 11 #[63, 71, 79, 87, 95, 103, 108, 116, 124, 132, 140, 148], 63) := by decide +kernel
theorem dX8_account_64 : decode cX8_account 64 = .ok (.aload_n 0, 1) := by decide +kernel
theorem dX8_account_65 : decode cX8_account 65 = .ok (.getfield 20, 3) := by decide +kernel
theorem dX8_account_68 : decode cX8_account 68 = .ok (.invokevirtual 246, 3) := by decide +kernel
theorem dX8_account_71 : decode cX8_account 71 = .ok (.ireturn, 1) := by decide +kernel
theorem dX8_account_72 : decode cX8_account 72 = .ok (.aload_n 0, 1) := by decide +kernel
theorem dX8_account_73 : decode cX8_account 73 = .ok (.getfield 20, 3) := by decide +kernel
theorem dX8_account_76 : decode cX8_account 76 = .ok (.invokevirtual 352, 3) := by decide +kernel
theorem dX8_account_79 : decode cX8_account 79 = .ok (.ireturn, 1) := by decide +kernel
theorem dX8_account_80 : decode cX8_account 80 = .ok (.aload_n 0, 1) := by decide +kernel
theorem dX8_account_81 : decode cX8_account 81 = .ok (.getfield 20, 3) := by decide +kernel
theorem dX8_account_84 : decode cX8_account 84 = .ok (.invokevirtual 355, 3) := by decide +kernel
theorem dX8_account_87 : decode cX8_account 87 = .ok (.ireturn, 1) := by decide +kernel
theorem dX8_account_88 : decode cX8_account 88 = .ok (.aload_n 0, 1) := by decide +kernel
theorem dX8_account_89 : decode cX8_account 89 = .ok (.getfield 20, 3) := by decide +kernel
theorem dX8_account_92 : decode cX8_account 92 = .ok (.invokevirtual 358, 3) := by decide +kernel
theorem dX8_account_95 : decode cX8_account 95 = .ok (.ireturn, 1) := by decide +kernel
theorem dX8_account_96 : decode cX8_account 96 = .ok (.aload_n 0, 1) := by decide +kernel
theorem dX8_account_97 : decode cX8_account 97 = .ok (.getfield 20, 3) := by decide +kernel
theorem dX8_account_100 : decode cX8_account 100 = .ok (.invokevirtual 361, 3) := by decide +kernel
theorem dX8_account_103 : decode cX8_account 103 = .ok (.ireturn, 1) := by decide +kernel
theorem dX8_account_104 : decode cX8_account 104 = .ok (.aload_n 0, 1) := by decide +kernel
theorem dX8_account_105 : decode cX8_account 105 = .ok (.invokevirtual 364, 3) := by decide +kernel
theorem dX8_account_108 : decode cX8_account 108 = .ok (.ireturn, 1) := by decide +kernel
theorem dX8_account_109 : decode cX8_account 109 = .ok (.aload_n 0, 1) := by decide +kernel
theorem dX8_account_110 : decode cX8_account 110 = .ok (.getfield 20, 3) := by decide +kernel
theorem dX8_account_113 : decode cX8_account 113 = .ok (.invokevirtual 367, 3) := by decide +kernel
theorem dX8_account_116 : decode cX8_account 116 = .ok (.ireturn, 1) := by decide +kernel
theorem dX8_account_117 : decode cX8_account 117 = .ok (.aload_n 0, 1) := by decide +kernel
theorem dX8_account_118 : decode cX8_account 118 = .ok (.getfield 20, 3) := by decide +kernel
theorem dX8_account_121 : decode cX8_account 121 = .ok (.invokevirtual 370, 3) := by decide +kernel
