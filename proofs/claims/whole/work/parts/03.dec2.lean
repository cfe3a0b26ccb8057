theorem dX8_napkinOf_20 : decode cX8_napkinOf 20 = .ok (.athrow, 1) := by decide +kernel
theorem dX8_napkinOf_21 : decode cX8_napkinOf 21 = .ok (.iload_n 2, 1) := by decide +kernel
theorem dX8_napkinOf_22 : decode cX8_napkinOf 22 = .ok (.tableswitch 105 0 6 #[42, 51, 60, 69, 78, 87, 96], 42) := by decide +kernel
theorem dX8_napkinOf_64 : decode cX8_napkinOf 64 = .ok (.aload_n 0, 1) := by decide +kernel
theorem dX8_napkinOf_65 : decode cX8_napkinOf 65 = .ok (.getfield 20, 3) := by decide +kernel
theorem dX8_napkinOf_68 : decode cX8_napkinOf 68 = .ok (.iload_n 1, 1) := by decide +kernel
theorem dX8_napkinOf_69 : decode cX8_napkinOf 69 = .ok (.invokevirtual 117, 3) := by decide +kernel
theorem dX8_napkinOf_72 : decode cX8_napkinOf 72 = .ok (.ireturn, 1) := by decide +kernel
theorem dX8_napkinOf_73 : decode cX8_napkinOf 73 = .ok (.aload_n 0, 1) := by decide +kernel
theorem dX8_napkinOf_74 : decode cX8_napkinOf 74 = .ok (.getfield 20, 3) := by decide +kernel
theorem dX8_napkinOf_77 : decode cX8_napkinOf 77 = .ok (.iload_n 1, 1) := by decide +kernel
theorem dX8_napkinOf_78 : decode cX8_napkinOf 78 = .ok (.invokevirtual 121, 3) := by decide +kernel
theorem dX8_napkinOf_81 : decode cX8_napkinOf 81 = .ok (.ireturn, 1) := by decide +kernel
theorem dX8_napkinOf_82 : decode cX8_napkinOf 82 = .ok (.aload_n 0, 1) := by decide +kernel
theorem dX8_napkinOf_83 : decode cX8_napkinOf 83 = .ok (.getfield 20, 3) := by decide +kernel
theorem dX8_napkinOf_86 : decode cX8_napkinOf 86 = .ok (.iload_n 1, 1) := by decide +kernel
theorem dX8_napkinOf_87 : decode cX8_napkinOf 87 = .ok (.invokevirtual 124, 3) := by decide +kernel
theorem dX8_napkinOf_90 : decode cX8_napkinOf 90 = .ok (.ireturn, 1) := by decide +kernel
theorem dX8_napkinOf_91 : decode cX8_napkinOf 91 = .ok (.aload_n 0, 1) := by decide +kernel
theorem dX8_napkinOf_92 : decode cX8_napkinOf 92 = .ok (.getfield 20, 3) := by decide +kernel
theorem dX8_napkinOf_95 : decode cX8_napkinOf 95 = .ok (.iload_n 1, 1) := by decide +kernel
theorem dX8_napkinOf_96 : decode cX8_napkinOf 96 = .ok (.invokevirtual 127, 3) := by decide +kernel
theorem dX8_napkinOf_99 : decode cX8_napkinOf 99 = .ok (.ireturn, 1) := by decide +kernel
theorem dX8_napkinOf_100 : decode cX8_napkinOf 100 = .ok (.aload_n 0, 1) := by decide +kernel
theorem dX8_napkinOf_101 : decode cX8_napkinOf 101 = .ok (.getfield 20, 3) := by decide +kernel
theorem dX8_napkinOf_104 : decode cX8_napkinOf 104 = .ok (.iload_n 1, 1) := by decide +kernel
theorem dX8_napkinOf_105 : decode cX8_napkinOf 105 = .ok (.invokevirtual 130, 3) := by decide +kernel
theorem dX8_napkinOf_108 : decode cX8_napkinOf 108 = .ok (.ireturn, 1) := by decide +kernel
theorem dX8_napkinOf_109 : decode cX8_napkinOf 109 = .ok (.aload_n 0, 1) := by decide +kernel
theorem dX8_napkinOf_110 : decode cX8_napkinOf 110 = .ok (.getfield 20, 3) := by decide +kernel
theorem dX8_napkinOf_113 : decode cX8_napkinOf 113 = .ok (.iload_n 1, 1) := by decide +kernel
theorem dX8_napkinOf_114 : decode cX8_napkinOf 114 = .ok (.invokevirtual 133, 3) := by decide +kernel
theorem dX8_napkinOf_117 : decode cX8_napkinOf 117 = .ok (.ireturn, 1) := by decide +kernel
theorem dX8_napkinOf_118 : decode cX8_napkinOf 118 = .ok (.aload_n 0, 1) := by decide +kernel
theorem dX8_napkinOf_119 : decode cX8_napkinOf 119 = .ok (.getfield 20, 3) := by decide +kernel
theorem dX8_napkinOf_122 : decode cX8_napkinOf 122 = .ok (.iload_n 1, 1) := by decide +kernel
theorem dX8_napkinOf_123 : decode cX8_napkinOf 123 = .ok (.invokevirtual 136, 3) := by decide +kernel
theorem dX8_napkinOf_126 : decode cX8_napkinOf 126 = .ok (.ireturn, 1) := by decide +kernel
theorem dX8_napkinOf_127 : decode cX8_napkinOf 127 = .ok (.new 139, 3) := by decide +kernel
theorem dX8_napkinOf_130 : decode cX8_napkinOf 130 = .ok (.dup, 1) := by decide +kernel
theorem dX8_napkinOf_131 : decode cX8_napkinOf 131 = .ok (.ldc 141, 2) := by decide +kernel
theorem dX8_napkinOf_133 : decode cX8_napkinOf 133 = .ok (.invokespecial 143, 3) := by decide +kernel
theorem dX8_napkinOf_136 : decode cX8_napkinOf 136 = .ok (.athrow, 1) := by decide +kernel
set_option maxRecDepth 20000 in
theorem ggX8_tableOf_X8_checkTable : GoodIn wsX8_tableOf wsX8_checkTable := goodIn_ca (goodIn_r _ [8, 9, 10, 11, 12, 7, 13] (by decide +kernel) (by decide +kernel)) (goodIn_sub (fun _ h => List.mem_cons_of_mem _ (List.mem_append_left _ (List.mem_append_right _ h))) (by decide +kernel))
set_option maxRecDepth 20000 in
theorem gX8_tableOf_X8_checkTable : GoodIn wsX8_tableOf (wsV RX8 144 RX8 yX8_checkTable wsX8_checkTable) := goodIn_app (goodIn_of _ (by decide +kernel)) ggX8_tableOf_X8_checkTable
set_option maxRecDepth 20000 in
theorem ggX8_tableOf_X6_laidOn : GoodIn wsX8_tableOf wsX6_laidOn := goodIn_ca (goodIn_r _ [18, 19, 20, 21, 17, 22, 23, 95] (by decide +kernel) (by decide +kernel)) (goodIn_sub (fun _ h => List.mem_cons_of_mem _ (List.mem_append_right _ h)) (by decide +kernel))
set_option maxRecDepth 20000 in
theorem gX8_tableOf_X6_laidOn : GoodIn wsX8_tableOf (wsV RX8 148 RX6 yX6_laidOn wsX6_laidOn) := goodIn_app (goodIn_of _ (by decide +kernel)) ggX8_tableOf_X6_laidOn
set_option maxRecDepth 20000 in
theorem ggX8_tableOf_X8_heard : GoodIn wsX8_tableOf wsX8_heard := goodIn_ca (goodIn_r _ [27, 28, 3, 29, 30, 31, 32, 33, 34, 35, 36, 37, 38, 39, 15, 16, 17, 18, 19, 20, 21, 22, 23, 40, 41, 42, 43, 44, 45, 46, 47, 48, 49, 50, 51, 52, 53, 54, 55, 56, 57, 58, 59, 60, 61, 62, 83, 84, 85, 86, 87, 88, 89, 90, 91, 92, 93, 94, 96, 97, 98, 99, 100, 101, 102, 95] (by decide +kernel) (by decide +kernel)) (goodIn_sub (fun _ h => List.mem_cons_of_mem _ (List.mem_append_right _ h)) (by decide +kernel))
set_option maxRecDepth 20000 in
theorem gX8_tableOf_X8_heard : GoodIn wsX8_tableOf (wsV RX8 151 RX8 yX8_heard wsX8_heard) := goodIn_app (goodIn_of _ (by decide +kernel)) ggX8_tableOf_X8_heard
set_option maxRecDepth 20000 in
theorem ggX8_tableOf_X4_size : GoodIn wsX8_tableOf wsX4_size := goodIn_r _ [66, 34, 96, 97, 98, 99, 100, 101, 102] (by decide +kernel) (by decide +kernel)
set_option maxRecDepth 20000 in
theorem gX8_tableOf_X4_size : GoodIn wsX8_tableOf (wsV RX8 155 RX4 yX4_size wsX4_size) := goodIn_app (goodIn_of _ (by decide +kernel)) ggX8_tableOf_X4_size
set_option maxRecDepth 20000 in
theorem ggX8_tableOf_X4_countOf : GoodIn wsX8_tableOf wsX4_countOf := goodIn_ca (goodIn_r _ [70, 34, 71, 72, 73, 32, 74, 36, 96, 97, 98, 99, 100, 101, 102] (by decide +kernel) (by decide +kernel)) (goodIn_sub (fun _ h => List.mem_cons_of_mem _ (List.mem_append_right _ h)) (by decide +kernel))
set_option maxRecDepth 20000 in
theorem gX8_tableOf_X4_countOf : GoodIn wsX8_tableOf (wsV RX8 161 RX4 yX4_countOf wsX4_countOf) := goodIn_app (goodIn_of _ (by decide +kernel)) ggX8_tableOf_X4_countOf
set_option maxRecDepth 20000 in
theorem ggX8_tableOf_X6_readingsOf : GoodIn wsX8_tableOf wsX6_readingsOf := goodIn_ca (goodIn_r _ [78, 19, 20, 21, 17, 22, 23, 95] (by decide +kernel) (by decide +kernel)) (goodIn_sub (fun _ h => List.mem_cons_of_mem _ (List.mem_append_right _ h)) (by decide +kernel))
set_option maxRecDepth 20000 in
theorem gX8_tableOf_X6_readingsOf : GoodIn wsX8_tableOf (wsV RX8 164 RX6 yX6_readingsOf wsX6_readingsOf) := goodIn_app (goodIn_of _ (by decide +kernel)) ggX8_tableOf_X6_readingsOf
set_option maxRecDepth 20000 in
theorem ggX8_tableOf_X6_puzzlesOf : GoodIn wsX8_tableOf wsX6_puzzlesOf := goodIn_ca (goodIn_r _ [82, 19, 20, 21, 17, 22, 23, 95] (by decide +kernel) (by decide +kernel)) (goodIn_sub (fun _ h => List.mem_cons_of_mem _ (List.mem_append_right _ h)) (by decide +kernel))
set_option maxRecDepth 20000 in
theorem gX8_tableOf_X6_puzzlesOf : GoodIn wsX8_tableOf (wsV RX8 167 RX6 yX6_puzzlesOf wsX6_puzzlesOf) := goodIn_app (goodIn_of _ (by decide +kernel)) ggX8_tableOf_X6_puzzlesOf
theorem dX8_tableOf_0 : decode cX8_tableOf 0 = .ok (.aload_n 0, 1) := by decide +kernel
theorem dX8_tableOf_1 : decode cX8_tableOf 1 = .ok (.iload_n 1, 1) := by decide +kernel
theorem dX8_tableOf_2 : decode cX8_tableOf 2 = .ok (.invokevirtual 144, 3) := by decide +kernel
theorem dX8_tableOf_5 : decode cX8_tableOf 5 = .ok (.iload_n 2, 1) := by decide +kernel
theorem dX8_tableOf_6 : decode cX8_tableOf 6 = .ok (.tableswitch 94 0 5 #[38, 47, 56, 66, 76, 85], 38) := by decide +kernel
theorem dX8_tableOf_44 : decode cX8_tableOf 44 = .ok (.aload_n 0, 1) := by decide +kernel
theorem dX8_tableOf_45 : decode cX8_tableOf 45 = .ok (.getfield 20, 3) := by decide +kernel
theorem dX8_tableOf_48 : decode cX8_tableOf 48 = .ok (.iload_n 1, 1) := by decide +kernel
theorem dX8_tableOf_49 : decode cX8_tableOf 49 = .ok (.invokevirtual 148, 3) := by decide +kernel
theorem dX8_tableOf_52 : decode cX8_tableOf 52 = .ok (.ireturn, 1) := by decide +kernel
theorem dX8_tableOf_53 : decode cX8_tableOf 53 = .ok (.aload_n 0, 1) := by decide +kernel
theorem dX8_tableOf_54 : decode cX8_tableOf 54 = .ok (.iload_n 1, 1) := by decide +kernel
theorem dX8_tableOf_55 : decode cX8_tableOf 55 = .ok (.invokevirtual 151, 3) := by decide +kernel
theorem dX8_tableOf_58 : decode cX8_tableOf 58 = .ok (.invokevirtual 155, 3) := by decide +kernel
theorem dX8_tableOf_61 : decode cX8_tableOf 61 = .ok (.ireturn, 1) := by decide +kernel
theorem dX8_tableOf_62 : decode cX8_tableOf 62 = .ok (.aload_n 0, 1) := by decide +kernel
theorem dX8_tableOf_63 : decode cX8_tableOf 63 = .ok (.iload_n 1, 1) := by decide +kernel
theorem dX8_tableOf_64 : decode cX8_tableOf 64 = .ok (.invokevirtual 151, 3) := by decide +kernel
theorem dX8_tableOf_67 : decode cX8_tableOf 67 = .ok (.iconst 1, 1) := by decide +kernel
theorem dX8_tableOf_68 : decode cX8_tableOf 68 = .ok (.invokevirtual 161, 3) := by decide +kernel
theorem dX8_tableOf_71 : decode cX8_tableOf 71 = .ok (.ireturn, 1) := by decide +kernel
theorem dX8_tableOf_72 : decode cX8_tableOf 72 = .ok (.aload_n 0, 1) := by decide +kernel
theorem dX8_tableOf_73 : decode cX8_tableOf 73 = .ok (.iload_n 1, 1) := by decide +kernel
theorem dX8_tableOf_74 : decode cX8_tableOf 74 = .ok (.invokevirtual 151, 3) := by decide +kernel
theorem dX8_tableOf_77 : decode cX8_tableOf 77 = .ok (.iconst 4, 1) := by decide +kernel
theorem dX8_tableOf_78 : decode cX8_tableOf 78 = .ok (.invokevirtual 161, 3) := by decide +kernel
theorem dX8_tableOf_81 : decode cX8_tableOf 81 = .ok (.ireturn, 1) := by decide +kernel
theorem dX8_tableOf_82 : decode cX8_tableOf 82 = .ok (.aload_n 0, 1) := by decide +kernel
theorem dX8_tableOf_83 : decode cX8_tableOf 83 = .ok (.getfield 20, 3) := by decide +kernel
theorem dX8_tableOf_86 : decode cX8_tableOf 86 = .ok (.iload_n 1, 1) := by decide +kernel
theorem dX8_tableOf_87 : decode cX8_tableOf 87 = .ok (.invokevirtual 164, 3) := by decide +kernel
theorem dX8_tableOf_90 : decode cX8_tableOf 90 = .ok (.ireturn, 1) := by decide +kernel
theorem dX8_tableOf_91 : decode cX8_tableOf 91 = .ok (.aload_n 0, 1) := by decide +kernel
theorem dX8_tableOf_92 : decode cX8_tableOf 92 = .ok (.getfield 20, 3) := by decide +kernel
theorem dX8_tableOf_95 : decode cX8_tableOf 95 = .ok (.iload_n 1, 1) := by decide +kernel
theorem dX8_tableOf_96 : decode cX8_tableOf 96 = .ok (.invokevirtual 167, 3) := by decide +kernel
theorem dX8_tableOf_99 : decode cX8_tableOf 99 = .ok (.ireturn, 1) := by decide +kernel
theorem dX8_tableOf_100 : decode cX8_tableOf 100 = .ok (.new 139, 3) := by decide +kernel
theorem dX8_tableOf_103 : decode cX8_tableOf 103 = .ok (.dup, 1) := by decide +kernel
theorem dX8_tableOf_104 : decode cX8_tableOf 104 = .ok (.ldc 170, 2) := by decide +kernel
theorem dX8_tableOf_106 : decode cX8_tableOf 106 = .ok (.invokespecial 143, 3) := by decide +kernel
theorem dX8_tableOf_109 : decode cX8_tableOf 109 = .ok (.athrow, 1) := by decide +kernel
set_option maxRecDepth 20000 in
theorem ggX8_seat_X8_checkTable : GoodIn wsX8_seat wsX8_checkTable := goodIn_ca (goodIn_r _ [8, 9, 10, 11, 12, 7, 13] (by decide +kernel) (by decide +kernel)) (goodIn_sub (fun _ h => List.mem_cons_of_mem _ (List.mem_append_left _ (List.mem_append_right _ h))) (by decide +kernel))
set_option maxRecDepth 20000 in
theorem gX8_seat_X8_checkTable : GoodIn wsX8_seat (wsV RX8 144 RX8 yX8_checkTable wsX8_checkTable) := goodIn_app (goodIn_of _ (by decide +kernel)) ggX8_seat_X8_checkTable
set_option maxRecDepth 20000 in
theorem ggX8_seat_X6_hasPlace : GoodIn wsX8_seat wsX6_hasPlace := goodIn_ca (goodIn_r _ [18, 19, 20, 21, 17, 22, 23, 24, 25, 26, 27, 47] (by decide +kernel) (by decide +kernel)) (goodIn_sub (fun _ h => List.mem_cons_of_mem _ (List.mem_append_right _ h)) (by decide +kernel))
set_option maxRecDepth 20000 in
theorem gX8_seat_X6_hasPlace : GoodIn wsX8_seat (wsV RX8 172 RX6 yX6_hasPlace wsX6_hasPlace) := goodIn_app (goodIn_of _ (by decide +kernel)) ggX8_seat_X6_hasPlace
set_option maxRecDepth 20000 in
theorem ggX8_seat_X6_seatedAt : GoodIn wsX8_seat wsX6_seatedAt := goodIn_ca (goodIn_r _ [31, 27, 32, 33, 17, 34, 47] (by decide +kernel) (by decide +kernel)) (goodIn_sub (fun _ h => List.mem_cons_of_mem _ (List.mem_append_right _ h)) (by decide +kernel))
set_option maxRecDepth 20000 in
theorem gX8_seat_X6_seatedAt : GoodIn wsX8_seat (wsV RX8 181 RX6 yX6_seatedAt wsX6_seatedAt) := goodIn_app (goodIn_of _ (by decide +kernel)) ggX8_seat_X6_seatedAt
theorem dX8_seat_0 : decode cX8_seat 0 = .ok (.aload_n 0, 1) := by decide +kernel
theorem dX8_seat_1 : decode cX8_seat 1 = .ok (.iload_n 1, 1) := by decide +kernel
theorem dX8_seat_2 : decode cX8_seat 2 = .ok (.invokevirtual 144, 3) := by decide +kernel
theorem dX8_seat_5 : decode cX8_seat 5 = .ok (.aload_n 0, 1) := by decide +kernel
theorem dX8_seat_6 : decode cX8_seat 6 = .ok (.getfield 20, 3) := by decide +kernel
theorem dX8_seat_9 : decode cX8_seat 9 = .ok (.iload_n 1, 1) := by decide +kernel
theorem dX8_seat_10 : decode cX8_seat 10 = .ok (.iload_n 2, 1) := by decide +kernel
theorem dX8_seat_11 : decode cX8_seat 11 = .ok (.invokevirtual 172, 3) := by decide +kernel
theorem dX8_seat_14 : decode cX8_seat 14 = .ok (.ifCond .ne 13, 3) := by decide +kernel
theorem dX8_seat_17 : decode cX8_seat 17 = .ok (.new 176, 3) := by decide +kernel
theorem dX8_seat_20 : decode cX8_seat 20 = .ok (.dup, 1) := by decide +kernel
theorem dX8_seat_21 : decode cX8_seat 21 = .ok (.ldc 178, 2) := by decide +kernel
theorem dX8_seat_23 : decode cX8_seat 23 = .ok (.invokespecial 180, 3) := by decide +kernel
theorem dX8_seat_26 : decode cX8_seat 26 = .ok (.athrow, 1) := by decide +kernel
theorem dX8_seat_27 : decode cX8_seat 27 = .ok (.aload_n 0, 1) := by decide +kernel
theorem dX8_seat_28 : decode cX8_seat 28 = .ok (.getfield 20, 3) := by decide +kernel
theorem dX8_seat_31 : decode cX8_seat 31 = .ok (.iload_n 1, 1) := by decide +kernel
theorem dX8_seat_32 : decode cX8_seat 32 = .ok (.iload_n 2, 1) := by decide +kernel
theorem dX8_seat_33 : decode cX8_seat 33 = .ok (.invokevirtual 181, 3) := by decide +kernel
theorem dX8_seat_36 : decode cX8_seat 36 = .ok (.ireturn, 1) := by decide +kernel
set_option maxRecDepth 20000 in
theorem ggX8_said_X8_checkTable : GoodIn wsX8_said wsX8_checkTable := goodIn_ca (goodIn_r _ [7, 8, 9, 10, 11, 6, 12] (by decide +kernel) (by decide +kernel)) (goodIn_sub (fun _ h => List.mem_cons_of_mem _ (List.mem_append_left _ (List.mem_append_right _ h))) (by decide +kernel))
set_option maxRecDepth 20000 in
theorem gX8_said_X8_checkTable : GoodIn wsX8_said (wsV RX8 144 RX8 yX8_checkTable wsX8_checkTable) := goodIn_app (goodIn_of _ (by decide +kernel)) ggX8_said_X8_checkTable
set_option maxRecDepth 20000 in
theorem ggX8_said_X8_heard : GoodIn wsX8_said wsX8_heard := goodIn_ca (goodIn_r _ [16, 17, 18, 19, 20, 21, 22, 23, 24, 25, 26, 27, 28, 29, 30, 31, 32, 33, 34, 35, 36, 37, 38, 39, 40, 41, 42, 43, 44, 45, 46, 47, 48, 49, 50, 51, 52, 53, 54, 55, 56, 57, 58, 59, 60, 61, 70, 71, 72, 73, 74, 75, 76, 77, 78, 79, 80, 81, 82, 83, 84, 85, 86, 87, 88, 89] (by decide +kernel) (by decide +kernel)) (goodIn_sub (fun _ h => List.mem_cons_of_mem _ (List.mem_append_right _ h)) (by decide +kernel))
set_option maxRecDepth 20000 in
theorem gX8_said_X8_heard : GoodIn wsX8_said (wsV RX8 151 RX8 yX8_heard wsX8_heard) := goodIn_app (goodIn_of _ (by decide +kernel)) ggX8_said_X8_heard
set_option maxRecDepth 20000 in
theorem ggX8_said_X4_napkinAt : GoodIn wsX8_said wsX4_napkinAt := goodIn_ca (goodIn_r _ [65, 25, 66, 67, 68, 22, 69, 24, 82, 83, 84, 85, 86, 87, 88] (by decide +kernel) (by decide +kernel)) (goodIn_sub (fun _ h => List.mem_cons_of_mem _ (List.mem_append_right _ h)) (by decide +kernel))
set_option maxRecDepth 20000 in
theorem gX8_said_X4_napkinAt : GoodIn wsX8_said (wsV RX8 185 RX4 yX4_napkinAt wsX4_napkinAt) := goodIn_app (goodIn_of _ (by decide +kernel)) ggX8_said_X4_napkinAt
theorem dX8_said_0 : decode cX8_said 0 = .ok (.aload_n 0, 1) := by decide +kernel
theorem dX8_said_1 : decode cX8_said 1 = .ok (.iload_n 1, 1) := by decide +kernel
theorem dX8_said_2 : decode cX8_said 2 = .ok (.invokevirtual 144, 3) := by decide +kernel
theorem dX8_said_5 : decode cX8_said 5 = .ok (.aload_n 0, 1) := by decide +kernel
theorem dX8_said_6 : decode cX8_said 6 = .ok (.iload_n 1, 1) := by decide +kernel
theorem dX8_said_7 : decode cX8_said 7 = .ok (.invokevirtual 151, 3) := by decide +kernel
theorem dX8_said_10 : decode cX8_said 10 = .ok (.iload_n 2, 1) := by decide +kernel
theorem dX8_said_11 : decode cX8_said 11 = .ok (.invokevirtual 185, 3) := by decide +kernel
theorem dX8_said_14 : decode cX8_said 14 = .ok (.istore_n 3, 1) := by decide +kernel
theorem dX8_said_15 : decode cX8_said 15 = .ok (.iload_n 3, 1) := by decide +kernel
theorem dX8_said_16 : decode cX8_said 16 = .ok (.iconst (-1), 1) := by decide +kernel
theorem dX8_said_17 : decode cX8_said 17 = .ok (.if_icmp .ne 13, 3) := by decide +kernel
theorem dX8_said_20 : decode cX8_said 20 = .ok (.new 176, 3) := by decide +kernel
theorem dX8_said_23 : decode cX8_said 23 = .ok (.dup, 1) := by decide +kernel
theorem dX8_said_24 : decode cX8_said 24 = .ok (.ldc 188, 2) := by decide +kernel
theorem dX8_said_26 : decode cX8_said 26 = .ok (.invokespecial 180, 3) := by decide +kernel
theorem dX8_said_29 : decode cX8_said 29 = .ok (.athrow, 1) := by decide +kernel
theorem dX8_said_30 : decode cX8_said 30 = .ok (.iload_n 3, 1) := by decide +kernel
theorem dX8_said_31 : decode cX8_said 31 = .ok (.ireturn, 1) := by decide +kernel
set_option maxRecDepth 20000 in
theorem ggX8_wrong_X8_checkTable : GoodIn wsX8_wrong wsX8_checkTable := goodIn_ca (goodIn_r _ [5, 6, 7, 8, 9, 4, 10] (by decide +kernel) (by decide +kernel)) (goodIn_sub (fun _ h => List.mem_cons_of_mem _ (List.mem_append_left _ (List.mem_append_right _ h))) (by decide +kernel))
set_option maxRecDepth 20000 in
theorem gX8_wrong_X8_checkTable : GoodIn wsX8_wrong (wsV RX8 144 RX8 yX8_checkTable wsX8_checkTable) := goodIn_app (goodIn_of _ (by decide +kernel)) ggX8_wrong_X8_checkTable
set_option maxRecDepth 20000 in
theorem ggX8_wrong_X8_heard : GoodIn wsX8_wrong wsX8_heard := goodIn_ca (goodIn_r _ [14, 15, 16, 17, 18, 19, 20, 21, 22, 23, 24, 25, 26, 27, 28, 29, 30, 31, 32, 33, 34, 35, 36, 37, 38, 39, 40, 41, 42, 43, 44, 45, 46, 47, 48, 49, 50, 51, 52, 53, 54, 55, 56, 57, 58, 59, 74, 75, 76, 77, 78, 79, 80, 81, 82, 83, 84, 85, 86, 87, 88, 89, 90, 91, 92, 93] (by decide +kernel) (by decide +kernel)) (goodIn_sub (fun _ h => List.mem_cons_of_mem _ (List.mem_append_right _ h)) (by decide +kernel))
set_option maxRecDepth 20000 in
theorem gX8_wrong_X8_heard : GoodIn wsX8_wrong (wsV RX8 151 RX8 yX8_heard wsX8_heard) := goodIn_app (goodIn_of _ (by decide +kernel)) ggX8_wrong_X8_heard
set_option maxRecDepth 20000 in
theorem ggX8_wrong_X4_errorByNapkins : GoodIn wsX8_wrong wsX4_errorByNapkins := goodIn_ca (goodIn_r _ [63, 22, 64, 65, 66, 20, 67, 24, 68, 69, 70, 71, 72, 73, 86, 87, 88, 89, 90, 91, 92] (by decide +kernel) (by decide +kernel)) (goodIn_sub (fun _ h => List.mem_cons_of_mem _ (List.mem_append_right _ h)) (by decide +kernel))
set_option maxRecDepth 20000 in
theorem gX8_wrong_X4_errorByNapkins : GoodIn wsX8_wrong (wsV RX8 190 RX4 yX4_errorByNapkins wsX4_errorByNapkins) := goodIn_app (goodIn_of _ (by decide +kernel)) ggX8_wrong_X4_errorByNapkins
theorem dX8_wrong_0 : decode cX8_wrong 0 = .ok (.aload_n 0, 1) := by decide +kernel
theorem dX8_wrong_1 : decode cX8_wrong 1 = .ok (.iload_n 1, 1) := by decide +kernel
theorem dX8_wrong_2 : decode cX8_wrong 2 = .ok (.invokevirtual 144, 3) := by decide +kernel
theorem dX8_wrong_5 : decode cX8_wrong 5 = .ok (.aload_n 0, 1) := by decide +kernel
theorem dX8_wrong_6 : decode cX8_wrong 6 = .ok (.iload_n 1, 1) := by decide +kernel
theorem dX8_wrong_7 : decode cX8_wrong 7 = .ok (.invokevirtual 151, 3) := by decide +kernel
theorem dX8_wrong_10 : decode cX8_wrong 10 = .ok (.invokevirtual 190, 3) := by decide +kernel
theorem dX8_wrong_13 : decode cX8_wrong 13 = .ok (.ireturn, 1) := by decide +kernel
set_option maxRecDepth 20000 in
theorem ggX8_wrongAgain_X8_checkTable : GoodIn wsX8_wrongAgain wsX8_checkTable := goodIn_ca (goodIn_r _ [5, 6, 7, 8, 9, 4, 10] (by decide +kernel) (by decide +kernel)) (goodIn_sub (fun _ h => List.mem_cons_of_mem _ (List.mem_append_left _ (List.mem_append_right _ h))) (by decide +kernel))
set_option maxRecDepth 20000 in
theorem gX8_wrongAgain_X8_checkTable : GoodIn wsX8_wrongAgain (wsV RX8 144 RX8 yX8_checkTable wsX8_checkTable) := goodIn_app (goodIn_of _ (by decide +kernel)) ggX8_wrongAgain_X8_checkTable
set_option maxRecDepth 20000 in
theorem ggX8_wrongAgain_X8_heard : GoodIn wsX8_wrongAgain wsX8_heard := goodIn_ca (goodIn_r _ [14, 15, 16, 17, 18, 19, 20, 21, 22, 23, 24, 25, 26, 27, 28, 29, 30, 31, 32, 33, 34, 35, 36, 37, 38, 39, 40, 41, 42, 43, 44, 45, 46, 47, 48, 49, 50, 51, 52, 53, 54, 55, 56, 57, 58, 59, 80, 81, 82, 83, 84, 85, 86, 87, 88, 89, 90, 91, 92, 93, 94, 95, 96, 97, 98, 99] (by decide +kernel) (by decide +kernel)) (goodIn_sub (fun _ h => List.mem_cons_of_mem _ (List.mem_append_right _ h)) (by decide +kernel))
set_option maxRecDepth 20000 in
theorem gX8_wrongAgain_X8_heard : GoodIn wsX8_wrongAgain (wsV RX8 151 RX8 yX8_heard wsX8_heard) := goodIn_app (goodIn_of _ (by decide +kernel)) ggX8_wrongAgain_X8_heard
set_option maxRecDepth 20000 in
theorem ggX8_wrongAgain_X4_errorByPhrases : GoodIn wsX8_wrongAgain wsX4_errorByPhrases := goodIn_ca (goodIn_r _ [63, 22, 64, 65, 66, 20, 67, 68, 69, 70, 71, 24, 72, 73, 74, 75, 76, 77, 78, 79, 92, 93, 94, 95, 96, 97, 98] (by decide +kernel) (by decide +kernel)) (goodIn_sub (fun _ h => List.mem_cons_of_mem _ (List.mem_append_right _ h)) (by decide +kernel))
set_option maxRecDepth 20000 in
theorem gX8_wrongAgain_X4_errorByPhrases : GoodIn wsX8_wrongAgain (wsV RX8 193 RX4 yX4_errorByPhrases wsX4_errorByPhrases) := goodIn_app (goodIn_of _ (by decide +kernel)) ggX8_wrongAgain_X4_errorByPhrases
theorem dX8_wrongAgain_0 : decode cX8_wrongAgain 0 = .ok (.aload_n 0, 1) := by decide +kernel
theorem dX8_wrongAgain_1 : decode cX8_wrongAgain 1 = .ok (.iload_n 1, 1) := by decide +kernel
theorem dX8_wrongAgain_2 : decode cX8_wrongAgain 2 = .ok (.invokevirtual 144, 3) := by decide +kernel
theorem dX8_wrongAgain_5 : decode cX8_wrongAgain 5 = .ok (.aload_n 0, 1) := by decide +kernel
theorem dX8_wrongAgain_6 : decode cX8_wrongAgain 6 = .ok (.iload_n 1, 1) := by decide +kernel
theorem dX8_wrongAgain_7 : decode cX8_wrongAgain 7 = .ok (.invokevirtual 151, 3) := by decide +kernel
theorem dX8_wrongAgain_10 : decode cX8_wrongAgain 10 = .ok (.invokevirtual 193, 3) := by decide +kernel
theorem dX8_wrongAgain_13 : decode cX8_wrongAgain 13 = .ok (.ireturn, 1) := by decide +kernel
set_option maxRecDepth 20000 in
theorem ggX8_isRight_X8_checkTable : GoodIn wsX8_isRight wsX8_checkTable := goodIn_ca (goodIn_r _ [5, 6, 7, 8, 9, 4, 10] (by decide +kernel) (by decide +kernel)) (goodIn_sub (fun _ h => List.mem_cons_of_mem _ (List.mem_append_left _ (List.mem_append_right _ h))) (by decide +kernel))
set_option maxRecDepth 20000 in
theorem gX8_isRight_X8_checkTable : GoodIn wsX8_isRight (wsV RX8 144 RX8 yX8_checkTable wsX8_checkTable) := goodIn_app (goodIn_of _ (by decide +kernel)) ggX8_isRight_X8_checkTable
set_option maxRecDepth 20000 in
theorem ggX8_isRight_X8_heard : GoodIn wsX8_isRight wsX8_heard := goodIn_ca (goodIn_r _ [14, 15, 16, 17, 18, 19, 20, 21, 22, 23, 24, 25, 26, 27, 28, 29, 30, 31, 32, 33, 34, 35, 36, 37, 38, 39, 40, 41, 42, 43, 44, 45, 46, 47, 48, 49, 50, 51, 52, 53, 54, 55, 56, 57, 58, 59, 78, 79, 80, 81, 82, 83, 84, 85, 86, 87, 88, 89, 90, 91, 92, 93, 94, 95, 96, 97] (by decide +kernel) (by decide +kernel)) (goodIn_sub (fun _ h => List.mem_cons_of_mem _ (List.mem_append_right _ h)) (by decide +kernel))
set_option maxRecDepth 20000 in
theorem gX8_isRight_X8_heard : GoodIn wsX8_isRight (wsV RX8 151 RX8 yX8_heard wsX8_heard) := goodIn_app (goodIn_of _ (by decide +kernel)) ggX8_isRight_X8_heard
set_option maxRecDepth 20000 in
theorem ggX8_isRight_X4_isWhole : GoodIn wsX8_isRight wsX4_isWhole := goodIn_ca (goodIn_r _ [63, 64, 65, 66, 20, 67, 22, 68, 69, 70, 71, 24, 72, 73, 74, 75, 76, 77, 90, 91, 92, 93, 94, 95, 96] (by decide +kernel) (by decide +kernel)) (goodIn_sub (fun _ h => List.mem_cons_of_mem _ (List.mem_append_right _ h)) (by decide +kernel))
set_option maxRecDepth 20000 in
theorem gX8_isRight_X4_isWhole : GoodIn wsX8_isRight (wsV RX8 196 RX4 yX4_isWhole wsX4_isWhole) := goodIn_app (goodIn_of _ (by decide +kernel)) ggX8_isRight_X4_isWhole
theorem dX8_isRight_0 : decode cX8_isRight 0 = .ok (.aload_n 0, 1) := by decide +kernel
theorem dX8_isRight_1 : decode cX8_isRight 1 = .ok (.iload_n 1, 1) := by decide +kernel
theorem dX8_isRight_2 : decode cX8_isRight 2 = .ok (.invokevirtual 144, 3) := by decide +kernel
theorem dX8_isRight_5 : decode cX8_isRight 5 = .ok (.aload_n 0, 1) := by decide +kernel
theorem dX8_isRight_6 : decode cX8_isRight 6 = .ok (.iload_n 1, 1) := by decide +kernel
theorem dX8_isRight_7 : decode cX8_isRight 7 = .ok (.invokevirtual 151, 3) := by decide +kernel
theorem dX8_isRight_10 : decode cX8_isRight 10 = .ok (.invokevirtual 196, 3) := by decide +kernel
theorem dX8_isRight_13 : decode cX8_isRight 13 = .ok (.ireturn, 1) := by decide +kernel
set_option maxRecDepth 20000 in
theorem ggX8_phrases_X8_checkTable : GoodIn wsX8_phrases wsX8_checkTable := goodIn_ca (goodIn_r _ [5, 6, 7, 8, 9, 4, 10] (by decide +kernel) (by decide +kernel)) (goodIn_sub (fun _ h => List.mem_cons_of_mem _ (List.mem_append_left _ (List.mem_append_right _ h))) (by decide +kernel))
set_option maxRecDepth 20000 in
theorem gX8_phrases_X8_checkTable : GoodIn wsX8_phrases (wsV RX8 144 RX8 yX8_checkTable wsX8_checkTable) := goodIn_app (goodIn_of _ (by decide +kernel)) ggX8_phrases_X8_checkTable
set_option maxRecDepth 20000 in
theorem ggX8_phrases_X8_heard : GoodIn wsX8_phrases wsX8_heard := goodIn_ca (goodIn_r _ [14, 15, 16, 17, 18, 19, 20, 21, 22, 23, 24, 25, 26, 27, 28, 29, 30, 31, 32, 33, 34, 35, 36, 37, 38, 39, 40, 41, 42, 43, 44, 45, 46, 47, 48, 49, 50, 51, 52, 53, 54, 55, 56, 57, 58, 59, 82, 83, 84, 85, 86, 87, 88, 89, 90, 91, 92, 93, 94, 95, 96, 97, 98, 99, 100, 101] (by decide +kernel) (by decide +kernel)) (goodIn_sub (fun _ h => List.mem_cons_of_mem _ (List.mem_append_right _ h)) (by decide +kernel))
set_option maxRecDepth 20000 in
theorem gX8_phrases_X8_heard : GoodIn wsX8_phrases (wsV RX8 151 RX8 yX8_heard wsX8_heard) := goodIn_app (goodIn_of _ (by decide +kernel)) ggX8_phrases_X8_heard
set_option maxRecDepth 20000 in
theorem ggX8_phrases_X4_phraseCount : GoodIn wsX8_phrases wsX4_phraseCount := goodIn_ca (goodIn_r _ [63, 64, 65, 66, 20, 67, 22, 68, 69, 70, 71, 24, 72, 73, 74, 75, 76, 77, 78, 79, 80, 81, 94, 95, 96, 97, 98, 99, 100] (by decide +kernel) (by decide +kernel)) (goodIn_sub (fun _ h => List.mem_cons_of_mem _ (List.mem_append_right _ h)) (by decide +kernel))
set_option maxRecDepth 20000 in
theorem gX8_phrases_X4_phraseCount : GoodIn wsX8_phrases (wsV RX8 200 RX4 yX4_phraseCount wsX4_phraseCount) := goodIn_app (goodIn_of _ (by decide +kernel)) ggX8_phrases_X4_phraseCount
theorem dX8_phrases_0 : decode cX8_phrases 0 = .ok (.aload_n 0, 1) := by decide +kernel
theorem dX8_phrases_1 : decode cX8_phrases 1 = .ok (.iload_n 1, 1) := by decide +kernel
theorem dX8_phrases_2 : decode cX8_phrases 2 = .ok (.invokevirtual 144, 3) := by decide +kernel
theorem dX8_phrases_5 : decode cX8_phrases 5 = .ok (.aload_n 0, 1) := by decide +kernel
theorem dX8_phrases_6 : decode cX8_phrases 6 = .ok (.iload_n 1, 1) := by decide +kernel
theorem dX8_phrases_7 : decode cX8_phrases 7 = .ok (.invokevirtual 151, 3) := by decide +kernel
theorem dX8_phrases_10 : decode cX8_phrases 10 = .ok (.invokevirtual 200, 3) := by decide +kernel
theorem dX8_phrases_13 : decode cX8_phrases 13 = .ok (.ireturn, 1) := by decide +kernel
set_option maxRecDepth 20000 in
theorem ggX8_phraseOf_X8_checkTable : GoodIn wsX8_phraseOf wsX8_checkTable := goodIn_ca (goodIn_r _ [9, 10, 11, 12, 13, 8, 14] (by decide +kernel) (by decide +kernel)) (goodIn_sub (fun _ h => List.mem_cons_of_mem _ (List.mem_append_left _ (List.mem_append_right _ h))) (by decide +kernel))
set_option maxRecDepth 20000 in
theorem gX8_phraseOf_X8_checkTable : GoodIn wsX8_phraseOf (wsV RX8 144 RX8 yX8_checkTable wsX8_checkTable) := goodIn_app (goodIn_of _ (by decide +kernel)) ggX8_phraseOf_X8_checkTable
set_option maxRecDepth 20000 in
theorem ggX8_phraseOf_X8_heard : GoodIn wsX8_phraseOf wsX8_heard := goodIn_ca (goodIn_r _ [18, 19, 20, 21, 22, 23, 24, 25, 26, 27, 28, 29, 30, 31, 32, 33, 34, 35, 36, 37, 38, 39, 40, 41, 42, 43, 44, 45, 46, 47, 48, 49, 50, 51, 52, 53, 54, 55, 56, 57, 58, 59, 60, 61, 62, 63, 118, 119, 120, 121, 122, 123, 124, 125, 126, 127, 128, 129, 130, 131, 132, 133, 134, 135, 136, 137] (by decide +kernel) (by decide +kernel)) (goodIn_sub (fun _ h => List.mem_cons_of_mem _ (List.mem_append_right _ h)) (by decide +kernel))
set_option maxRecDepth 20000 in
theorem gX8_phraseOf_X8_heard : GoodIn wsX8_phraseOf (wsV RX8 151 RX8 yX8_heard wsX8_heard) := goodIn_app (goodIn_of _ (by decide +kernel)) ggX8_phraseOf_X8_heard
set_option maxRecDepth 20000 in
theorem ggX8_phraseOf_X4_phraseCount : GoodIn wsX8_phraseOf wsX4_phraseCount := goodIn_ca (goodIn_r _ [67, 68, 69, 70, 24, 71, 26, 72, 73, 74, 75, 28, 76, 77, 78, 79, 80, 81, 82, 83, 84, 85, 130, 131, 132, 133, 134, 135, 136] (by decide +kernel) (by decide +kernel)) (goodIn_sub (fun _ h => List.mem_cons_of_mem _ (List.mem_append_right _ h)) (by decide +kernel))
set_option maxRecDepth 20000 in
theorem gX8_phraseOf_X4_phraseCount : GoodIn wsX8_phraseOf (wsV RX8 200 RX4 yX4_phraseCount wsX4_phraseCount) := goodIn_app (goodIn_of _ (by decide +kernel)) ggX8_phraseOf_X4_phraseCount
set_option maxRecDepth 20000 in
theorem ggX8_phraseOf_X4_startOf : GoodIn wsX8_phraseOf wsX4_startOf := goodIn_ca (goodIn_r _ [89, 26, 90, 91, 92, 24, 93, 72, 73, 74, 75, 28, 130, 131, 132, 133, 134, 135, 136] (by decide +kernel) (by decide +kernel)) (goodIn_sub (fun _ h => List.mem_cons_of_mem _ (List.mem_append_right _ h)) (by decide +kernel))
set_option maxRecDepth 20000 in
theorem gX8_phraseOf_X4_startOf : GoodIn wsX8_phraseOf (wsV RX8 205 RX4 yX4_startOf wsX4_startOf) := goodIn_app (goodIn_of _ (by decide +kernel)) ggX8_phraseOf_X4_startOf
set_option maxRecDepth 20000 in
theorem ggX8_phraseOf_X4_moodFrom : GoodIn wsX8_phraseOf wsX4_moodFrom := goodIn_ca (goodIn_r _ [97, 26, 72, 73, 74, 24, 75, 28, 130, 131, 132, 133, 134, 135, 136] (by decide +kernel) (by decide +kernel)) (goodIn_sub (fun _ h => List.mem_cons_of_mem _ (List.mem_append_right _ h)) (by decide +kernel))
set_option maxRecDepth 20000 in
theorem gX8_phraseOf_X4_moodFrom : GoodIn wsX8_phraseOf (wsV RX8 208 RX4 yX4_moodFrom wsX4_moodFrom) := goodIn_app (goodIn_of _ (by decide +kernel)) ggX8_phraseOf_X4_moodFrom
set_option maxRecDepth 20000 in
theorem ggX8_phraseOf_X4_napkinAt : GoodIn wsX8_phraseOf wsX4_napkinAt := goodIn_ca (goodIn_r _ [101, 27, 102, 103, 104, 24, 105, 26, 130, 131, 132, 133, 134, 135, 136] (by decide +kernel) (by decide +kernel)) (goodIn_sub (fun _ h => List.mem_cons_of_mem _ (List.mem_append_right _ h)) (by decide +kernel))
set_option maxRecDepth 20000 in
theorem gX8_phraseOf_X4_napkinAt : GoodIn wsX8_phraseOf (wsV RX8 185 RX4 yX4_napkinAt wsX4_napkinAt) := goodIn_app (goodIn_of _ (by decide +kernel)) ggX8_phraseOf_X4_napkinAt
set_option maxRecDepth 20000 in
theorem ggX8_phraseOf_X4_isBoatAt : GoodIn wsX8_phraseOf wsX4_isBoatAt := goodIn_ca (goodIn_r _ [109, 72, 73, 74, 24, 75, 26, 28, 130, 131, 132, 133, 134, 135, 136] (by decide +kernel) (by decide +kernel)) (goodIn_sub (fun _ h => List.mem_cons_of_mem _ (List.mem_append_right _ h)) (by decide +kernel))
set_option maxRecDepth 20000 in
theorem gX8_phraseOf_X4_isBoatAt : GoodIn wsX8_phraseOf (wsV RX8 211 RX4 yX4_isBoatAt wsX4_isBoatAt) := goodIn_app (goodIn_of _ (by decide +kernel)) ggX8_phraseOf_X4_isBoatAt
set_option maxRecDepth 20000 in
theorem ggX8_phraseOf_X4_isAgreed : GoodIn wsX8_phraseOf wsX4_isAgreed := goodIn_ca (goodIn_r _ [113, 114, 115, 116, 24, 117, 29, 102, 103, 104, 105, 26, 130, 131, 132, 133, 134, 135, 136] (by decide +kernel) (by decide +kernel)) (goodIn_sub (fun _ h => List.mem_cons_of_mem _ (List.mem_append_right _ h)) (by decide +kernel))
set_option maxRecDepth 20000 in
theorem gX8_phraseOf_X4_isAgreed : GoodIn wsX8_phraseOf (wsV RX8 214 RX4 yX4_isAgreed wsX4_isAgreed) := goodIn_app (goodIn_of _ (by decide +kernel)) ggX8_phraseOf_X4_isAgreed
theorem dX8_phraseOf_0 : decode cX8_phraseOf 0 = .ok (.aload_n 0, 1) := by decide +kernel
theorem dX8_phraseOf_1 : decode cX8_phraseOf 1 = .ok (.iload_n 1, 1) := by decide +kernel
theorem dX8_phraseOf_2 : decode cX8_phraseOf 2 = .ok (.invokevirtual 144, 3) := by decide +kernel
theorem dX8_phraseOf_5 : decode cX8_phraseOf 5 = .ok (.aload_n 0, 1) := by decide +kernel
theorem dX8_phraseOf_6 : decode cX8_phraseOf 6 = .ok (.iload_n 1, 1) := by decide +kernel
theorem dX8_phraseOf_7 : decode cX8_phraseOf 7 = .ok (.invokevirtual 151, 3) := by decide +kernel
theorem dX8_phraseOf_10 : decode cX8_phraseOf 10 = .ok (.astore 4, 2) := by decide +kernel
theorem dX8_phraseOf_12 : decode cX8_phraseOf 12 = .ok (.iload_n 2, 1) := by decide +kernel
theorem dX8_phraseOf_13 : decode cX8_phraseOf 13 = .ok (.ifCond .lt 12, 3) := by decide +kernel
theorem dX8_phraseOf_16 : decode cX8_phraseOf 16 = .ok (.iload_n 2, 1) := by decide +kernel
theorem dX8_phraseOf_17 : decode cX8_phraseOf 17 = .ok (.aload 4, 2) := by decide +kernel
theorem dX8_phraseOf_19 : decode cX8_phraseOf 19 = .ok (.invokevirtual 200, 3) := by decide +kernel
theorem dX8_phraseOf_22 : decode cX8_phraseOf 22 = .ok (.if_icmp .lt 13, 3) := by decide +kernel
theorem dX8_phraseOf_25 : decode cX8_phraseOf 25 = .ok (.new 176, 3) := by decide +kernel
theorem dX8_phraseOf_28 : decode cX8_phraseOf 28 = .ok (.dup, 1) := by decide +kernel
theorem dX8_phraseOf_29 : decode cX8_phraseOf 29 = .ok (.ldc 203, 2) := by decide +kernel
theorem dX8_phraseOf_31 : decode cX8_phraseOf 31 = .ok (.invokespecial 180, 3) := by decide +kernel
theorem dX8_phraseOf_34 : decode cX8_phraseOf 34 = .ok (.athrow, 1) := by decide +kernel
theorem dX8_phraseOf_35 : decode cX8_phraseOf 35 = .ok (.aload 4, 2) := by decide +kernel
theorem dX8_phraseOf_37 : decode cX8_phraseOf 37 = .ok (.iload_n 2, 1) := by decide +kernel
theorem dX8_phraseOf_38 : decode cX8_phraseOf 38 = .ok (.invokevirtual 205, 3) := by decide +kernel
theorem dX8_phraseOf_41 : decode cX8_phraseOf 41 = .ok (.istore 5, 2) := by decide +kernel
theorem dX8_phraseOf_43 : decode cX8_phraseOf 43 = .ok (.aload 4, 2) := by decide +kernel
theorem dX8_phraseOf_45 : decode cX8_phraseOf 45 = .ok (.iload 5, 2) := by decide +kernel
theorem dX8_phraseOf_47 : decode cX8_phraseOf 47 = .ok (.invokevirtual 208, 3) := by decide +kernel
theorem dX8_phraseOf_50 : decode cX8_phraseOf 50 = .ok (.istore 6, 2) := by decide +kernel
theorem dX8_phraseOf_52 : decode cX8_phraseOf 52 = .ok (.iload_n 3, 1) := by decide +kernel
theorem dX8_phraseOf_53 : decode cX8_phraseOf 53 = .ok (.tableswitch 89 0 3 #[31, 37, 45, 71], 31) := by decide +kernel
theorem dX8_phraseOf_84 : decode cX8_phraseOf 84 = .ok (.iload 6, 2) := by decide +kernel
theorem dX8_phraseOf_86 : decode cX8_phraseOf 86 = .ok (.iload 5, 2) := by decide +kernel
theorem dX8_phraseOf_88 : decode cX8_phraseOf 88 = .ok (.isub, 1) := by decide +kernel
theorem dX8_phraseOf_89 : decode cX8_phraseOf 89 = .ok (.ireturn, 1) := by decide +kernel
theorem dX8_phraseOf_90 : decode cX8_phraseOf 90 = .ok (.aload 4, 2) := by decide +kernel
theorem dX8_phraseOf_92 : decode cX8_phraseOf 92 = .ok (.iload 6, 2) := by decide +kernel
theorem dX8_phraseOf_94 : decode cX8_phraseOf 94 = .ok (.invokevirtual 185, 3) := by decide +kernel
theorem dX8_phraseOf_97 : decode cX8_phraseOf 97 = .ok (.ireturn, 1) := by decide +kernel
theorem dX8_phraseOf_98 : decode cX8_phraseOf 98 = .ok (.aload 4, 2) := by decide +kernel
theorem dX8_phraseOf_100 : decode cX8_phraseOf 100 = .ok (.iload 6, 2) := by decide +kernel
theorem dX8_phraseOf_102 : decode cX8_phraseOf 102 = .ok (.iconst 1, 1) := by decide +kernel
theorem dX8_phraseOf_103 : decode cX8_phraseOf 103 = .ok (.iadd, 1) := by decide +kernel
theorem dX8_phraseOf_104 : decode cX8_phraseOf 104 = .ok (.invokevirtual 211, 3) := by decide +kernel
theorem dX8_phraseOf_107 : decode cX8_phraseOf 107 = .ok (.ifCond .eq 15, 3) := by decide +kernel
theorem dX8_phraseOf_110 : decode cX8_phraseOf 110 = .ok (.aload 4, 2) := by decide +kernel
theorem dX8_phraseOf_112 : decode cX8_phraseOf 112 = .ok (.iload 6, 2) := by decide +kernel
theorem dX8_phraseOf_114 : decode cX8_phraseOf 114 = .ok (.iconst 1, 1) := by decide +kernel
theorem dX8_phraseOf_115 : decode cX8_phraseOf 115 = .ok (.iadd, 1) := by decide +kernel
theorem dX8_phraseOf_116 : decode cX8_phraseOf 116 = .ok (.invokevirtual 185, 3) := by decide +kernel
theorem dX8_phraseOf_119 : decode cX8_phraseOf 119 = .ok (.goto 4, 3) := by decide +kernel
theorem dX8_phraseOf_122 : decode cX8_phraseOf 122 = .ok (.iconst (-1), 1) := by decide +kernel
theorem dX8_phraseOf_123 : decode cX8_phraseOf 123 = .ok (.ireturn, 1) := by decide +kernel
theorem dX8_phraseOf_124 : decode cX8_phraseOf 124 = .ok (.aload 4, 2) := by decide +kernel
theorem dX8_phraseOf_126 : decode cX8_phraseOf 126 = .ok (.iload 5, 2) := by decide +kernel
theorem dX8_phraseOf_128 : decode cX8_phraseOf 128 = .ok (.iload 6, 2) := by decide +kernel
theorem dX8_phraseOf_130 : decode cX8_phraseOf 130 = .ok (.invokevirtual 214, 3) := by decide +kernel
theorem dX8_phraseOf_133 : decode cX8_phraseOf 133 = .ok (.ifCond .eq 7, 3) := by decide +kernel
theorem dX8_phraseOf_136 : decode cX8_phraseOf 136 = .ok (.iconst 1, 1) := by decide +kernel
theorem dX8_phraseOf_137 : decode cX8_phraseOf 137 = .ok (.goto 4, 3) := by decide +kernel
theorem dX8_phraseOf_140 : decode cX8_phraseOf 140 = .ok (.iconst 0, 1) := by decide +kernel
theorem dX8_phraseOf_141 : decode cX8_phraseOf 141 = .ok (.ireturn, 1) := by decide +kernel
theorem dX8_phraseOf_142 : decode cX8_phraseOf 142 = .ok (.new 139, 3) := by decide +kernel
theorem dX8_phraseOf_145 : decode cX8_phraseOf 145 = .ok (.dup, 1) := by decide +kernel
theorem dX8_phraseOf_146 : decode cX8_phraseOf 146 = .ok (.ldc 217, 2) := by decide +kernel
theorem dX8_phraseOf_148 : decode cX8_phraseOf 148 = .ok (.invokespecial 143, 3) := by decide +kernel
theorem dX8_phraseOf_151 : decode cX8_phraseOf 151 = .ok (.athrow, 1) := by decide +kernel
set_option maxRecDepth 20000 in
theorem ggX8_next_X8_checkTable : GoodIn wsX8_next wsX8_checkTable := goodIn_ca (goodIn_r _ [5, 6, 7, 8, 9, 4, 10] (by decide +kernel) (by decide +kernel)) (goodIn_sub (fun _ h => List.mem_cons_of_mem _ (List.mem_append_left _ (List.mem_append_right _ h))) (by decide +kernel))
set_option maxRecDepth 20000 in
theorem gX8_next_X8_checkTable : GoodIn wsX8_next (wsV RX8 144 RX8 yX8_checkTable wsX8_checkTable) := goodIn_app (goodIn_of _ (by decide +kernel)) ggX8_next_X8_checkTable
set_option maxRecDepth 20000 in
theorem ggX8_next_X8_heard : GoodIn wsX8_next wsX8_heard := goodIn_ca (goodIn_r _ [14, 15, 16, 17, 18, 19, 20, 21, 22, 23, 24, 25, 26, 27, 28, 29, 30, 31, 32, 33, 34, 35, 36, 37, 38, 39, 40, 41, 42, 43, 44, 45, 46, 47, 48, 49, 50, 51, 52, 53, 54, 55, 56, 57, 58, 59, 75, 76, 77, 78, 79, 80, 81, 82, 83, 84, 85, 86, 87, 88, 89, 90, 91, 92, 93, 94] (by decide +kernel) (by decide +kernel)) (goodIn_sub (fun _ h => List.mem_cons_of_mem _ (List.mem_append_right _ h)) (by decide +kernel))
set_option maxRecDepth 20000 in
theorem gX8_next_X8_heard : GoodIn wsX8_next (wsV RX8 151 RX8 yX8_heard wsX8_heard) := goodIn_app (goodIn_of _ (by decide +kernel)) ggX8_next_X8_heard
set_option maxRecDepth 20000 in
theorem ggX8_next_X4_followers : GoodIn wsX8_next wsX4_followers := goodIn_ca (goodIn_r _ [63, 64, 65, 66, 20, 67, 22, 68, 69, 70, 71, 24, 72, 73, 74, 87, 88, 89, 90, 91, 92, 93] (by decide +kernel) (by decide +kernel)) (goodIn_sub (fun _ h => List.mem_cons_of_mem _ (List.mem_append_right _ h)) (by decide +kernel))
set_option maxRecDepth 20000 in
theorem gX8_next_X4_followers : GoodIn wsX8_next (wsV RX8 219 RX4 yX4_followers wsX4_followers) := goodIn_app (goodIn_of _ (by decide +kernel)) ggX8_next_X4_followers
theorem dX8_next_0 : decode cX8_next 0 = .ok (.aload_n 0, 1) := by decide +kernel
theorem dX8_next_1 : decode cX8_next 1 = .ok (.iload_n 1, 1) := by decide +kernel
theorem dX8_next_2 : decode cX8_next 2 = .ok (.invokevirtual 144, 3) := by decide +kernel
theorem dX8_next_5 : decode cX8_next 5 = .ok (.aload_n 0, 1) := by decide +kernel
theorem dX8_next_6 : decode cX8_next 6 = .ok (.iload_n 1, 1) := by decide +kernel
theorem dX8_next_7 : decode cX8_next 7 = .ok (.invokevirtual 151, 3) := by decide +kernel
theorem dX8_next_10 : decode cX8_next 10 = .ok (.invokevirtual 219, 3) := by decide +kernel
theorem dX8_next_13 : decode cX8_next 13 = .ok (.ireturn, 1) := by decide +kernel
set_option maxRecDepth 20000 in
theorem ggX8_fewest_X8_checkTable : GoodIn wsX8_fewest wsX8_checkTable := goodIn_ca (goodIn_r _ [7, 8, 9, 10, 11, 6, 12] (by decide +kernel) (by decide +kernel)) (goodIn_sub (fun _ h => List.mem_cons_of_mem _ (List.mem_append_left _ (List.mem_append_right _ h))) (by decide +kernel))
set_option maxRecDepth 20000 in
theorem gX8_fewest_X8_checkTable : GoodIn wsX8_fewest (wsV RX8 144 RX8 yX8_checkTable wsX8_checkTable) := goodIn_app (goodIn_of _ (by decide +kernel)) ggX8_fewest_X8_checkTable
set_option maxRecDepth 20000 in
theorem ggX8_fewest_X8_heard : GoodIn wsX8_fewest wsX8_heard := goodIn_ca (goodIn_r _ [16, 17, 18, 19, 20, 21, 22, 23, 24, 25, 26, 27, 28, 29, 30, 31, 32, 33, 34, 35, 36, 37, 38, 39, 40, 41, 42, 43, 44, 45, 46, 47, 48, 49, 50, 51, 52, 53, 54, 55, 56, 57, 58, 59, 60, 61, 87, 88, 89, 90, 91, 92, 93, 94, 95, 96, 97, 98, 99, 100, 101, 102, 103, 104, 105, 106] (by decide +kernel) (by decide +kernel)) (goodIn_sub (fun _ h => List.mem_cons_of_mem _ (List.mem_append_right _ h)) (by decide +kernel))
set_option maxRecDepth 20000 in
theorem gX8_fewest_X8_heard : GoodIn wsX8_fewest (wsV RX8 151 RX8 yX8_heard wsX8_heard) := goodIn_app (goodIn_of _ (by decide +kernel)) ggX8_fewest_X8_heard
set_option maxRecDepth 20000 in
theorem ggX8_fewest_X4_fewestBySets : GoodIn wsX8_fewest wsX4_fewestBySets := goodIn_ca (goodIn_r _ [65, 24, 66, 67, 68, 69, 70, 71, 72, 73, 74, 75, 22, 76, 77, 78, 79, 80, 26, 81, 82, 83, 84, 85, 86, 99, 100, 101, 102, 103, 104, 105] (by decide +kernel) (by decide +kernel)) (goodIn_sub (fun _ h => List.mem_cons_of_mem _ (List.mem_append_right _ h)) (by decide +kernel))
set_option maxRecDepth 20000 in
theorem gX8_fewest_X4_fewestBySets : GoodIn wsX8_fewest (wsV RX8 222 RX4 yX4_fewestBySets wsX4_fewestBySets) := goodIn_app (goodIn_of _ (by decide +kernel)) ggX8_fewest_X4_fewestBySets
theorem dX8_fewest_0 : decode cX8_fewest 0 = .ok (.aload_n 0, 1) := by decide +kernel
theorem dX8_fewest_1 : decode cX8_fewest 1 = .ok (.iload_n 1, 1) := by decide +kernel
theorem dX8_fewest_2 : decode cX8_fewest 2 = .ok (.invokevirtual 144, 3) := by decide +kernel
theorem dX8_fewest_5 : decode cX8_fewest 5 = .ok (.aload_n 0, 1) := by decide +kernel
theorem dX8_fewest_6 : decode cX8_fewest 6 = .ok (.iload_n 1, 1) := by decide +kernel
theorem dX8_fewest_7 : decode cX8_fewest 7 = .ok (.invokevirtual 151, 3) := by decide +kernel
theorem dX8_fewest_10 : decode cX8_fewest 10 = .ok (.invokevirtual 222, 3) := by decide +kernel
theorem dX8_fewest_13 : decode cX8_fewest 13 = .ok (.istore_n 2, 1) := by decide +kernel
theorem dX8_fewest_14 : decode cX8_fewest 14 = .ok (.iload_n 2, 1) := by decide +kernel
theorem dX8_fewest_15 : decode cX8_fewest 15 = .ok (.iconst (-1), 1) := by decide +kernel
theorem dX8_fewest_16 : decode cX8_fewest 16 = .ok (.if_icmp .ne 13, 3) := by decide +kernel
theorem dX8_fewest_19 : decode cX8_fewest 19 = .ok (.new 176, 3) := by decide +kernel
theorem dX8_fewest_22 : decode cX8_fewest 22 = .ok (.dup, 1) := by decide +kernel
theorem dX8_fewest_23 : decode cX8_fewest 23 = .ok (.ldc 225, 2) := by decide +kernel
theorem dX8_fewest_25 : decode cX8_fewest 25 = .ok (.invokespecial 180, 3) := by decide +kernel
theorem dX8_fewest_28 : decode cX8_fewest 28 = .ok (.athrow, 1) := by decide +kernel
theorem dX8_fewest_29 : decode cX8_fewest 29 = .ok (.iload_n 2, 1) := by decide +kernel
theorem dX8_fewest_30 : decode cX8_fewest 30 = .ok (.ireturn, 1) := by decide +kernel
set_option maxRecDepth 20000 in
theorem ggX8_fewestAgain_X8_checkTable : GoodIn wsX8_fewestAgain wsX8_checkTable := goodIn_ca (goodIn_r _ [7, 8, 9, 10, 11, 6, 12] (by decide +kernel) (by decide +kernel)) (goodIn_sub (fun _ h => List.mem_cons_of_mem _ (List.mem_append_left _ (List.mem_append_right _ h))) (by decide +kernel))
set_option maxRecDepth 20000 in
theorem gX8_fewestAgain_X8_checkTable : GoodIn wsX8_fewestAgain (wsV RX8 144 RX8 yX8_checkTable wsX8_checkTable) := goodIn_app (goodIn_of _ (by decide +kernel)) ggX8_fewestAgain_X8_checkTable
set_option maxRecDepth 20000 in
theorem ggX8_fewestAgain_X8_heard : GoodIn wsX8_fewestAgain wsX8_heard := goodIn_ca (goodIn_r _ [16, 17, 18, 19, 20, 21, 22, 23, 24, 25, 26, 27, 28, 29, 30, 31, 32, 33, 34, 35, 36, 37, 38, 39, 40, 41, 42, 43, 44, 45, 46, 47, 48, 49, 50, 51, 52, 53, 54, 55, 56, 57, 58, 59, 60, 61, 87, 88, 89, 90, 91, 92, 93, 94, 95, 96, 97, 98, 99, 100, 101, 102, 103, 104, 105, 106] (by decide +kernel) (by decide +kernel)) (goodIn_sub (fun _ h => List.mem_cons_of_mem _ (List.mem_append_right _ h)) (by decide +kernel))
set_option maxRecDepth 20000 in
theorem gX8_fewestAgain_X8_heard : GoodIn wsX8_fewestAgain (wsV RX8 151 RX8 yX8_heard wsX8_heard) := goodIn_app (goodIn_of _ (by decide +kernel)) ggX8_fewestAgain_X8_heard
set_option maxRecDepth 20000 in
theorem ggX8_fewestAgain_X4_fewestByPoints : GoodIn wsX8_fewestAgain wsX4_fewestByPoints := goodIn_ca (goodIn_r _ [65, 66, 24, 67, 68, 69, 70, 71, 72, 73, 22, 74, 26, 75, 76, 77, 78, 79, 80, 81, 82, 83, 84, 85, 86, 99, 100, 101, 102, 103, 104, 105] (by decide +kernel) (by decide +kernel)) (goodIn_sub (fun _ h => List.mem_cons_of_mem _ (List.mem_append_right _ h)) (by decide +kernel))
set_option maxRecDepth 20000 in
theorem gX8_fewestAgain_X4_fewestByPoints : GoodIn wsX8_fewestAgain (wsV RX8 227 RX4 yX4_fewestByPoints wsX4_fewestByPoints) := goodIn_app (goodIn_of _ (by decide +kernel)) ggX8_fewestAgain_X4_fewestByPoints
theorem dX8_fewestAgain_0 : decode cX8_fewestAgain 0 = .ok (.aload_n 0, 1) := by decide +kernel
theorem dX8_fewestAgain_1 : decode cX8_fewestAgain 1 = .ok (.iload_n 1, 1) := by decide +kernel
theorem dX8_fewestAgain_2 : decode cX8_fewestAgain 2 = .ok (.invokevirtual 144, 3) := by decide +kernel
theorem dX8_fewestAgain_5 : decode cX8_fewestAgain 5 = .ok (.aload_n 0, 1) := by decide +kernel
theorem dX8_fewestAgain_6 : decode cX8_fewestAgain 6 = .ok (.iload_n 1, 1) := by decide +kernel
theorem dX8_fewestAgain_7 : decode cX8_fewestAgain 7 = .ok (.invokevirtual 151, 3) := by decide +kernel
theorem dX8_fewestAgain_10 : decode cX8_fewestAgain 10 = .ok (.invokevirtual 227, 3) := by decide +kernel
theorem dX8_fewestAgain_13 : decode cX8_fewestAgain 13 = .ok (.istore_n 2, 1) := by decide +kernel
theorem dX8_fewestAgain_14 : decode cX8_fewestAgain 14 = .ok (.iload_n 2, 1) := by decide +kernel
theorem dX8_fewestAgain_15 : decode cX8_fewestAgain 15 = .ok (.iconst (-1), 1) := by decide +kernel
theorem dX8_fewestAgain_16 : decode cX8_fewestAgain 16 = .ok (.if_icmp .ne 13, 3) := by decide +kernel
theorem dX8_fewestAgain_19 : decode cX8_fewestAgain 19 = .ok (.new 176, 3) := by decide +kernel
theorem dX8_fewestAgain_22 : decode cX8_fewestAgain 22 = .ok (.dup, 1) := by decide +kernel
theorem dX8_fewestAgain_23 : decode cX8_fewestAgain 23 = .ok (.ldc 225, 2) := by decide +kernel
theorem dX8_fewestAgain_25 : decode cX8_fewestAgain 25 = .ok (.invokespecial 180, 3) := by decide +kernel
theorem dX8_fewestAgain_28 : decode cX8_fewestAgain 28 = .ok (.athrow, 1) := by decide +kernel
theorem dX8_fewestAgain_29 : decode cX8_fewestAgain 29 = .ok (.iload_n 2, 1) := by decide +kernel
theorem dX8_fewestAgain_30 : decode cX8_fewestAgain 30 = .ok (.ireturn, 1) := by decide +kernel
set_option maxRecDepth 20000 in
theorem ggX8_doubt_X8_checkTable : GoodIn wsX8_doubt wsX8_checkTable := goodIn_ca (goodIn_r _ [5, 6, 7, 8, 9, 4, 10] (by decide +kernel) (by decide +kernel)) (goodIn_sub (fun _ h => List.mem_cons_of_mem _ (List.mem_append_left _ (List.mem_append_right _ h))) (by decide +kernel))
set_option maxRecDepth 20000 in
theorem gX8_doubt_X8_checkTable : GoodIn wsX8_doubt (wsV RX8 144 RX8 yX8_checkTable wsX8_checkTable) := goodIn_app (goodIn_of _ (by decide +kernel)) ggX8_doubt_X8_checkTable
set_option maxRecDepth 20000 in
theorem ggX8_doubt_X8_heard : GoodIn wsX8_doubt wsX8_heard := goodIn_ca (goodIn_r _ [14, 15, 16, 17, 18, 19, 20, 21, 22, 23, 24, 25, 26, 27, 28, 29, 30, 31, 32, 33, 34, 35, 36, 37, 38, 39, 40, 41, 42, 43, 44, 45, 46, 47, 48, 49, 50, 51, 52, 53, 54, 55, 56, 57, 58, 59, 72, 73, 74, 75, 76, 77, 78, 79, 80, 81, 82, 83, 84, 85, 86, 87, 88, 89, 90, 91] (by decide +kernel) (by decide +kernel)) (goodIn_sub (fun _ h => List.mem_cons_of_mem _ (List.mem_append_right _ h)) (by decide +kernel))
set_option maxRecDepth 20000 in
theorem gX8_doubt_X8_heard : GoodIn wsX8_doubt (wsV RX8 151 RX8 yX8_heard wsX8_heard) := goodIn_app (goodIn_of _ (by decide +kernel)) ggX8_doubt_X8_heard
set_option maxRecDepth 20000 in
theorem ggX8_doubt_X4_doubtByNapkins : GoodIn wsX8_doubt wsX4_doubtByNapkins := goodIn_ca (goodIn_r _ [63, 22, 64, 65, 66, 20, 67, 26, 68, 69, 70, 71, 84, 85, 86, 87, 88, 89, 90] (by decide +kernel) (by decide +kernel)) (goodIn_sub (fun _ h => List.mem_cons_of_mem _ (List.mem_append_right _ h)) (by decide +kernel))
set_option maxRecDepth 20000 in
theorem gX8_doubt_X4_doubtByNapkins : GoodIn wsX8_doubt (wsV RX8 230 RX4 yX4_doubtByNapkins wsX4_doubtByNapkins) := goodIn_app (goodIn_of _ (by decide +kernel)) ggX8_doubt_X4_doubtByNapkins
theorem dX8_doubt_0 : decode cX8_doubt 0 = .ok (.aload_n 0, 1) := by decide +kernel
theorem dX8_doubt_1 : decode cX8_doubt 1 = .ok (.iload_n 1, 1) := by decide +kernel
theorem dX8_doubt_2 : decode cX8_doubt 2 = .ok (.invokevirtual 144, 3) := by decide +kernel
theorem dX8_doubt_5 : decode cX8_doubt 5 = .ok (.aload_n 0, 1) := by decide +kernel
theorem dX8_doubt_6 : decode cX8_doubt 6 = .ok (.iload_n 1, 1) := by decide +kernel
theorem dX8_doubt_7 : decode cX8_doubt 7 = .ok (.invokevirtual 151, 3) := by decide +kernel
theorem dX8_doubt_10 : decode cX8_doubt 10 = .ok (.invokevirtual 230, 3) := by decide +kernel
theorem dX8_doubt_13 : decode cX8_doubt 13 = .ok (.ireturn, 1) := by decide +kernel
set_option maxRecDepth 20000 in
theorem ggX8_doubtAgain_X8_checkTable : GoodIn wsX8_doubtAgain wsX8_checkTable := goodIn_ca (goodIn_r _ [5, 6, 7, 8, 9, 4, 10] (by decide +kernel) (by decide +kernel)) (goodIn_sub (fun _ h => List.mem_cons_of_mem _ (List.mem_append_left _ (List.mem_append_right _ h))) (by decide +kernel))
set_option maxRecDepth 20000 in
theorem gX8_doubtAgain_X8_checkTable : GoodIn wsX8_doubtAgain (wsV RX8 144 RX8 yX8_checkTable wsX8_checkTable) := goodIn_app (goodIn_of _ (by decide +kernel)) ggX8_doubtAgain_X8_checkTable
set_option maxRecDepth 20000 in
theorem ggX8_doubtAgain_X8_heard : GoodIn wsX8_doubtAgain wsX8_heard := goodIn_ca (goodIn_r _ [14, 15, 16, 17, 18, 19, 20, 21, 22, 23, 24, 25, 26, 27, 28, 29, 30, 31, 32, 33, 34, 35, 36, 37, 38, 39, 40, 41, 42, 43, 44, 45, 46, 47, 48, 49, 50, 51, 52, 53, 54, 55, 56, 57, 58, 59, 80, 81, 82, 83, 84, 85, 86, 87, 88, 89, 90, 91, 92, 93, 94, 95, 96, 97, 98, 99] (by decide +kernel) (by decide +kernel)) (goodIn_sub (fun _ h => List.mem_cons_of_mem _ (List.mem_append_right _ h)) (by decide +kernel))
set_option maxRecDepth 20000 in
theorem gX8_doubtAgain_X8_heard : GoodIn wsX8_doubtAgain (wsV RX8 151 RX8 yX8_heard wsX8_heard) := goodIn_app (goodIn_of _ (by decide +kernel)) ggX8_doubtAgain_X8_heard
set_option maxRecDepth 20000 in
theorem ggX8_doubtAgain_X4_doubtByFolds : GoodIn wsX8_doubtAgain wsX4_doubtByFolds := goodIn_ca (goodIn_r _ [63, 64, 65, 66, 20, 67, 22, 68, 69, 70, 71, 24, 72, 73, 74, 75, 26, 76, 77, 78, 79, 92, 93, 94, 95, 96, 97, 98] (by decide +kernel) (by decide +kernel)) (goodIn_sub (fun _ h => List.mem_cons_of_mem _ (List.mem_append_right _ h)) (by decide +kernel))
set_option maxRecDepth 20000 in
theorem gX8_doubtAgain_X4_doubtByFolds : GoodIn wsX8_doubtAgain (wsV RX8 233 RX4 yX4_doubtByFolds wsX4_doubtByFolds) := goodIn_app (goodIn_of _ (by decide +kernel)) ggX8_doubtAgain_X4_doubtByFolds
theorem dX8_doubtAgain_0 : decode cX8_doubtAgain 0 = .ok (.aload_n 0, 1) := by decide +kernel
theorem dX8_doubtAgain_1 : decode cX8_doubtAgain 1 = .ok (.iload_n 1, 1) := by decide +kernel
theorem dX8_doubtAgain_2 : decode cX8_doubtAgain 2 = .ok (.invokevirtual 144, 3) := by decide +kernel
theorem dX8_doubtAgain_5 : decode cX8_doubtAgain 5 = .ok (.aload_n 0, 1) := by decide +kernel
theorem dX8_doubtAgain_6 : decode cX8_doubtAgain 6 = .ok (.iload_n 1, 1) := by decide +kernel
theorem dX8_doubtAgain_7 : decode cX8_doubtAgain 7 = .ok (.invokevirtual 151, 3) := by decide +kernel
theorem dX8_doubtAgain_10 : decode cX8_doubtAgain 10 = .ok (.invokevirtual 233, 3) := by decide +kernel
theorem dX8_doubtAgain_13 : decode cX8_doubtAgain 13 = .ok (.ireturn, 1) := by decide +kernel
set_option maxRecDepth 20000 in
theorem ggX8_sure_X8_checkTable : GoodIn wsX8_sure wsX8_checkTable := goodIn_ca (goodIn_r _ [9, 10, 11, 12, 13, 8, 14] (by decide +kernel) (by decide +kernel)) (goodIn_sub (fun _ h => List.mem_cons_of_mem _ (List.mem_append_left _ (List.mem_append_right _ h))) (by decide +kernel))
set_option maxRecDepth 20000 in
theorem gX8_sure_X8_checkTable : GoodIn wsX8_sure (wsV RX8 144 RX8 yX8_checkTable wsX8_checkTable) := goodIn_app (goodIn_of _ (by decide +kernel)) ggX8_sure_X8_checkTable
set_option maxRecDepth 20000 in
theorem ggX8_sure_X8_heard : GoodIn wsX8_sure wsX8_heard := goodIn_ca (goodIn_r _ [18, 19, 20, 21, 22, 23, 24, 25, 26, 27, 28, 29, 30, 31, 32, 33, 34, 35, 36, 37, 38, 39, 40, 41, 42, 43, 44, 45, 46, 47, 48, 49, 50, 51, 52, 53, 54, 55, 56, 57, 58, 59, 60, 61, 62, 63, 80, 81, 82, 83, 84, 85, 86, 87, 88, 89, 90, 91, 92, 93, 94, 95, 96, 97, 98, 99] (by decide +kernel) (by decide +kernel)) (goodIn_sub (fun _ h => List.mem_cons_of_mem _ (List.mem_append_right _ h)) (by decide +kernel))
set_option maxRecDepth 20000 in
theorem gX8_sure_X8_heard : GoodIn wsX8_sure (wsV RX8 151 RX8 yX8_heard wsX8_heard) := goodIn_app (goodIn_of _ (by decide +kernel)) ggX8_sure_X8_heard
set_option maxRecDepth 20000 in
theorem ggX8_sure_X4_size : GoodIn wsX8_sure wsX4_size := goodIn_r _ [67, 26, 92, 93, 94, 95, 96, 97, 98] (by decide +kernel) (by decide +kernel)
set_option maxRecDepth 20000 in
theorem gX8_sure_X4_size : GoodIn wsX8_sure (wsV RX8 155 RX4 yX4_size wsX4_size) := goodIn_app (goodIn_of _ (by decide +kernel)) ggX8_sure_X4_size
set_option maxRecDepth 20000 in
theorem ggX8_sure_X4_doubtByNapkins : GoodIn wsX8_sure wsX4_doubtByNapkins := goodIn_ca (goodIn_r _ [71, 26, 72, 73, 74, 24, 75, 30, 76, 77, 78, 79, 92, 93, 94, 95, 96, 97, 98] (by decide +kernel) (by decide +kernel)) (goodIn_sub (fun _ h => List.mem_cons_of_mem _ (List.mem_append_right _ h)) (by decide +kernel))
set_option maxRecDepth 20000 in
theorem gX8_sure_X4_doubtByNapkins : GoodIn wsX8_sure (wsV RX8 230 RX4 yX4_doubtByNapkins wsX4_doubtByNapkins) := goodIn_app (goodIn_of _ (by decide +kernel)) ggX8_sure_X4_doubtByNapkins
theorem dX8_sure_0 : decode cX8_sure 0 = .ok (.aload_n 0, 1) := by decide +kernel
theorem dX8_sure_1 : decode cX8_sure 1 = .ok (.iload_n 1, 1) := by decide +kernel
theorem dX8_sure_2 : decode cX8_sure 2 = .ok (.invokevirtual 144, 3) := by decide +kernel
theorem dX8_sure_5 : decode cX8_sure 5 = .ok (.aload_n 0, 1) := by decide +kernel
theorem dX8_sure_6 : decode cX8_sure 6 = .ok (.iload_n 1, 1) := by decide +kernel
theorem dX8_sure_7 : decode cX8_sure 7 = .ok (.invokevirtual 151, 3) := by decide +kernel
theorem dX8_sure_10 : decode cX8_sure 10 = .ok (.astore_n 2, 1) := by decide +kernel
theorem dX8_sure_11 : decode cX8_sure 11 = .ok (.aload_n 2, 1) := by decide +kernel
theorem dX8_sure_12 : decode cX8_sure 12 = .ok (.invokevirtual 155, 3) := by decide +kernel
theorem dX8_sure_15 : decode cX8_sure 15 = .ok (.ifCond .ne 13, 3) := by decide +kernel
theorem dX8_sure_18 : decode cX8_sure 18 = .ok (.new 236, 3) := by decide +kernel
theorem dX8_sure_21 : decode cX8_sure 21 = .ok (.dup, 1) := by decide +kernel
theorem dX8_sure_22 : decode cX8_sure 22 = .ok (.ldc 238, 2) := by decide +kernel
theorem dX8_sure_24 : decode cX8_sure 24 = .ok (.invokespecial 240, 3) := by decide +kernel
theorem dX8_sure_27 : decode cX8_sure 27 = .ok (.athrow, 1) := by decide +kernel
theorem dX8_sure_28 : decode cX8_sure 28 = .ok (.aload_n 2, 1) := by decide +kernel
theorem dX8_sure_29 : decode cX8_sure 29 = .ok (.invokevirtual 155, 3) := by decide +kernel
theorem dX8_sure_32 : decode cX8_sure 32 = .ok (.i2f, 1) := by decide +kernel
theorem dX8_sure_33 : decode cX8_sure 33 = .ok (.fstore_n 3, 1) := by decide +kernel
theorem dX8_sure_34 : decode cX8_sure 34 = .ok (.aload_n 2, 1) := by decide +kernel
theorem dX8_sure_35 : decode cX8_sure 35 = .ok (.invokevirtual 230, 3) := by decide +kernel
theorem dX8_sure_38 : decode cX8_sure 38 = .ok (.i2f, 1) := by decide +kernel
theorem dX8_sure_39 : decode cX8_sure 39 = .ok (.fstore 4, 2) := by decide +kernel
theorem dX8_sure_41 : decode cX8_sure 41 = .ok (.ldc 241, 2) := by decide +kernel
theorem dX8_sure_43 : decode cX8_sure 43 = .ok (.fload_n 3, 1) := by decide +kernel
theorem dX8_sure_44 : decode cX8_sure 44 = .ok (.fmul, 1) := by decide +kernel
theorem dX8_sure_45 : decode cX8_sure 45 = .ok (.ldc 242, 2) := by decide +kernel
theorem dX8_sure_47 : decode cX8_sure 47 = .ok (.fload 4, 2) := by decide +kernel
theorem dX8_sure_49 : decode cX8_sure 49 = .ok (.fmul, 1) := by decide +kernel
theorem dX8_sure_50 : decode cX8_sure 50 = .ok (.fsub, 1) := by decide +kernel
theorem dX8_sure_51 : decode cX8_sure 51 = .ok (.fload_n 3, 1) := by decide +kernel
theorem dX8_sure_52 : decode cX8_sure 52 = .ok (.fdiv, 1) := by decide +kernel
theorem dX8_sure_53 : decode cX8_sure 53 = .ok (.f2i, 1) := by decide +kernel
theorem dX8_sure_54 : decode cX8_sure 54 = .ok (.ireturn, 1) := by decide +kernel
set_option maxRecDepth 20000 in
theorem ggX8_clearest_X8_tablesAheadOf : GoodIn wsX8_clearest wsX8_tablesAheadOf := goodIn_ca (goodIn_r _ [7, 8, 9, 10, 6, 11, 12, 13, 14, 15, 16, 17, 18, 19, 20, 21, 22, 23, 24, 25, 26, 27, 28, 29, 30, 31, 32, 33, 34, 35, 36, 37, 38, 39, 40, 41, 42, 43, 44, 45, 46, 47, 48, 49, 50, 51, 52, 53, 54, 55, 56, 57, 58, 59, 60, 61, 62, 63, 64, 65, 66, 67, 68, 69, 70, 71, 72, 73, 74, 75, 76, 77, 78, 79, 80, 81, 82, 83, 84, 85, 86, 87, 88, 89, 90, 91, 92, 93, 94, 95, 96, 97, 98, 99, 100, 101, 102, 103, 104, 105, 106, 107, 108, 109, 110, 111, 112, 113, 114] (by decide +kernel) (by decide +kernel)) (goodIn_sub (fun _ h => List.mem_cons_of_mem _ (List.mem_append_right _ h)) (by decide +kernel))
set_option maxRecDepth 20000 in
theorem gX8_clearest_X8_tablesAheadOf : GoodIn wsX8_clearest (wsV RX8 243 RX8 yX8_tablesAheadOf wsX8_tablesAheadOf) := goodIn_app (goodIn_of _ (by decide +kernel)) ggX8_clearest_X8_tablesAheadOf
theorem dX8_clearest_0 : decode cX8_clearest 0 = .ok (.iconst 0, 1) := by decide +kernel
theorem dX8_clearest_1 : decode cX8_clearest 1 = .ok (.istore_n 2, 1) := by decide +kernel
theorem dX8_clearest_2 : decode cX8_clearest 2 = .ok (.iload_n 2, 1) := by decide +kernel
theorem dX8_clearest_3 : decode cX8_clearest 3 = .ok (.iconst 3, 1) := by decide +kernel
theorem dX8_clearest_4 : decode cX8_clearest 4 = .ok (.if_icmp .ge 20, 3) := by decide +kernel
theorem dX8_clearest_7 : decode cX8_clearest 7 = .ok (.aload_n 0, 1) := by decide +kernel
theorem dX8_clearest_8 : decode cX8_clearest 8 = .ok (.iload_n 2, 1) := by decide +kernel
theorem dX8_clearest_9 : decode cX8_clearest 9 = .ok (.invokevirtual 243, 3) := by decide +kernel
theorem dX8_clearest_12 : decode cX8_clearest 12 = .ok (.iload_n 1, 1) := by decide +kernel
theorem dX8_clearest_13 : decode cX8_clearest 13 = .ok (.if_icmp .ne 5, 3) := by decide +kernel
theorem dX8_clearest_16 : decode cX8_clearest 16 = .ok (.iload_n 2, 1) := by decide +kernel
theorem dX8_clearest_17 : decode cX8_clearest 17 = .ok (.ireturn, 1) := by decide +kernel
theorem dX8_clearest_18 : decode cX8_clearest 18 = .ok (.iinc 2 1, 3) := by decide +kernel
theorem dX8_clearest_21 : decode cX8_clearest 21 = .ok (.goto (-19), 3) := by decide +kernel
theorem dX8_clearest_24 : decode cX8_clearest 24 = .ok (.new 176, 3) := by decide +kernel
theorem dX8_clearest_27 : decode cX8_clearest 27 = .ok (.dup, 1) := by decide +kernel
theorem dX8_clearest_28 : decode cX8_clearest 28 = .ok (.ldc 178, 2) := by decide +kernel
theorem dX8_clearest_30 : decode cX8_clearest 30 = .ok (.invokespecial 180, 3) := by decide +kernel
theorem dX8_clearest_33 : decode cX8_clearest 33 = .ok (.athrow, 1) := by decide +kernel
set_option maxRecDepth 20000 in
theorem ggX8_worn_X6_napkins : GoodIn wsX8_worn wsX6_napkins := goodIn_ca (goodIn_r _ [8, 9, 43] (by decide +kernel) (by decide +kernel)) (goodIn_sub (fun _ h => List.mem_cons_of_mem _ (List.mem_append_right _ h)) (by decide +kernel))
set_option maxRecDepth 20000 in
theorem gX8_worn_X6_napkins : GoodIn wsX8_worn (wsV RX8 246 RX6 yX6_napkins wsX6_napkins) := goodIn_app (goodIn_of _ (by decide +kernel)) ggX8_worn_X6_napkins
set_option maxRecDepth 20000 in
theorem ggX8_worn_X8_napkinsAheadOf : GoodIn wsX8_worn wsX8_napkinsAheadOf := goodIn_ca (goodIn_r _ [14, 3, 4, 5, 6, 7, 8, 9, 15, 16, 17, 13, 18, 19, 20, 21, 22, 23, 24, 25, 26, 27, 28, 29, 30, 31, 32, 33, 34, 35, 36, 37, 38, 39, 40, 41, 42, 43] (by decide +kernel) (by decide +kernel)) (goodIn_sub (fun _ h => List.mem_cons_of_mem _ (List.mem_append_right _ h)) (by decide +kernel))
set_option maxRecDepth 20000 in
theorem gX8_worn_X8_napkinsAheadOf : GoodIn wsX8_worn (wsV RX8 249 RX8 yX8_napkinsAheadOf wsX8_napkinsAheadOf) := goodIn_app (goodIn_of _ (by decide +kernel)) ggX8_worn_X8_napkinsAheadOf
theorem dX8_worn_0 : decode cX8_worn 0 = .ok (.iconst 0, 1) := by decide +kernel
theorem dX8_worn_1 : decode cX8_worn 1 = .ok (.istore_n 2, 1) := by decide +kernel
theorem dX8_worn_2 : decode cX8_worn 2 = .ok (.iload_n 2, 1) := by decide +kernel
theorem dX8_worn_3 : decode cX8_worn 3 = .ok (.aload_n 0, 1) := by decide +kernel
theorem dX8_worn_4 : decode cX8_worn 4 = .ok (.getfield 20, 3) := by decide +kernel
theorem dX8_worn_7 : decode cX8_worn 7 = .ok (.invokevirtual 246, 3) := by decide +kernel
theorem dX8_worn_10 : decode cX8_worn 10 = .ok (.if_icmp .ge 20, 3) := by decide +kernel
theorem dX8_worn_13 : decode cX8_worn 13 = .ok (.aload_n 0, 1) := by decide +kernel
theorem dX8_worn_14 : decode cX8_worn 14 = .ok (.iload_n 2, 1) := by decide +kernel
theorem dX8_worn_15 : decode cX8_worn 15 = .ok (.invokevirtual 249, 3) := by decide +kernel
theorem dX8_worn_18 : decode cX8_worn 18 = .ok (.iload_n 1, 1) := by decide +kernel
theorem dX8_worn_19 : decode cX8_worn 19 = .ok (.if_icmp .ne 5, 3) := by decide +kernel
theorem dX8_worn_22 : decode cX8_worn 22 = .ok (.iload_n 2, 1) := by decide +kernel
theorem dX8_worn_23 : decode cX8_worn 23 = .ok (.ireturn, 1) := by decide +kernel
theorem dX8_worn_24 : decode cX8_worn 24 = .ok (.iinc 2 1, 3) := by decide +kernel
theorem dX8_worn_27 : decode cX8_worn 27 = .ok (.goto (-25), 3) := by decide +kernel
theorem dX8_worn_30 : decode cX8_worn 30 = .ok (.new 176, 3) := by decide +kernel
theorem dX8_worn_33 : decode cX8_worn 33 = .ok (.dup, 1) := by decide +kernel
theorem dX8_worn_34 : decode cX8_worn 34 = .ok (.ldc 178, 2) := by decide +kernel
theorem dX8_worn_36 : decode cX8_worn 36 = .ok (.invokespecial 180, 3) := by decide +kernel
theorem dX8_worn_39 : decode cX8_worn 39 = .ok (.athrow, 1) := by decide +kernel
set_option maxRecDepth 20000 in
theorem ggX8_isWell_X8_heard : GoodIn wsX8_isWell wsX8_heard := goodIn_ca (goodIn_r _ [6, 7, 1, 8, 9, 10, 11, 12, 13, 14, 15, 16, 17, 18, 19, 20, 21, 22, 23, 24, 25, 26, 27, 28, 29, 30, 31, 32, 33, 34, 35, 36, 37, 38, 39, 40, 41, 42, 43, 44, 45, 46, 47, 48, 49, 50, 152, 153, 154, 155, 156, 157, 158, 159, 160, 161, 162, 163, 164, 165, 166, 167, 168, 169, 170, 171] (by decide +kernel) (by decide +kernel)) (goodIn_sub (fun _ h => List.mem_cons_of_mem _ (List.mem_append_right _ h)) (by decide +kernel))
set_option maxRecDepth 20000 in
theorem gX8_isWell_X8_heard : GoodIn wsX8_isWell (wsV RX8 151 RX8 yX8_heard wsX8_heard) := goodIn_app (goodIn_of _ (by decide +kernel)) ggX8_isWell_X8_heard
set_option maxRecDepth 20000 in
theorem ggX8_isWell_X4_isToldAlike : GoodIn wsX8_isWell wsX4_isToldAlike := goodIn_ca (goodIn_r _ [54, 55, 56, 57, 11, 58, 13, 59, 60, 61, 62, 15, 63, 64, 65, 66, 67, 68, 69, 70, 71, 72, 73, 74, 75, 76, 77, 78, 79, 80, 81, 82, 83, 84, 85, 86, 87, 88, 89, 90, 91, 92, 93, 94, 95, 96, 97, 98, 99, 100, 101, 102, 103, 104, 105, 106, 107, 108, 109, 110, 111, 112, 113, 114, 115, 116, 117, 118, 119, 120, 121, 122, 123, 124, 125, 17, 126, 127, 128, 129, 130, 131, 132, 133, 134, 135, 136, 137, 164, 165, 166, 167, 168, 169, 170] (by decide +kernel) (by decide +kernel)) (goodIn_sub (fun _ h => List.mem_cons_of_mem _ (List.mem_append_right _ h)) (by decide +kernel))
set_option maxRecDepth 20000 in
theorem gX8_isWell_X4_isToldAlike : GoodIn wsX8_isWell (wsV RX8 252 RX4 yX4_isToldAlike wsX4_isToldAlike) := goodIn_app (goodIn_of _ (by decide +kernel)) ggX8_isWell_X4_isToldAlike
set_option maxRecDepth 20000 in
theorem ggX8_isWell_X4_countOf : GoodIn wsX8_isWell wsX4_countOf := goodIn_ca (goodIn_r _ [141, 13, 59, 60, 61, 11, 62, 15, 164, 165, 166, 167, 168, 169, 170] (by decide +kernel) (by decide +kernel)) (goodIn_sub (fun _ h => List.mem_cons_of_mem _ (List.mem_append_right _ h)) (by decide +kernel))
set_option maxRecDepth 20000 in
theorem gX8_isWell_X4_countOf : GoodIn wsX8_isWell (wsV RX8 161 RX4 yX4_countOf wsX4_countOf) := goodIn_app (goodIn_of _ (by decide +kernel)) ggX8_isWell_X4_countOf
set_option maxRecDepth 20000 in
theorem ggX8_isWell_X6_napkins : GoodIn wsX8_isWell wsX6_napkins := goodIn_ca (goodIn_r _ [145, 27, 171] (by decide +kernel) (by decide +kernel)) (goodIn_sub (fun _ h => List.mem_cons_of_mem _ (List.mem_append_right _ h)) (by decide +kernel))
set_option maxRecDepth 20000 in
theorem gX8_isWell_X6_napkins : GoodIn wsX8_isWell (wsV RX8 246 RX6 yX6_napkins wsX6_napkins) := goodIn_app (goodIn_of _ (by decide +kernel)) ggX8_isWell_X6_napkins
set_option maxRecDepth 20000 in
theorem ggX8_isWell_X6_placesUnder : GoodIn wsX8_isWell wsX6_placesUnder := goodIn_ca (goodIn_r _ [149, 150, 19, 20, 21, 22, 23, 24, 25, 26, 27, 151, 29, 30, 31, 32, 33, 34, 171] (by decide +kernel) (by decide +kernel)) (goodIn_sub (fun _ h => List.mem_cons_of_mem _ (List.mem_append_right _ h)) (by decide +kernel))
set_option maxRecDepth 20000 in
theorem gX8_isWell_X6_placesUnder : GoodIn wsX8_isWell (wsV RX8 255 RX6 yX6_placesUnder wsX6_placesUnder) := goodIn_app (goodIn_of _ (by decide +kernel)) ggX8_isWell_X6_placesUnder
theorem dX8_isWell_0 : decode cX8_isWell 0 = .ok (.iconst 0, 1) := by decide +kernel
theorem dX8_isWell_1 : decode cX8_isWell 1 = .ok (.istore_n 1, 1) := by decide +kernel
theorem dX8_isWell_2 : decode cX8_isWell 2 = .ok (.iload_n 1, 1) := by decide +kernel
theorem dX8_isWell_3 : decode cX8_isWell 3 = .ok (.iconst 3, 1) := by decide +kernel
theorem dX8_isWell_4 : decode cX8_isWell 4 = .ok (.if_icmp .ge 32, 3) := by decide +kernel
theorem dX8_isWell_7 : decode cX8_isWell 7 = .ok (.aload_n 0, 1) := by decide +kernel
theorem dX8_isWell_8 : decode cX8_isWell 8 = .ok (.iload_n 1, 1) := by decide +kernel
theorem dX8_isWell_9 : decode cX8_isWell 9 = .ok (.invokevirtual 151, 3) := by decide +kernel
theorem dX8_isWell_12 : decode cX8_isWell 12 = .ok (.astore_n 2, 1) := by decide +kernel
theorem dX8_isWell_13 : decode cX8_isWell 13 = .ok (.aload_n 2, 1) := by decide +kernel
theorem dX8_isWell_14 : decode cX8_isWell 14 = .ok (.invokevirtual 252, 3) := by decide +kernel
theorem dX8_isWell_17 : decode cX8_isWell 17 = .ok (.ifCond .eq 11, 3) := by decide +kernel
theorem dX8_isWell_20 : decode cX8_isWell 20 = .ok (.aload_n 2, 1) := by decide +kernel
theorem dX8_isWell_21 : decode cX8_isWell 21 = .ok (.iconst 0, 1) := by decide +kernel
theorem dX8_isWell_22 : decode cX8_isWell 22 = .ok (.invokevirtual 161, 3) := by decide +kernel
theorem dX8_isWell_25 : decode cX8_isWell 25 = .ok (.ifCond .eq 5, 3) := by decide +kernel
theorem dX8_isWell_28 : decode cX8_isWell 28 = .ok (.iconst 0, 1) := by decide +kernel
theorem dX8_isWell_29 : decode cX8_isWell 29 = .ok (.ireturn, 1) := by decide +kernel
theorem dX8_isWell_30 : decode cX8_isWell 30 = .ok (.iinc 1 1, 3) := by decide +kernel
theorem dX8_isWell_33 : decode cX8_isWell 33 = .ok (.goto (-31), 3) := by decide +kernel
theorem dX8_isWell_36 : decode cX8_isWell 36 = .ok (.iconst 0, 1) := by decide +kernel
theorem dX8_isWell_37 : decode cX8_isWell 37 = .ok (.istore_n 1, 1) := by decide +kernel
theorem dX8_isWell_38 : decode cX8_isWell 38 = .ok (.iload_n 1, 1) := by decide +kernel
theorem dX8_isWell_39 : decode cX8_isWell 39 = .ok (.aload_n 0, 1) := by decide +kernel
theorem dX8_isWell_40 : decode cX8_isWell 40 = .ok (.getfield 20, 3) := by decide +kernel
theorem dX8_isWell_43 : decode cX8_isWell 43 = .ok (.invokevirtual 246, 3) := by decide +kernel
theorem dX8_isWell_46 : decode cX8_isWell 46 = .ok (.if_icmp .ge 23, 3) := by decide +kernel
theorem dX8_isWell_49 : decode cX8_isWell 49 = .ok (.aload_n 0, 1) := by decide +kernel
theorem dX8_isWell_50 : decode cX8_isWell 50 = .ok (.getfield 20, 3) := by decide +kernel
theorem dX8_isWell_53 : decode cX8_isWell 53 = .ok (.iload_n 1, 1) := by decide +kernel
theorem dX8_isWell_54 : decode cX8_isWell 54 = .ok (.invokevirtual 255, 3) := by decide +kernel
theorem dX8_isWell_57 : decode cX8_isWell 57 = .ok (.iconst 1, 1) := by decide +kernel
theorem dX8_isWell_58 : decode cX8_isWell 58 = .ok (.if_icmp .le 5, 3) := by decide +kernel
theorem dX8_isWell_61 : decode cX8_isWell 61 = .ok (.iconst 0, 1) := by decide +kernel
theorem dX8_isWell_62 : decode cX8_isWell 62 = .ok (.ireturn, 1) := by decide +kernel
theorem dX8_isWell_63 : decode cX8_isWell 63 = .ok (.iinc 1 1, 3) := by decide +kernel
theorem dX8_isWell_66 : decode cX8_isWell 66 = .ok (.goto (-28), 3) := by decide +kernel
theorem dX8_isWell_69 : decode cX8_isWell 69 = .ok (.iconst 1, 1) := by decide +kernel
theorem dX8_isWell_70 : decode cX8_isWell 70 = .ok (.ireturn, 1) := by decide +kernel
set_option maxRecDepth 20000 in
theorem ggX8_type_X7_isFull : GoodIn wsX8_type wsX7_isFull := goodIn_r _ [8, 9, 31, 32] (by decide +kernel) (by decide +kernel)
set_option maxRecDepth 20000 in
theorem gX8_type_X7_isFull : GoodIn wsX8_type (wsV RX8 258 RX7 yX7_isFull wsX7_isFull) := goodIn_app (goodIn_of _ (by decide +kernel)) ggX8_type_X7_isFull
set_option maxRecDepth 20000 in
theorem ggX8_type_X7_append : GoodIn wsX8_type wsX7_append := goodIn_ca (goodIn_r _ [13, 9, 14, 31, 32] (by decide +kernel) (by decide +kernel)) (goodIn_sub (fun _ h => List.mem_cons_of_mem _ (List.mem_append_right _ h)) (by decide +kernel))
set_option maxRecDepth 20000 in
theorem gX8_type_X7_append : GoodIn wsX8_type (wsV RX8 266 RX7 yX7_append wsX7_append) := goodIn_app (goodIn_of _ (by decide +kernel)) ggX8_type_X7_append
set_option maxRecDepth 20000 in
theorem ggX8_type_X7_length : GoodIn wsX8_type wsX7_length := goodIn_r _ [18, 9, 31, 32] (by decide +kernel) (by decide +kernel)
set_option maxRecDepth 20000 in
theorem gX8_type_X7_length : GoodIn wsX8_type (wsV RX8 270 RX7 yX7_length wsX7_length) := goodIn_app (goodIn_of _ (by decide +kernel)) ggX8_type_X7_length
theorem dX8_type_0 : decode cX8_type 0 = .ok (.aload_n 0, 1) := by decide +kernel
theorem dX8_type_1 : decode cX8_type 1 = .ok (.getfield 38, 3) := by decide +kernel
theorem dX8_type_4 : decode cX8_type 4 = .ok (.invokevirtual 258, 3) := by decide +kernel
theorem dX8_type_7 : decode cX8_type 7 = .ok (.ifCond .eq 14, 3) := by decide +kernel
theorem dX8_type_10 : decode cX8_type 10 = .ok (.new 261, 3) := by decide +kernel
theorem dX8_type_13 : decode cX8_type 13 = .ok (.dup, 1) := by decide +kernel
theorem dX8_type_14 : decode cX8_type 14 = .ok (.ldc_w 263, 3) := by decide +kernel
theorem dX8_type_17 : decode cX8_type 17 = .ok (.invokespecial 265, 3) := by decide +kernel
theorem dX8_type_20 : decode cX8_type 20 = .ok (.athrow, 1) := by decide +kernel
theorem dX8_type_21 : decode cX8_type 21 = .ok (.aload_n 0, 1) := by decide +kernel
theorem dX8_type_22 : decode cX8_type 22 = .ok (.getfield 38, 3) := by decide +kernel
theorem dX8_type_25 : decode cX8_type 25 = .ok (.iload_n 1, 1) := by decide +kernel
theorem dX8_type_26 : decode cX8_type 26 = .ok (.invokevirtual 266, 3) := by decide +kernel
theorem dX8_type_29 : decode cX8_type 29 = .ok (.aload_n 0, 1) := by decide +kernel
theorem dX8_type_30 : decode cX8_type 30 = .ok (.getfield 38, 3) := by decide +kernel
theorem dX8_type_33 : decode cX8_type 33 = .ok (.invokevirtual 270, 3) := by decide +kernel
theorem dX8_type_36 : decode cX8_type 36 = .ok (.ireturn, 1) := by decide +kernel
set_option maxRecDepth 20000 in
theorem ggX8_read_X7_errorAt : GoodIn wsX8_read wsX7_errorAt := goodIn_ca (goodIn_r _ [19, 20, 21, 22, 23, 18, 24, 25, 26, 27, 28, 29, 30, 31, 32, 33, 34, 35, 36, 37, 38, 39, 40, 41, 42, 43, 44, 45, 46, 47, 48, 49, 50, 51, 52, 53, 54, 55, 56, 57, 58, 59, 60, 61, 62, 63, 64, 65, 66, 67, 68, 69, 70, 71, 72, 73, 74, 75, 76, 77, 78, 79, 80, 81, 82, 83, 84, 85, 86, 87, 88, 89, 90, 91, 92, 93, 94, 95, 96, 97, 98, 99, 100, 101, 102, 103, 104, 105, 106, 11, 12, 13, 397, 398, 399, 400] (by decide +kernel) (by decide +kernel)) (goodIn_sub (fun _ h => List.mem_cons_of_mem _ (List.mem_append_right _ h)) (by decide +kernel))
set_option maxRecDepth 20000 in
theorem gX8_read_X7_errorAt : GoodIn wsX8_read (wsV RX8 273 RX7 yX7_errorAt wsX7_errorAt) := goodIn_app (goodIn_of _ (by decide +kernel)) ggX8_read_X7_errorAt
set_option maxRecDepth 20000 in
theorem ggX8_read_X7_empty : GoodIn wsX8_read wsX7_empty := goodIn_r _ [110, 20, 397, 398] (by decide +kernel) (by decide +kernel)
set_option maxRecDepth 20000 in
theorem gX8_read_X7_empty : GoodIn wsX8_read (wsV RX8 276 RX7 yX7_empty wsX7_empty) := goodIn_app (goodIn_of _ (by decide +kernel)) ggX8_read_X7_empty
set_option maxRecDepth 20000 in
theorem ggX8_read_X6_copyTo : GoodIn wsX8_read wsX6_copyTo := goodIn_r _ [115, 116, 117, 118, 119, 120, 401] (by decide +kernel) (by decide +kernel)
set_option maxRecDepth 20000 in
theorem gX8_read_X6_copyTo : GoodIn wsX8_read (wsV RX8 281 RX6 yX6_copyTo wsX6_copyTo) := goodIn_app (goodIn_of _ (by decide +kernel)) ggX8_read_X6_copyTo
set_option maxRecDepth 20000 in
theorem ggX8_read_X7_commandAt : GoodIn wsX8_read wsX7_commandAt := goodIn_ca (goodIn_r _ [24, 25, 26, 27, 18, 28, 20, 29, 30, 31, 32, 33, 34, 35, 36, 37, 38, 39, 40, 41, 42, 43, 44, 45, 46, 47, 48, 49, 50, 51, 52, 53, 54, 55, 56, 57, 58, 59, 60, 61, 62, 63, 64, 65, 66, 67, 68, 69, 70, 71, 72, 73, 74, 75, 76, 77, 78, 79, 80, 81, 82, 83, 84, 85, 86, 87, 88, 89, 90, 91, 92, 93, 94, 95, 96, 97, 98, 99, 100, 101, 397, 398, 399, 400] (by decide +kernel) (by decide +kernel)) (goodIn_sub (fun _ h => List.mem_cons_of_mem _ (List.mem_append_right _ h)) (by decide +kernel))
set_option maxRecDepth 20000 in
theorem gX8_read_X7_commandAt : GoodIn wsX8_read (wsV RX8 285 RX7 yX7_commandAt wsX7_commandAt) := goodIn_app (goodIn_of _ (by decide +kernel)) ggX8_read_X7_commandAt
set_option maxRecDepth 20000 in
theorem ggX8_read_X7_argument : GoodIn wsX8_read wsX7_argument := goodIn_ca (goodIn_r _ [125, 29, 30, 31, 32, 33, 34, 35, 36, 37, 38, 39, 40, 41, 42, 43, 44, 45, 46, 47, 48, 49, 50, 51, 52, 53, 54, 55, 56, 57, 58, 59, 60, 61, 62, 63, 64, 65, 66, 67, 68, 69, 70, 71, 72, 73, 74, 75, 76, 77, 78, 79, 80, 81, 82, 83, 84, 85, 86, 87, 88, 89, 90, 18, 91, 20, 92, 96, 97, 98, 99, 100, 101, 399, 400, 397, 398] (by decide +kernel) (by decide +kernel)) (goodIn_sub (fun _ h => List.mem_cons_of_mem _ (List.mem_append_right _ h)) (by decide +kernel))
set_option maxRecDepth 20000 in
theorem gX8_read_X7_argument : GoodIn wsX8_read (wsV RX8 289 RX7 yX7_argument wsX7_argument) := goodIn_app (goodIn_of _ (by decide +kernel)) ggX8_read_X7_argument
set_option maxRecDepth 20000 in
theorem ggX8_read_X5_judge : GoodIn wsX8_read wsX5_judge := goodIn_ca (goodIn_r _ [130, 131, 132, 133, 134, 135, 136, 137, 138, 139, 140, 141, 129, 142, 143, 144, 145, 146, 114, 147, 116, 148, 100, 149, 150, 151, 152, 153, 154, 155, 156, 157, 158, 159, 160, 161, 162, 163, 164, 165, 166, 167, 168, 169, 170, 171, 172, 173, 174, 175, 176, 177, 178, 179, 180, 181, 182, 183, 184, 185, 186, 187, 188, 189, 190, 191, 192, 193, 194, 195, 196, 197, 198, 199, 200, 201, 202, 203, 204, 205, 206, 207, 208, 209, 210, 211, 212, 213, 214, 215, 216, 217, 218, 219, 220, 221, 222, 223, 224, 225, 226, 227, 228, 229, 230, 231, 232, 233, 234, 235, 236, 237, 238, 239, 240, 241, 242, 243, 244, 245, 246, 247, 248, 249, 250, 251, 252, 253, 254, 255, 256, 402, 403, 401, 404, 405, 406, 407, 408, 409, 410] (by decide +kernel) (by decide +kernel)) (goodIn_sub (fun _ h => List.mem_cons_of_mem _ (List.mem_append_right _ h)) (by decide +kernel))
set_option maxRecDepth 20000 in
theorem gX8_read_X5_judge : GoodIn wsX8_read (wsV RX8 293 RX5 yX5_judge wsX5_judge) := goodIn_app (goodIn_of _ (by decide +kernel)) ggX8_read_X5_judge
set_option maxRecDepth 20000 in
theorem ggX8_read_X5_carryOut : GoodIn wsX8_read wsX5_carryOut := goodIn_ca (goodIn_r _ [260, 131, 143, 132, 133, 134, 135, 136, 137, 138, 261, 262, 263, 114, 264, 116, 265, 145, 146, 147, 266, 267, 268, 269, 170, 171, 129, 172, 270, 271, 272, 273, 274, 167, 168, 169, 162, 163, 164, 165, 275, 276, 277, 278, 279, 280, 281, 282, 283, 159, 160, 161, 284, 285, 286, 287, 211, 192, 193, 194, 195, 196, 197, 198, 288, 289, 290, 291, 292, 241, 242, 243, 244, 245, 246, 293, 294, 295, 296, 297, 298, 299, 300, 301, 302, 303, 304, 305, 306, 307, 308, 187, 188, 189, 190, 309, 184, 185, 186, 310, 311, 312, 313, 314, 315, 316, 317, 318, 319, 320, 321, 322, 217, 218, 219, 323, 324, 325, 326, 327, 328, 329, 330, 228, 229, 230, 231, 232, 233, 234, 235, 236, 237, 238, 239, 240, 247, 248, 249, 250, 251, 252, 331, 332, 333, 334, 335, 336, 337, 338, 339, 340, 341, 342, 343, 344, 345, 346, 347, 348, 349, 350, 351, 352, 353, 354, 355, 356, 357, 358, 359, 360, 361, 362, 363, 364, 402, 403, 401, 404, 405, 406, 407, 408, 409, 410] (by decide +kernel) (by decide +kernel)) (goodIn_sub (fun _ h => List.mem_cons_of_mem _ (List.mem_append_right _ h)) (by decide +kernel))
set_option maxRecDepth 20000 in
theorem gX8_read_X5_carryOut : GoodIn wsX8_read (wsV RX8 296 RX5 yX5_carryOut wsX5_carryOut) := goodIn_app (goodIn_of _ (by decide +kernel)) ggX8_read_X5_carryOut
set_option maxRecDepth 20000 in
theorem ggX8_read_X1_length : GoodIn wsX8_read wsX1_length := goodIn_r _ [33, 34, 35, 36, 37, 38, 39, 40, 41, 42, 43, 44, 45, 46, 399, 400] (by decide +kernel) (by decide +kernel)
set_option maxRecDepth 20000 in
theorem gX8_read_X1_length : GoodIn wsX8_read (wsV RX8 299 RX1 yX1_length wsX1_length) := goodIn_app (goodIn_of _ (by decide +kernel)) ggX8_read_X1_length
set_option maxRecDepth 20000 in
theorem ggX8_read_X6_copyFrom : GoodIn wsX8_read wsX6_copyFrom := goodIn_r _ [369, 116, 117, 118, 119, 120, 401] (by decide +kernel) (by decide +kernel)
set_option maxRecDepth 20000 in
theorem gX8_read_X6_copyFrom : GoodIn wsX8_read (wsV RX8 300 RX6 yX6_copyFrom wsX6_copyFrom) := goodIn_app (goodIn_of _ (by decide +kernel)) ggX8_read_X6_copyFrom
set_option maxRecDepth 20000 in
theorem ggX8_read_X8_refusedFor : GoodIn wsX8_read wsX8_refusedFor := goodIn_r _ [149] (by decide +kernel) (by decide +kernel)
set_option maxRecDepth 20000 in
theorem gX8_read_X8_refusedFor : GoodIn wsX8_read (va_wsS RX8 303 yX8_refusedFor wsX8_refusedFor) := goodIn_app (goodIn_of _ (by decide +kernel)) ggX8_read_X8_refusedFor
set_option maxRecDepth 20000 in
theorem ggX8_read_X8_refuse : GoodIn wsX8_read wsX8_refuse := goodIn_r _ [374, 375, 376, 385, 386, 387, 388, 389, 390, 391, 392, 393, 394, 395, 396] (by decide +kernel) (by decide +kernel)
set_option maxRecDepth 20000 in
theorem gX8_read_X8_refuse : GoodIn wsX8_read (wsV RX8 311 RX8 yX8_refuse wsX8_refuse) := goodIn_app (goodIn_of _ (by decide +kernel)) ggX8_read_X8_refuse
set_option maxRecDepth 20000 in
theorem ggX8_read_X2_push : GoodIn wsX8_read wsX2_push := goodIn_r _ [381, 382, 383, 384, 118, 119, 120, 411, 412] (by decide +kernel) (by decide +kernel)
set_option maxRecDepth 20000 in
theorem gX8_read_X2_push : GoodIn wsX8_read (wsV RX8 320 RX2 yX2_push wsX2_push) := goodIn_app (goodIn_of _ (by decide +kernel)) ggX8_read_X2_push
theorem dX8_read_0 : decode cX8_read 0 = .ok (.aload_n 0, 1) := by decide +kernel
theorem dX8_read_1 : decode cX8_read 1 = .ok (.getfield 38, 3) := by decide +kernel
theorem dX8_read_4 : decode cX8_read 4 = .ok (.invokevirtual 273, 3) := by decide +kernel
theorem dX8_read_7 : decode cX8_read 7 = .ok (.istore_n 1, 1) := by decide +kernel
theorem dX8_read_8 : decode cX8_read 8 = .ok (.iload_n 1, 1) := by decide +kernel
theorem dX8_read_9 : decode cX8_read 9 = .ok (.iconst (-1), 1) := by decide +kernel
theorem dX8_read_10 : decode cX8_read 10 = .ok (.if_icmp .eq 26, 3) := by decide +kernel
theorem dX8_read_13 : decode cX8_read 13 = .ok (.aload_n 0, 1) := by decide +kernel
theorem dX8_read_14 : decode cX8_read 14 = .ok (.getfield 38, 3) := by decide +kernel
theorem dX8_read_17 : decode cX8_read 17 = .ok (.invokevirtual 276, 3) := by decide +kernel
theorem dX8_read_20 : decode cX8_read 20 = .ok (.aload_n 0, 1) := by decide +kernel
theorem dX8_read_21 : decode cX8_read 21 = .ok (.iload_n 1, 1) := by decide +kernel
theorem dX8_read_22 : decode cX8_read 22 = .ok (.putfield 62, 3) := by decide +kernel
theorem dX8_read_25 : decode cX8_read 25 = .ok (.new 139, 3) := by decide +kernel
theorem dX8_read_28 : decode cX8_read 28 = .ok (.dup, 1) := by decide +kernel
theorem dX8_read_29 : decode cX8_read 29 = .ok (.ldc_w 279, 3) := by decide +kernel
theorem dX8_read_32 : decode cX8_read 32 = .ok (.invokespecial 143, 3) := by decide +kernel
theorem dX8_read_35 : decode cX8_read 35 = .ok (.athrow, 1) := by decide +kernel
theorem dX8_read_36 : decode cX8_read 36 = .ok (.aload_n 0, 1) := by decide +kernel
theorem dX8_read_37 : decode cX8_read 37 = .ok (.getfield 20, 3) := by decide +kernel
theorem dX8_read_40 : decode cX8_read 40 = .ok (.aload_n 0, 1) := by decide +kernel
theorem dX8_read_41 : decode cX8_read 41 = .ok (.getfield 51, 3) := by decide +kernel
theorem dX8_read_44 : decode cX8_read 44 = .ok (.invokevirtual 281, 3) := by decide +kernel
theorem dX8_read_47 : decode cX8_read 47 = .ok (.iconst 0, 1) := by decide +kernel
theorem dX8_read_48 : decode cX8_read 48 = .ok (.istore_n 2, 1) := by decide +kernel
theorem dX8_read_49 : decode cX8_read 49 = .ok (.iconst 0, 1) := by decide +kernel
theorem dX8_read_50 : decode cX8_read 50 = .ok (.istore_n 3, 1) := by decide +kernel
theorem dX8_read_51 : decode cX8_read 51 = .ok (.iconst 0, 1) := by decide +kernel
theorem dX8_read_52 : decode cX8_read 52 = .ok (.istore 4, 2) := by decide +kernel
theorem dX8_read_54 : decode cX8_read 54 = .ok (.aload_n 0, 1) := by decide +kernel
theorem dX8_read_55 : decode cX8_read 55 = .ok (.getfield 38, 3) := by decide +kernel
theorem dX8_read_58 : decode cX8_read 58 = .ok (.iload 4, 2) := by decide +kernel
theorem dX8_read_60 : decode cX8_read 60 = .ok (.invokevirtual 285, 3) := by decide +kernel
theorem dX8_read_63 : decode cX8_read 63 = .ok (.astore 5, 2) := by decide +kernel
theorem dX8_read_65 : decode cX8_read 65 = .ok (.aload 5, 2) := by decide +kernel
theorem dX8_read_67 : decode cX8_read 67 = .ok (.ifnull 120, 3) := by decide +kernel
theorem dX8_read_70 : decode cX8_read 70 = .ok (.iload_n 2, 1) := by decide +kernel
theorem dX8_read_71 : decode cX8_read 71 = .ok (.ifCond .ne 116, 3) := by decide +kernel
theorem dX8_read_74 : decode cX8_read 74 = .ok (.iload_n 3, 1) := by decide +kernel
theorem dX8_read_75 : decode cX8_read 75 = .ok (.bipush 60, 2) := by decide +kernel
theorem dX8_read_77 : decode cX8_read 77 = .ok (.if_icmp .ge 110, 3) := by decide +kernel
theorem dX8_read_80 : decode cX8_read 80 = .ok (.aload_n 0, 1) := by decide +kernel
theorem dX8_read_81 : decode cX8_read 81 = .ok (.getfield 38, 3) := by decide +kernel
theorem dX8_read_84 : decode cX8_read 84 = .ok (.aload 5, 2) := by decide +kernel
theorem dX8_read_86 : decode cX8_read 86 = .ok (.iload 4, 2) := by decide +kernel
theorem dX8_read_88 : decode cX8_read 88 = .ok (.iconst 0, 1) := by decide +kernel
theorem dX8_read_89 : decode cX8_read 89 = .ok (.invokevirtual 289, 3) := by decide +kernel
theorem dX8_read_92 : decode cX8_read 92 = .ok (.istore 6, 2) := by decide +kernel
theorem dX8_read_94 : decode cX8_read 94 = .ok (.aload_n 0, 1) := by decide +kernel
theorem dX8_read_95 : decode cX8_read 95 = .ok (.getfield 38, 3) := by decide +kernel
theorem dX8_read_98 : decode cX8_read 98 = .ok (.aload 5, 2) := by decide +kernel
theorem dX8_read_100 : decode cX8_read 100 = .ok (.iload 4, 2) := by decide +kernel
theorem dX8_read_102 : decode cX8_read 102 = .ok (.iconst 1, 1) := by decide +kernel
theorem dX8_read_103 : decode cX8_read 103 = .ok (.invokevirtual 289, 3) := by decide +kernel
theorem dX8_read_106 : decode cX8_read 106 = .ok (.istore 7, 2) := by decide +kernel
theorem dX8_read_108 : decode cX8_read 108 = .ok (.aload_n 0, 1) := by decide +kernel
theorem dX8_read_109 : decode cX8_read 109 = .ok (.getfield 38, 3) := by decide +kernel
theorem dX8_read_112 : decode cX8_read 112 = .ok (.aload 5, 2) := by decide +kernel
theorem dX8_read_114 : decode cX8_read 114 = .ok (.iload 4, 2) := by decide +kernel
theorem dX8_read_116 : decode cX8_read 116 = .ok (.iconst 2, 1) := by decide +kernel
theorem dX8_read_117 : decode cX8_read 117 = .ok (.invokevirtual 289, 3) := by decide +kernel
theorem dX8_read_120 : decode cX8_read 120 = .ok (.istore 8, 2) := by decide +kernel
theorem dX8_read_122 : decode cX8_read 122 = .ok (.aload_n 0, 1) := by decide +kernel
theorem dX8_read_123 : decode cX8_read 123 = .ok (.getfield 10, 3) := by decide +kernel
theorem dX8_read_126 : decode cX8_read 126 = .ok (.aload 5, 2) := by decide +kernel
theorem dX8_read_128 : decode cX8_read 128 = .ok (.iload 6, 2) := by decide +kernel
theorem dX8_read_130 : decode cX8_read 130 = .ok (.iload 7, 2) := by decide +kernel
theorem dX8_read_132 : decode cX8_read 132 = .ok (.iload 8, 2) := by decide +kernel
theorem dX8_read_134 : decode cX8_read 134 = .ok (.invokevirtual 293, 3) := by decide +kernel
theorem dX8_read_137 : decode cX8_read 137 = .ok (.istore_n 2, 1) := by decide +kernel
theorem dX8_read_138 : decode cX8_read 138 = .ok (.iload_n 2, 1) := by decide +kernel
theorem dX8_read_139 : decode cX8_read 139 = .ok (.ifCond .ne 19, 3) := by decide +kernel
theorem dX8_read_142 : decode cX8_read 142 = .ok (.aload_n 0, 1) := by decide +kernel
theorem dX8_read_143 : decode cX8_read 143 = .ok (.getfield 10, 3) := by decide +kernel
theorem dX8_read_146 : decode cX8_read 146 = .ok (.aload 5, 2) := by decide +kernel
theorem dX8_read_148 : decode cX8_read 148 = .ok (.iload 6, 2) := by decide +kernel
theorem dX8_read_150 : decode cX8_read 150 = .ok (.iload 7, 2) := by decide +kernel
theorem dX8_read_152 : decode cX8_read 152 = .ok (.iload 8, 2) := by decide +kernel
theorem dX8_read_154 : decode cX8_read 154 = .ok (.invokevirtual 296, 3) := by decide +kernel
theorem dX8_read_157 : decode cX8_read 157 = .ok (.pop, 1) := by decide +kernel
theorem dX8_read_158 : decode cX8_read 158 = .ok (.iinc 3 1, 3) := by decide +kernel
theorem dX8_read_161 : decode cX8_read 161 = .ok (.iload 4, 2) := by decide +kernel
theorem dX8_read_163 : decode cX8_read 163 = .ok (.aload 5, 2) := by decide +kernel
theorem dX8_read_165 : decode cX8_read 165 = .ok (.invokevirtual 299, 3) := by decide +kernel
theorem dX8_read_168 : decode cX8_read 168 = .ok (.iconst 1, 1) := by decide +kernel
theorem dX8_read_169 : decode cX8_read 169 = .ok (.iadd, 1) := by decide +kernel
theorem dX8_read_170 : decode cX8_read 170 = .ok (.iadd, 1) := by decide +kernel
theorem dX8_read_171 : decode cX8_read 171 = .ok (.istore 4, 2) := by decide +kernel
theorem dX8_read_173 : decode cX8_read 173 = .ok (.aload_n 0, 1) := by decide +kernel
theorem dX8_read_174 : decode cX8_read 174 = .ok (.getfield 38, 3) := by decide +kernel
theorem dX8_read_177 : decode cX8_read 177 = .ok (.iload 4, 2) := by decide +kernel
theorem dX8_read_179 : decode cX8_read 179 = .ok (.invokevirtual 285, 3) := by decide +kernel
theorem dX8_read_182 : decode cX8_read 182 = .ok (.astore 5, 2) := by decide +kernel
theorem dX8_read_184 : decode cX8_read 184 = .ok (.goto (-119), 3) := by decide +kernel
theorem dX8_read_187 : decode cX8_read 187 = .ok (.aload_n 0, 1) := by decide +kernel
theorem dX8_read_188 : decode cX8_read 188 = .ok (.getfield 38, 3) := by decide +kernel
theorem dX8_read_191 : decode cX8_read 191 = .ok (.invokevirtual 276, 3) := by decide +kernel
theorem dX8_read_194 : decode cX8_read 194 = .ok (.iload_n 2, 1) := by decide +kernel
theorem dX8_read_195 : decode cX8_read 195 = .ok (.ifCond .eq 42, 3) := by decide +kernel
theorem dX8_read_198 : decode cX8_read 198 = .ok (.aload_n 0, 1) := by decide +kernel
theorem dX8_read_199 : decode cX8_read 199 = .ok (.getfield 20, 3) := by decide +kernel
theorem dX8_read_202 : decode cX8_read 202 = .ok (.aload_n 0, 1) := by decide +kernel
theorem dX8_read_203 : decode cX8_read 203 = .ok (.getfield 51, 3) := by decide +kernel
theorem dX8_read_206 : decode cX8_read 206 = .ok (.invokevirtual 300, 3) := by decide +kernel
theorem dX8_read_209 : decode cX8_read 209 = .ok (.aload_n 0, 1) := by decide +kernel
theorem dX8_read_210 : decode cX8_read 210 = .ok (.bipush 9, 2) := by decide +kernel
theorem dX8_read_212 : decode cX8_read 212 = .ok (.iload_n 3, 1) := by decide +kernel
theorem dX8_read_213 : decode cX8_read 213 = .ok (.iconst 1, 1) := by decide +kernel
theorem dX8_read_214 : decode cX8_read 214 = .ok (.isub, 1) := by decide +kernel
theorem dX8_read_215 : decode cX8_read 215 = .ok (.invokestatic 303, 3) := by decide +kernel
theorem dX8_read_218 : decode cX8_read 218 = .ok (.iload_n 2, 1) := by decide +kernel
theorem dX8_read_219 : decode cX8_read 219 = .ok (.iconst 0, 1) := by decide +kernel
theorem dX8_read_220 : decode cX8_read 220 = .ok (.invokestatic 306, 3) := by decide +kernel
theorem dX8_read_223 : decode cX8_read 223 = .ok (.invokevirtual 311, 3) := by decide +kernel
theorem dX8_read_226 : decode cX8_read 226 = .ok (.new 315, 3) := by decide +kernel
theorem dX8_read_229 : decode cX8_read 229 = .ok (.dup, 1) := by decide +kernel
theorem dX8_read_230 : decode cX8_read 230 = .ok (.ldc_w 317, 3) := by decide +kernel
theorem dX8_read_233 : decode cX8_read 233 = .ok (.invokespecial 319, 3) := by decide +kernel
theorem dX8_read_236 : decode cX8_read 236 = .ok (.athrow, 1) := by decide +kernel
theorem dX8_read_237 : decode cX8_read 237 = .ok (.aload_n 0, 1) := by decide +kernel
theorem dX8_read_238 : decode cX8_read 238 = .ok (.getfield 31, 3) := by decide +kernel
theorem dX8_read_241 : decode cX8_read 241 = .ok (.aload_n 0, 1) := by decide +kernel
theorem dX8_read_242 : decode cX8_read 242 = .ok (.getfield 51, 3) := by decide +kernel
theorem dX8_read_245 : decode cX8_read 245 = .ok (.invokevirtual 320, 3) := by decide +kernel
theorem dX8_read_248 : decode cX8_read 248 = .ok (.iload_n 3, 1) := by decide +kernel
theorem dX8_read_249 : decode cX8_read 249 = .ok (.ireturn, 1) := by decide +kernel
theorem dX8_errorPosition_0 : decode cX8_errorPosition 0 = .ok (.aload_n 0, 1) := by decide +kernel
theorem dX8_errorPosition_1 : decode cX8_errorPosition 1 = .ok (.getfield 62, 3) := by decide +kernel
theorem dX8_errorPosition_4 : decode cX8_errorPosition 4 = .ok (.iconst (-1), 1) := by decide +kernel
theorem dX8_errorPosition_5 : decode cX8_errorPosition 5 = .ok (.if_icmp .ne 14, 3) := by decide +kernel
theorem dX8_errorPosition_8 : decode cX8_errorPosition 8 = .ok (.new 176, 3) := by decide +kernel
theorem dX8_errorPosition_11 : decode cX8_errorPosition 11 = .ok (.dup, 1) := by decide +kernel
theorem dX8_errorPosition_12 : decode cX8_errorPosition 12 = .ok (.ldc_w 323, 3) := by decide +kernel
theorem dX8_errorPosition_15 : decode cX8_errorPosition 15 = .ok (.invokespecial 180, 3) := by decide +kernel
theorem dX8_errorPosition_18 : decode cX8_errorPosition 18 = .ok (.athrow, 1) := by decide +kernel
theorem dX8_errorPosition_19 : decode cX8_errorPosition 19 = .ok (.aload_n 0, 1) := by decide +kernel
theorem dX8_errorPosition_20 : decode cX8_errorPosition 20 = .ok (.getfield 62, 3) := by decide +kernel
theorem dX8_errorPosition_23 : decode cX8_errorPosition 23 = .ok (.ireturn, 1) := by decide +kernel
theorem dX8_refusal_0 : decode cX8_refusal 0 = .ok (.iload_n 1, 1) := by decide +kernel
theorem dX8_refusal_1 : decode cX8_refusal 1 = .ok (.ifCond .eq 10, 3) := by decide +kernel
theorem dX8_refusal_4 : decode cX8_refusal 4 = .ok (.aload_n 0, 1) := by decide +kernel
theorem dX8_refusal_5 : decode cX8_refusal 5 = .ok (.getfield 69, 3) := by decide +kernel
theorem dX8_refusal_8 : decode cX8_refusal 8 = .ok (.goto 7, 3) := by decide +kernel
theorem dX8_refusal_11 : decode cX8_refusal 11 = .ok (.aload_n 0, 1) := by decide +kernel
theorem dX8_refusal_12 : decode cX8_refusal 12 = .ok (.getfield 66, 3) := by decide +kernel
theorem dX8_refusal_15 : decode cX8_refusal 15 = .ok (.istore_n 3, 1) := by decide +kernel
theorem dX8_refusal_16 : decode cX8_refusal 16 = .ok (.iload_n 3, 1) := by decide +kernel
theorem dX8_refusal_17 : decode cX8_refusal 17 = .ok (.ifCond .ne 14, 3) := by decide +kernel
theorem dX8_refusal_20 : decode cX8_refusal 20 = .ok (.new 176, 3) := by decide +kernel
theorem dX8_refusal_23 : decode cX8_refusal 23 = .ok (.dup, 1) := by decide +kernel
theorem dX8_refusal_24 : decode cX8_refusal 24 = .ok (.ldc_w 325, 3) := by decide +kernel
theorem dX8_refusal_27 : decode cX8_refusal 27 = .ok (.invokespecial 180, 3) := by decide +kernel
theorem dX8_refusal_30 : decode cX8_refusal 30 = .ok (.athrow, 1) := by decide +kernel
theorem dX8_refusal_31 : decode cX8_refusal 31 = .ok (.iload_n 2, 1) := by decide +kernel
theorem dX8_refusal_32 : decode cX8_refusal 32 = .ok (.ifCond .eq 10, 3) := by decide +kernel
theorem dX8_refusal_35 : decode cX8_refusal 35 = .ok (.iload_n 3, 1) := by decide +kernel
theorem dX8_refusal_36 : decode cX8_refusal 36 = .ok (.bipush 16, 2) := by decide +kernel
theorem dX8_refusal_38 : decode cX8_refusal 38 = .ok (.irem, 1) := by decide +kernel
theorem dX8_refusal_39 : decode cX8_refusal 39 = .ok (.goto 7, 3) := by decide +kernel
theorem dX8_refusal_42 : decode cX8_refusal 42 = .ok (.iload_n 3, 1) := by decide +kernel
theorem dX8_refusal_43 : decode cX8_refusal 43 = .ok (.bipush 16, 2) := by decide +kernel
theorem dX8_refusal_45 : decode cX8_refusal 45 = .ok (.idiv, 1) := by decide +kernel
theorem dX8_refusal_46 : decode cX8_refusal 46 = .ok (.ireturn, 1) := by decide +kernel
set_option maxRecDepth 20000 in
theorem ggX8_show_X8_checkTable : GoodIn wsX8_show wsX8_checkTable := goodIn_ca (goodIn_r _ [8, 9, 10, 11, 12, 7, 13] (by decide +kernel) (by decide +kernel)) (goodIn_sub (fun _ h => List.mem_cons_of_mem _ (List.mem_append_left _ (List.mem_append_right _ h))) (by decide +kernel))
set_option maxRecDepth 20000 in
theorem gX8_show_X8_checkTable : GoodIn wsX8_show (wsV RX8 144 RX8 yX8_checkTable wsX8_checkTable) := goodIn_app (goodIn_of _ (by decide +kernel)) ggX8_show_X8_checkTable
set_option maxRecDepth 20000 in
theorem ggX8_show_X3_empty : GoodIn wsX8_show wsX3_empty := goodIn_r _ [18, 19, 78, 79] (by decide +kernel) (by decide +kernel)
set_option maxRecDepth 20000 in
theorem gX8_show_X3_empty : GoodIn wsX8_show (wsV RX8 327 RX3 yX3_empty wsX3_empty) := goodIn_app (goodIn_of _ (by decide +kernel)) ggX8_show_X3_empty
set_option maxRecDepth 20000 in
theorem ggX8_show_X6_laidOn : GoodIn wsX8_show wsX6_laidOn := goodIn_ca (goodIn_r _ [24, 25, 26, 27, 23, 28, 29, 80] (by decide +kernel) (by decide +kernel)) (goodIn_sub (fun _ h => List.mem_cons_of_mem _ (List.mem_append_right _ h)) (by decide +kernel))
set_option maxRecDepth 20000 in
theorem gX8_show_X6_laidOn : GoodIn wsX8_show (wsV RX8 148 RX6 yX6_laidOn wsX6_laidOn) := goodIn_app (goodIn_of _ (by decide +kernel)) ggX8_show_X6_laidOn
set_option maxRecDepth 20000 in
theorem ggX8_show_X6_seatedAt : GoodIn wsX8_show wsX6_seatedAt := goodIn_ca (goodIn_r _ [33, 29, 34, 35, 23, 36, 80] (by decide +kernel) (by decide +kernel)) (goodIn_sub (fun _ h => List.mem_cons_of_mem _ (List.mem_append_right _ h)) (by decide +kernel))
set_option maxRecDepth 20000 in
theorem gX8_show_X6_seatedAt : GoodIn wsX8_show (wsV RX8 181 RX6 yX6_seatedAt wsX6_seatedAt) := goodIn_app (goodIn_of _ (by decide +kernel)) ggX8_show_X6_seatedAt
set_option maxRecDepth 20000 in
theorem ggX8_show_X3_addDigit : GoodIn wsX8_show wsX3_addDigit := goodIn_ca (goodIn_r _ [40, 41, 42, 43, 17, 44, 19, 45, 78, 79] (by decide +kernel) (by decide +kernel)) (goodIn_sub (fun _ h => List.mem_cons_of_mem _ (List.mem_append_right _ h)) (by decide +kernel))
set_option maxRecDepth 20000 in
theorem gX8_show_X3_addDigit : GoodIn wsX8_show (wsV RX8 328 RX3 yX3_addDigit wsX3_addDigit) := goodIn_app (goodIn_of _ (by decide +kernel)) ggX8_show_X3_addDigit
set_option maxRecDepth 20000 in
theorem ggX8_show_X6_foldOf : GoodIn wsX8_show wsX6_foldOf := goodIn_ca (goodIn_r _ [49, 50, 51, 52, 23, 53, 29, 80] (by decide +kernel) (by decide +kernel)) (goodIn_sub (fun _ h => List.mem_cons_of_mem _ (List.mem_append_right _ h)) (by decide +kernel))
set_option maxRecDepth 20000 in
theorem gX8_show_X6_foldOf : GoodIn wsX8_show (wsV RX8 121 RX6 yX6_foldOf wsX6_foldOf) := goodIn_app (goodIn_of _ (by decide +kernel)) ggX8_show_X6_foldOf
set_option maxRecDepth 20000 in
theorem ggX8_show_X8_letterIn : GoodIn wsX8_show wsX8_letterIn := goodIn_ca (goodIn_r _ [56] (by decide +kernel) (by decide +kernel)) (goodIn_sub (fun _ h => List.mem_cons_of_mem _ (List.mem_append_right _ h)) (by decide +kernel))
set_option maxRecDepth 20000 in
theorem gX8_show_X8_letterIn : GoodIn wsX8_show (va_wsS RX8 335 yX8_letterIn wsX8_letterIn) := goodIn_app (goodIn_of _ (by decide +kernel)) ggX8_show_X8_letterIn
set_option maxRecDepth 20000 in
theorem ggX8_show_X3_add : GoodIn wsX8_show wsX3_add := goodIn_ca (goodIn_r _ [44, 19, 45, 78, 79] (by decide +kernel) (by decide +kernel)) (goodIn_sub (fun _ h => List.mem_cons_of_mem _ (List.mem_append_right _ h)) (by decide +kernel))
set_option maxRecDepth 20000 in
theorem gX8_show_X3_add : GoodIn wsX8_show (wsV RX8 339 RX3 yX3_add wsX3_add) := goodIn_app (goodIn_of _ (by decide +kernel)) ggX8_show_X3_add
set_option maxRecDepth 20000 in
theorem ggX8_show_X6_stainsOf : GoodIn wsX8_show wsX6_stainsOf := goodIn_ca (goodIn_r _ [61, 50, 51, 52, 23, 53, 29, 80] (by decide +kernel) (by decide +kernel)) (goodIn_sub (fun _ h => List.mem_cons_of_mem _ (List.mem_append_right _ h)) (by decide +kernel))
set_option maxRecDepth 20000 in
theorem gX8_show_X6_stainsOf : GoodIn wsX8_show (wsV RX8 127 RX6 yX6_stainsOf wsX6_stainsOf) := goodIn_app (goodIn_of _ (by decide +kernel)) ggX8_show_X6_stainsOf
set_option maxRecDepth 20000 in
theorem ggX8_show_X3_length : GoodIn wsX8_show wsX3_length := goodIn_r _ [65, 19, 78, 79] (by decide +kernel) (by decide +kernel)
set_option maxRecDepth 20000 in
theorem gX8_show_X3_length : GoodIn wsX8_show (wsV RX8 342 RX3 yX3_length wsX3_length) := goodIn_app (goodIn_of _ (by decide +kernel)) ggX8_show_X3_length
theorem dX8_show_0 : decode cX8_show 0 = .ok (.aload_n 0, 1) := by decide +kernel
theorem dX8_show_1 : decode cX8_show 1 = .ok (.iload_n 1, 1) := by decide +kernel
theorem dX8_show_2 : decode cX8_show 2 = .ok (.invokevirtual 144, 3) := by decide +kernel
theorem dX8_show_5 : decode cX8_show 5 = .ok (.aload_n 0, 1) := by decide +kernel
theorem dX8_show_6 : decode cX8_show 6 = .ok (.getfield 45, 3) := by decide +kernel
theorem dX8_show_9 : decode cX8_show 9 = .ok (.invokevirtual 327, 3) := by decide +kernel
theorem dX8_show_12 : decode cX8_show 12 = .ok (.iconst 0, 1) := by decide +kernel
theorem dX8_show_13 : decode cX8_show 13 = .ok (.istore_n 2, 1) := by decide +kernel
theorem dX8_show_14 : decode cX8_show 14 = .ok (.iload_n 2, 1) := by decide +kernel
theorem dX8_show_15 : decode cX8_show 15 = .ok (.aload_n 0, 1) := by decide +kernel
theorem dX8_show_16 : decode cX8_show 16 = .ok (.getfield 20, 3) := by decide +kernel
theorem dX8_show_19 : decode cX8_show 19 = .ok (.iload_n 1, 1) := by decide +kernel
theorem dX8_show_20 : decode cX8_show 20 = .ok (.invokevirtual 148, 3) := by decide +kernel
theorem dX8_show_23 : decode cX8_show 23 = .ok (.if_icmp .ge 68, 3) := by decide +kernel
theorem dX8_show_26 : decode cX8_show 26 = .ok (.aload_n 0, 1) := by decide +kernel
theorem dX8_show_27 : decode cX8_show 27 = .ok (.getfield 20, 3) := by decide +kernel
theorem dX8_show_30 : decode cX8_show 30 = .ok (.iload_n 1, 1) := by decide +kernel
theorem dX8_show_31 : decode cX8_show 31 = .ok (.iload_n 2, 1) := by decide +kernel
theorem dX8_show_32 : decode cX8_show 32 = .ok (.invokevirtual 181, 3) := by decide +kernel
theorem dX8_show_35 : decode cX8_show 35 = .ok (.istore_n 3, 1) := by decide +kernel
theorem dX8_show_36 : decode cX8_show 36 = .ok (.aload_n 0, 1) := by decide +kernel
theorem dX8_show_37 : decode cX8_show 37 = .ok (.getfield 45, 3) := by decide +kernel
theorem dX8_show_40 : decode cX8_show 40 = .ok (.iload_n 3, 1) := by decide +kernel
theorem dX8_show_41 : decode cX8_show 41 = .ok (.invokevirtual 328, 3) := by decide +kernel
theorem dX8_show_44 : decode cX8_show 44 = .ok (.aload_n 0, 1) := by decide +kernel
theorem dX8_show_45 : decode cX8_show 45 = .ok (.getfield 45, 3) := by decide +kernel
theorem dX8_show_48 : decode cX8_show 48 = .ok (.getstatic 331, 3) := by decide +kernel
theorem dX8_show_51 : decode cX8_show 51 = .ok (.aload_n 0, 1) := by decide +kernel
theorem dX8_show_52 : decode cX8_show 52 = .ok (.getfield 20, 3) := by decide +kernel
theorem dX8_show_55 : decode cX8_show 55 = .ok (.iload_n 3, 1) := by decide +kernel
theorem dX8_show_56 : decode cX8_show 56 = .ok (.invokevirtual 121, 3) := by decide +kernel
theorem dX8_show_59 : decode cX8_show 59 = .ok (.invokestatic 335, 3) := by decide +kernel
theorem dX8_show_62 : decode cX8_show 62 = .ok (.invokevirtual 339, 3) := by decide +kernel
theorem dX8_show_65 : decode cX8_show 65 = .ok (.aload_n 0, 1) := by decide +kernel
theorem dX8_show_66 : decode cX8_show 66 = .ok (.getfield 20, 3) := by decide +kernel
theorem dX8_show_69 : decode cX8_show 69 = .ok (.iload_n 3, 1) := by decide +kernel
theorem dX8_show_70 : decode cX8_show 70 = .ok (.invokevirtual 127, 3) := by decide +kernel
theorem dX8_show_73 : decode cX8_show 73 = .ok (.ifCond .le 12, 3) := by decide +kernel
theorem dX8_show_76 : decode cX8_show 76 = .ok (.aload_n 0, 1) := by decide +kernel
theorem dX8_show_77 : decode cX8_show 77 = .ok (.getfield 45, 3) := by decide +kernel
theorem dX8_show_80 : decode cX8_show 80 = .ok (.bipush 42, 2) := by decide +kernel
theorem dX8_show_82 : decode cX8_show 82 = .ok (.invokevirtual 339, 3) := by decide +kernel
theorem dX8_show_85 : decode cX8_show 85 = .ok (.iinc 2 1, 3) := by decide +kernel
theorem dX8_show_88 : decode cX8_show 88 = .ok (.goto (-74), 3) := by decide +kernel
theorem dX8_show_91 : decode cX8_show 91 = .ok (.aload_n 0, 1) := by decide +kernel
theorem dX8_show_92 : decode cX8_show 92 = .ok (.getfield 45, 3) := by decide +kernel
theorem dX8_show_95 : decode cX8_show 95 = .ok (.invokevirtual 342, 3) := by decide +kernel
theorem dX8_show_98 : decode cX8_show 98 = .ok (.ireturn, 1) := by decide +kernel
set_option maxRecDepth 20000 in
theorem ggX8_tell_X8_checkTable : GoodIn wsX8_tell wsX8_checkTable := goodIn_ca (goodIn_r _ [8, 9, 10, 11, 12, 7, 13] (by decide +kernel) (by decide +kernel)) (goodIn_sub (fun _ h => List.mem_cons_of_mem _ (List.mem_append_left _ (List.mem_append_right _ h))) (by decide +kernel))
set_option maxRecDepth 20000 in
theorem gX8_tell_X8_checkTable : GoodIn wsX8_tell (wsV RX8 144 RX8 yX8_checkTable wsX8_checkTable) := goodIn_app (goodIn_of _ (by decide +kernel)) ggX8_tell_X8_checkTable
set_option maxRecDepth 20000 in
theorem ggX8_tell_X3_empty : GoodIn wsX8_tell wsX3_empty := goodIn_r _ [18, 19, 112, 113] (by decide +kernel) (by decide +kernel)
set_option maxRecDepth 20000 in
theorem gX8_tell_X3_empty : GoodIn wsX8_tell (wsV RX8 327 RX3 yX3_empty wsX3_empty) := goodIn_app (goodIn_of _ (by decide +kernel)) ggX8_tell_X3_empty
set_option maxRecDepth 20000 in
theorem ggX8_tell_X8_heard : GoodIn wsX8_tell wsX8_heard := goodIn_ca (goodIn_r _ [23, 24, 3, 25, 26, 27, 28, 29, 30, 31, 32, 33, 34, 35, 36, 37, 38, 39, 40, 41, 42, 43, 44, 45, 46, 47, 48, 49, 50, 51, 52, 53, 54, 55, 56, 57, 58, 59, 60, 61, 62, 63, 64, 65, 66, 67, 100, 101, 102, 103, 104, 105, 106, 107, 108, 109, 110, 111, 114, 115, 116, 117, 118, 119, 120, 121] (by decide +kernel) (by decide +kernel)) (goodIn_sub (fun _ h => List.mem_cons_of_mem _ (List.mem_append_right _ h)) (by decide +kernel))
set_option maxRecDepth 20000 in
theorem gX8_tell_X8_heard : GoodIn wsX8_tell (wsV RX8 151 RX8 yX8_heard wsX8_heard) := goodIn_app (goodIn_of _ (by decide +kernel)) ggX8_tell_X8_heard
set_option maxRecDepth 20000 in
theorem ggX8_tell_X4_size : GoodIn wsX8_tell wsX4_size := goodIn_r _ [71, 30, 114, 115, 116, 117, 118, 119, 120] (by decide +kernel) (by decide +kernel)
set_option maxRecDepth 20000 in
theorem gX8_tell_X4_size : GoodIn wsX8_tell (wsV RX8 155 RX4 yX4_size wsX4_size) := goodIn_app (goodIn_of _ (by decide +kernel)) ggX8_tell_X4_size
set_option maxRecDepth 20000 in
theorem ggX8_tell_X4_napkinAt : GoodIn wsX8_tell wsX4_napkinAt := goodIn_ca (goodIn_r _ [75, 31, 76, 77, 78, 28, 79, 30, 114, 115, 116, 117, 118, 119, 120] (by decide +kernel) (by decide +kernel)) (goodIn_sub (fun _ h => List.mem_cons_of_mem _ (List.mem_append_right _ h)) (by decide +kernel))
set_option maxRecDepth 20000 in
theorem gX8_tell_X4_napkinAt : GoodIn wsX8_tell (wsV RX8 185 RX4 yX4_napkinAt wsX4_napkinAt) := goodIn_app (goodIn_of _ (by decide +kernel)) ggX8_tell_X4_napkinAt
set_option maxRecDepth 20000 in
theorem ggX8_tell_X3_add : GoodIn wsX8_tell wsX3_add := goodIn_ca (goodIn_r _ [83, 19, 84, 112, 113] (by decide +kernel) (by decide +kernel)) (goodIn_sub (fun _ h => List.mem_cons_of_mem _ (List.mem_append_right _ h)) (by decide +kernel))
set_option maxRecDepth 20000 in
theorem gX8_tell_X3_add : GoodIn wsX8_tell (wsV RX8 339 RX3 yX3_add wsX3_add) := goodIn_app (goodIn_of _ (by decide +kernel)) ggX8_tell_X3_add
set_option maxRecDepth 20000 in
theorem ggX8_tell_X6_foldOf : GoodIn wsX8_tell wsX6_foldOf := goodIn_ca (goodIn_r _ [55, 56, 57, 58, 38, 59, 44, 121] (by decide +kernel) (by decide +kernel)) (goodIn_sub (fun _ h => List.mem_cons_of_mem _ (List.mem_append_right _ h)) (by decide +kernel))
set_option maxRecDepth 20000 in
theorem gX8_tell_X6_foldOf : GoodIn wsX8_tell (wsV RX8 121 RX6 yX6_foldOf wsX6_foldOf) := goodIn_app (goodIn_of _ (by decide +kernel)) ggX8_tell_X6_foldOf
set_option maxRecDepth 20000 in
theorem ggX8_tell_X8_letterIn : GoodIn wsX8_tell wsX8_letterIn := goodIn_ca (goodIn_r _ [88] (by decide +kernel) (by decide +kernel)) (goodIn_sub (fun _ h => List.mem_cons_of_mem _ (List.mem_append_right _ h)) (by decide +kernel))
set_option maxRecDepth 20000 in
theorem gX8_tell_X8_letterIn : GoodIn wsX8_tell (va_wsS RX8 335 yX8_letterIn wsX8_letterIn) := goodIn_app (goodIn_of _ (by decide +kernel)) ggX8_tell_X8_letterIn
set_option maxRecDepth 20000 in
theorem ggX8_tell_X6_colourOf : GoodIn wsX8_tell wsX6_colourOf := goodIn_ca (goodIn_r _ [63, 56, 57, 58, 38, 59, 44, 121] (by decide +kernel) (by decide +kernel)) (goodIn_sub (fun _ h => List.mem_cons_of_mem _ (List.mem_append_right _ h)) (by decide +kernel))
set_option maxRecDepth 20000 in
theorem gX8_tell_X6_colourOf : GoodIn wsX8_tell (wsV RX8 117 RX6 yX6_colourOf wsX6_colourOf) := goodIn_app (goodIn_of _ (by decide +kernel)) ggX8_tell_X6_colourOf
set_option maxRecDepth 20000 in
theorem ggX8_tell_X3_addDigit : GoodIn wsX8_tell wsX3_addDigit := goodIn_ca (goodIn_r _ [93, 94, 81, 82, 17, 83, 19, 84, 112, 113] (by decide +kernel) (by decide +kernel)) (goodIn_sub (fun _ h => List.mem_cons_of_mem _ (List.mem_append_right _ h)) (by decide +kernel))
set_option maxRecDepth 20000 in
theorem gX8_tell_X3_addDigit : GoodIn wsX8_tell (wsV RX8 328 RX3 yX3_addDigit wsX3_addDigit) := goodIn_app (goodIn_of _ (by decide +kernel)) ggX8_tell_X3_addDigit
set_option maxRecDepth 20000 in
theorem ggX8_tell_X6_stainsOf : GoodIn wsX8_tell wsX6_stainsOf := goodIn_ca (goodIn_r _ [67, 56, 57, 58, 38, 59, 44, 121] (by decide +kernel) (by decide +kernel)) (goodIn_sub (fun _ h => List.mem_cons_of_mem _ (List.mem_append_right _ h)) (by decide +kernel))
set_option maxRecDepth 20000 in
theorem gX8_tell_X6_stainsOf : GoodIn wsX8_tell (wsV RX8 127 RX6 yX6_stainsOf wsX6_stainsOf) := goodIn_app (goodIn_of _ (by decide +kernel)) ggX8_tell_X6_stainsOf
set_option maxRecDepth 20000 in
theorem ggX8_tell_X3_length : GoodIn wsX8_tell wsX3_length := goodIn_r _ [99, 19, 112, 113] (by decide +kernel) (by decide +kernel)
set_option maxRecDepth 20000 in
theorem gX8_tell_X3_length : GoodIn wsX8_tell (wsV RX8 342 RX3 yX3_length wsX3_length) := goodIn_app (goodIn_of _ (by decide +kernel)) ggX8_tell_X3_length
theorem dX8_tell_0 : decode cX8_tell 0 = .ok (.aload_n 0, 1) := by decide +kernel
theorem dX8_tell_1 : decode cX8_tell 1 = .ok (.iload_n 1, 1) := by decide +kernel
theorem dX8_tell_2 : decode cX8_tell 2 = .ok (.invokevirtual 144, 3) := by decide +kernel
theorem dX8_tell_5 : decode cX8_tell 5 = .ok (.aload_n 0, 1) := by decide +kernel
theorem dX8_tell_6 : decode cX8_tell 6 = .ok (.getfield 45, 3) := by decide +kernel
theorem dX8_tell_9 : decode cX8_tell 9 = .ok (.invokevirtual 327, 3) := by decide +kernel
theorem dX8_tell_12 : decode cX8_tell 12 = .ok (.aload_n 0, 1) := by decide +kernel
theorem dX8_tell_13 : decode cX8_tell 13 = .ok (.iload_n 1, 1) := by decide +kernel
theorem dX8_tell_14 : decode cX8_tell 14 = .ok (.invokevirtual 151, 3) := by decide +kernel
theorem dX8_tell_17 : decode cX8_tell 17 = .ok (.astore_n 2, 1) := by decide +kernel
theorem dX8_tell_18 : decode cX8_tell 18 = .ok (.iconst 0, 1) := by decide +kernel
theorem dX8_tell_19 : decode cX8_tell 19 = .ok (.istore_n 3, 1) := by decide +kernel
theorem dX8_tell_20 : decode cX8_tell 20 = .ok (.iload_n 3, 1) := by decide +kernel
theorem dX8_tell_21 : decode cX8_tell 21 = .ok (.aload_n 2, 1) := by decide +kernel
theorem dX8_tell_22 : decode cX8_tell 22 = .ok (.invokevirtual 155, 3) := by decide +kernel
theorem dX8_tell_25 : decode cX8_tell 25 = .ok (.if_icmp .ge 101, 3) := by decide +kernel
theorem dX8_tell_28 : decode cX8_tell 28 = .ok (.aload_n 2, 1) := by decide +kernel
theorem dX8_tell_29 : decode cX8_tell 29 = .ok (.iload_n 3, 1) := by decide +kernel
theorem dX8_tell_30 : decode cX8_tell 30 = .ok (.invokevirtual 185, 3) := by decide +kernel
theorem dX8_tell_33 : decode cX8_tell 33 = .ok (.istore 4, 2) := by decide +kernel
theorem dX8_tell_35 : decode cX8_tell 35 = .ok (.iload_n 3, 1) := by decide +kernel
theorem dX8_tell_36 : decode cX8_tell 36 = .ok (.ifCond .le 12, 3) := by decide +kernel
theorem dX8_tell_39 : decode cX8_tell 39 = .ok (.aload_n 0, 1) := by decide +kernel
theorem dX8_tell_40 : decode cX8_tell 40 = .ok (.getfield 45, 3) := by decide +kernel
theorem dX8_tell_43 : decode cX8_tell 43 = .ok (.bipush 32, 2) := by decide +kernel
theorem dX8_tell_45 : decode cX8_tell 45 = .ok (.invokevirtual 339, 3) := by decide +kernel
theorem dX8_tell_48 : decode cX8_tell 48 = .ok (.aload_n 0, 1) := by decide +kernel
theorem dX8_tell_49 : decode cX8_tell 49 = .ok (.getfield 45, 3) := by decide +kernel
theorem dX8_tell_52 : decode cX8_tell 52 = .ok (.getstatic 343, 3) := by decide +kernel
theorem dX8_tell_55 : decode cX8_tell 55 = .ok (.aload_n 0, 1) := by decide +kernel
theorem dX8_tell_56 : decode cX8_tell 56 = .ok (.getfield 20, 3) := by decide +kernel
theorem dX8_tell_59 : decode cX8_tell 59 = .ok (.iload 4, 2) := by decide +kernel
theorem dX8_tell_61 : decode cX8_tell 61 = .ok (.invokevirtual 121, 3) := by decide +kernel
theorem dX8_tell_64 : decode cX8_tell 64 = .ok (.invokestatic 335, 3) := by decide +kernel
theorem dX8_tell_67 : decode cX8_tell 67 = .ok (.invokevirtual 339, 3) := by decide +kernel
theorem dX8_tell_70 : decode cX8_tell 70 = .ok (.aload_n 0, 1) := by decide +kernel
theorem dX8_tell_71 : decode cX8_tell 71 = .ok (.getfield 20, 3) := by decide +kernel
theorem dX8_tell_74 : decode cX8_tell 74 = .ok (.iload 4, 2) := by decide +kernel
theorem dX8_tell_76 : decode cX8_tell 76 = .ok (.invokevirtual 121, 3) := by decide +kernel
theorem dX8_tell_79 : decode cX8_tell 79 = .ok (.iconst 4, 1) := by decide +kernel
theorem dX8_tell_80 : decode cX8_tell 80 = .ok (.if_icmp .eq 19, 3) := by decide +kernel
theorem dX8_tell_83 : decode cX8_tell 83 = .ok (.aload_n 0, 1) := by decide +kernel
theorem dX8_tell_84 : decode cX8_tell 84 = .ok (.getfield 45, 3) := by decide +kernel
theorem dX8_tell_87 : decode cX8_tell 87 = .ok (.aload_n 0, 1) := by decide +kernel
theorem dX8_tell_88 : decode cX8_tell 88 = .ok (.getfield 20, 3) := by decide +kernel
theorem dX8_tell_91 : decode cX8_tell 91 = .ok (.iload 4, 2) := by decide +kernel
theorem dX8_tell_93 : decode cX8_tell 93 = .ok (.invokevirtual 117, 3) := by decide +kernel
theorem dX8_tell_96 : decode cX8_tell 96 = .ok (.invokevirtual 328, 3) := by decide +kernel
theorem dX8_tell_99 : decode cX8_tell 99 = .ok (.aload_n 0, 1) := by decide +kernel
theorem dX8_tell_100 : decode cX8_tell 100 = .ok (.getfield 20, 3) := by decide +kernel
theorem dX8_tell_103 : decode cX8_tell 103 = .ok (.iload 4, 2) := by decide +kernel
theorem dX8_tell_105 : decode cX8_tell 105 = .ok (.invokevirtual 127, 3) := by decide +kernel
theorem dX8_tell_108 : decode cX8_tell 108 = .ok (.ifCond .le 12, 3) := by decide +kernel
theorem dX8_tell_111 : decode cX8_tell 111 = .ok (.aload_n 0, 1) := by decide +kernel
theorem dX8_tell_112 : decode cX8_tell 112 = .ok (.getfield 45, 3) := by decide +kernel
theorem dX8_tell_115 : decode cX8_tell 115 = .ok (.bipush 63, 2) := by decide +kernel
theorem dX8_tell_117 : decode cX8_tell 117 = .ok (.invokevirtual 339, 3) := by decide +kernel
theorem dX8_tell_120 : decode cX8_tell 120 = .ok (.iinc 3 1, 3) := by decide +kernel
theorem dX8_tell_123 : decode cX8_tell 123 = .ok (.goto (-103), 3) := by decide +kernel
theorem dX8_tell_126 : decode cX8_tell 126 = .ok (.aload_n 0, 1) := by decide +kernel
theorem dX8_tell_127 : decode cX8_tell 127 = .ok (.getfield 45, 3) := by decide +kernel
theorem dX8_tell_130 : decode cX8_tell 130 = .ok (.invokevirtual 342, 3) := by decide +kernel
theorem dX8_tell_133 : decode cX8_tell 133 = .ok (.ireturn, 1) := by decide +kernel
set_option maxRecDepth 20000 in
theorem ggX8_written_X3_length : GoodIn wsX8_written wsX3_length := goodIn_r _ [8, 9, 27, 28] (by decide +kernel) (by decide +kernel)
set_option maxRecDepth 20000 in
theorem gX8_written_X3_length : GoodIn wsX8_written (wsV RX8 342 RX3 yX3_length wsX3_length) := goodIn_app (goodIn_of _ (by decide +kernel)) ggX8_written_X3_length
set_option maxRecDepth 20000 in
theorem ggX8_written_X3_at : GoodIn wsX8_written wsX3_at := goodIn_ca (goodIn_r _ [13, 9, 14, 27, 28] (by decide +kernel) (by decide +kernel)) (goodIn_sub (fun _ h => List.mem_cons_of_mem _ (List.mem_append_right _ h)) (by decide +kernel))
set_option maxRecDepth 20000 in
theorem gX8_written_X3_at : GoodIn wsX8_written (wsV RX8 348 RX3 yX3_at wsX3_at) := goodIn_app (goodIn_of _ (by decide +kernel)) ggX8_written_X3_at
theorem dX8_written_0 : decode cX8_written 0 = .ok (.iload_n 1, 1) := by decide +kernel
theorem dX8_written_1 : decode cX8_written 1 = .ok (.ifCond .lt 14, 3) := by decide +kernel
theorem dX8_written_4 : decode cX8_written 4 = .ok (.iload_n 1, 1) := by decide +kernel
theorem dX8_written_5 : decode cX8_written 5 = .ok (.aload_n 0, 1) := by decide +kernel
theorem dX8_written_6 : decode cX8_written 6 = .ok (.getfield 45, 3) := by decide +kernel
theorem dX8_written_9 : decode cX8_written 9 = .ok (.invokevirtual 342, 3) := by decide +kernel
theorem dX8_written_12 : decode cX8_written 12 = .ok (.if_icmp .lt 14, 3) := by decide +kernel
theorem dX8_written_15 : decode cX8_written 15 = .ok (.new 176, 3) := by decide +kernel
theorem dX8_written_18 : decode cX8_written 18 = .ok (.dup, 1) := by decide +kernel
theorem dX8_written_19 : decode cX8_written 19 = .ok (.ldc_w 346, 3) := by decide +kernel
theorem dX8_written_22 : decode cX8_written 22 = .ok (.invokespecial 180, 3) := by decide +kernel
theorem dX8_written_25 : decode cX8_written 25 = .ok (.athrow, 1) := by decide +kernel
theorem dX8_written_26 : decode cX8_written 26 = .ok (.aload_n 0, 1) := by decide +kernel
theorem dX8_written_27 : decode cX8_written 27 = .ok (.getfield 45, 3) := by decide +kernel
theorem dX8_written_30 : decode cX8_written 30 = .ok (.iload_n 1, 1) := by decide +kernel
theorem dX8_written_31 : decode cX8_written 31 = .ok (.invokevirtual 348, 3) := by decide +kernel
theorem dX8_written_34 : decode cX8_written 34 = .ok (.ireturn, 1) := by decide +kernel
set_option maxRecDepth 20000 in
theorem ggX8_account_X6_napkins : GoodIn wsX8_account wsX6_napkins := goodIn_ca (goodIn_r _ [10, 11, 143] (by decide +kernel) (by decide +kernel)) (goodIn_sub (fun _ h => List.mem_cons_of_mem _ (List.mem_append_right _ h)) (by decide +kernel))
set_option maxRecDepth 20000 in
theorem gX8_account_X6_napkins : GoodIn wsX8_account (wsV RX8 246 RX6 yX6_napkins wsX6_napkins) := goodIn_app (goodIn_of _ (by decide +kernel)) ggX8_account_X6_napkins
set_option maxRecDepth 20000 in
theorem ggX8_account_X6_foldedCount : GoodIn wsX8_account wsX6_foldedCount := goodIn_ca (goodIn_r _ [15, 16, 7, 8, 9, 10, 11, 17, 18, 19, 20, 21, 22, 23, 24, 143] (by decide +kernel) (by decide +kernel)) (goodIn_sub (fun _ h => List.mem_cons_of_mem _ (List.mem_append_right _ h)) (by decide +kernel))
set_option maxRecDepth 20000 in
theorem gX8_account_X6_foldedCount : GoodIn wsX8_account (wsV RX8 352 RX6 yX6_foldedCount wsX6_foldedCount) := goodIn_app (goodIn_of _ (by decide +kernel)) ggX8_account_X6_foldedCount
set_option maxRecDepth 20000 in
theorem ggX8_account_X6_laidCount : GoodIn wsX8_account wsX6_laidCount := goodIn_ca (goodIn_r _ [28, 29, 30, 31, 9, 32, 11, 143] (by decide +kernel) (by decide +kernel)) (goodIn_sub (fun _ h => List.mem_cons_of_mem _ (List.mem_append_right _ h)) (by decide +kernel))
set_option maxRecDepth 20000 in
theorem gX8_account_X6_laidCount : GoodIn wsX8_account (wsV RX8 355 RX6 yX6_laidCount wsX6_laidCount) := goodIn_app (goodIn_of _ (by decide +kernel)) ggX8_account_X6_laidCount
set_option maxRecDepth 20000 in
theorem ggX8_account_X6_creasesSum : GoodIn wsX8_account wsX6_creasesSum := goodIn_ca (goodIn_r _ [36, 29, 30, 31, 9, 32, 11, 143] (by decide +kernel) (by decide +kernel)) (goodIn_sub (fun _ h => List.mem_cons_of_mem _ (List.mem_append_right _ h)) (by decide +kernel))
set_option maxRecDepth 20000 in
theorem gX8_account_X6_creasesSum : GoodIn wsX8_account (wsV RX8 358 RX6 yX6_creasesSum wsX6_creasesSum) := goodIn_app (goodIn_of _ (by decide +kernel)) ggX8_account_X6_creasesSum
set_option maxRecDepth 20000 in
theorem ggX8_account_X6_stainsSum : GoodIn wsX8_account wsX6_stainsSum := goodIn_ca (goodIn_r _ [40, 29, 30, 31, 9, 32, 11, 143] (by decide +kernel) (by decide +kernel)) (goodIn_sub (fun _ h => List.mem_cons_of_mem _ (List.mem_append_right _ h)) (by decide +kernel))
set_option maxRecDepth 20000 in
theorem gX8_account_X6_stainsSum : GoodIn wsX8_account (wsV RX8 361 RX6 yX6_stainsSum wsX6_stainsSum) := goodIn_app (goodIn_of _ (by decide +kernel)) ggX8_account_X6_stainsSum
set_option maxRecDepth 20000 in
theorem ggX8_account_X8_rightTables : GoodIn wsX8_account wsX8_rightTables := goodIn_ca (goodIn_r _ [45, 46, 47, 48, 44, 49, 50, 3, 51, 52, 53, 54, 55, 56, 57, 58, 59, 60, 61, 62, 63, 9, 64, 65, 66, 67, 68, 11, 69, 70, 71, 72, 73, 74, 75, 76, 18, 19, 20, 21, 22, 23, 24, 77, 78, 79, 80, 81, 82, 83, 84, 85, 86, 87, 88, 89, 90, 91, 92, 93, 94, 95, 96, 97, 98, 99, 100, 101, 102, 131, 132, 133, 134, 135, 136, 137, 138, 139, 140, 141, 142, 144, 145, 146, 147, 148, 149, 150, 143] (by decide +kernel) (by decide +kernel)) (goodIn_sub (fun _ h => List.mem_cons_of_mem _ (List.mem_append_right _ h)) (by decide +kernel))
set_option maxRecDepth 20000 in
theorem gX8_account_X8_rightTables : GoodIn wsX8_account (wsV RX8 364 RX8 yX8_rightTables wsX8_rightTables) := goodIn_app (goodIn_of _ (by decide +kernel)) ggX8_account_X8_rightTables
set_option maxRecDepth 20000 in
theorem ggX8_account_X6_understood : GoodIn wsX8_account wsX6_understood := goodIn_ca (goodIn_r _ [106, 11, 143] (by decide +kernel) (by decide +kernel)) (goodIn_sub (fun _ h => List.mem_cons_of_mem _ (List.mem_append_right _ h)) (by decide +kernel))
set_option maxRecDepth 20000 in
theorem gX8_account_X6_understood : GoodIn wsX8_account (wsV RX8 367 RX6 yX6_understood wsX6_understood) := goodIn_app (goodIn_of _ (by decide +kernel)) ggX8_account_X6_understood
set_option maxRecDepth 20000 in
theorem ggX8_account_X6_puzzlesSum : GoodIn wsX8_account wsX6_puzzlesSum := goodIn_ca (goodIn_r _ [110, 29, 30, 31, 9, 32, 11, 143] (by decide +kernel) (by decide +kernel)) (goodIn_sub (fun _ h => List.mem_cons_of_mem _ (List.mem_append_right _ h)) (by decide +kernel))
set_option maxRecDepth 20000 in
theorem gX8_account_X6_puzzlesSum : GoodIn wsX8_account (wsV RX8 370 RX6 yX6_puzzlesSum wsX6_puzzlesSum) := goodIn_app (goodIn_of _ (by decide +kernel)) ggX8_account_X6_puzzlesSum
set_option maxRecDepth 20000 in
theorem ggX8_account_X6_foldingsSum : GoodIn wsX8_account wsX6_foldingsSum := goodIn_ca (goodIn_r _ [114, 29, 30, 31, 9, 32, 11, 143] (by decide +kernel) (by decide +kernel)) (goodIn_sub (fun _ h => List.mem_cons_of_mem _ (List.mem_append_right _ h)) (by decide +kernel))
set_option maxRecDepth 20000 in
theorem gX8_account_X6_foldingsSum : GoodIn wsX8_account (wsV RX8 373 RX6 yX6_foldingsSum wsX6_foldingsSum) := goodIn_app (goodIn_of _ (by decide +kernel)) ggX8_account_X6_foldingsSum
set_option maxRecDepth 20000 in
theorem ggX8_account_X6_washedAway : GoodIn wsX8_account wsX6_washedAway := goodIn_ca (goodIn_r _ [118, 11, 143] (by decide +kernel) (by decide +kernel)) (goodIn_sub (fun _ h => List.mem_cons_of_mem _ (List.mem_append_right _ h)) (by decide +kernel))
set_option maxRecDepth 20000 in
theorem gX8_account_X6_washedAway : GoodIn wsX8_account (wsV RX8 376 RX6 yX6_washedAway wsX6_washedAway) := goodIn_app (goodIn_of _ (by decide +kernel)) ggX8_account_X6_washedAway
set_option maxRecDepth 20000 in
theorem ggX8_account_X7_length : GoodIn wsX8_account wsX7_length := goodIn_r _ [123, 124, 151, 152] (by decide +kernel) (by decide +kernel)
set_option maxRecDepth 20000 in
theorem gX8_account_X7_length : GoodIn wsX8_account (wsV RX8 270 RX7 yX7_length wsX7_length) := goodIn_app (goodIn_of _ (by decide +kernel)) ggX8_account_X7_length
set_option maxRecDepth 20000 in
theorem ggX8_account_X2_size : GoodIn wsX8_account wsX2_size := goodIn_r _ [129, 130, 153, 154] (by decide +kernel) (by decide +kernel)
set_option maxRecDepth 20000 in
theorem gX8_account_X2_size : GoodIn wsX8_account (wsV RX8 379 RX2 yX2_size wsX2_size) := goodIn_app (goodIn_of _ (by decide +kernel)) ggX8_account_X2_size
theorem dX8_account_0 : decode cX8_account 0 = .ok (.iload_n 1, 1) := by decide +kernel
theorem dX8_account_1 : decode cX8_account 1 = .ok (.tableswitch 156 0 11 #[63, 71, 79, 87, 95, 103, 108, 116, 124, 132, 140, 148], 63) := by decide +kernel
theorem dX8_account_64 : decode cX8_account 64 = .ok (.aload_n 0, 1) := by decide +kernel
theorem dX8_account_65 : decode cX8_account 65 = .ok (.getfield 20, 3) := by decide +kernel
theorem dX8_account_68 : decode cX8_account 68 = .ok (.invokevirtual 246, 3) := by decide +kernel
theorem dX8_account_71 : decode cX8_account 71 = .ok (.ireturn, 1) := by decide +kernel
theorem dX8_account_72 : decode cX8_account 72 = .ok (.aload_n 0, 1) := by decide +kernel
theorem dX8_account_73 : decode cX8_account 73 = .ok (.getfield 20, 3) := by decide +kernel
theorem dX8_account_76 : decode cX8_account 76 = .ok (.invokevirtual 352, 3) := by decide +kernel
theorem dX8_account_79 : decode cX8_account 79 = .ok (.ireturn, 1) := by decide +kernel
theorem dX8_account_80 : decode cX8_account 80 = .ok (.aload_n 0, 1) := by decide +kernel
theorem dX8_account_81 : decode cX8_account 81 = .ok (.getfield 20, 3) := by decide +kernel
theorem dX8_account_84 : decode cX8_account 84 = .ok (.invokevirtual 355, 3) := by decide +kernel
theorem dX8_account_87 : decode cX8_account 87 = .ok (.ireturn, 1) := by decide +kernel
theorem dX8_account_88 : decode cX8_account 88 = .ok (.aload_n 0, 1) := by decide +kernel
theorem dX8_account_89 : decode cX8_account 89 = .ok (.getfield 20, 3) := by decide +kernel
theorem dX8_account_92 : decode cX8_account 92 = .ok (.invokevirtual 358, 3) := by decide +kernel
theorem dX8_account_95 : decode cX8_account 95 = .ok (.ireturn, 1) := by decide +kernel
theorem dX8_account_96 : decode cX8_account 96 = .ok (.aload_n 0, 1) := by decide +kernel
theorem dX8_account_97 : decode cX8_account 97 = .ok (.getfield 20, 3) := by decide +kernel
theorem dX8_account_100 : decode cX8_account 100 = .ok (.invokevirtual 361, 3) := by decide +kernel
theorem dX8_account_103 : decode cX8_account 103 = .ok (.ireturn, 1) := by decide +kernel
theorem dX8_account_104 : decode cX8_account 104 = .ok (.aload_n 0, 1) := by decide +kernel
theorem dX8_account_105 : decode cX8_account 105 = .ok (.invokevirtual 364, 3) := by decide +kernel
theorem dX8_account_108 : decode cX8_account 108 = .ok (.ireturn, 1) := by decide +kernel
theorem dX8_account_109 : decode cX8_account 109 = .ok (.aload_n 0, 1) := by decide +kernel
theorem dX8_account_110 : decode cX8_account 110 = .ok (.getfield 20, 3) := by decide +kernel
theorem dX8_account_113 : decode cX8_account 113 = .ok (.invokevirtual 367, 3) := by decide +kernel
theorem dX8_account_116 : decode cX8_account 116 = .ok (.ireturn, 1) := by decide +kernel
theorem dX8_account_117 : decode cX8_account 117 = .ok (.aload_n 0, 1) := by decide +kernel
theorem dX8_account_118 : decode cX8_account 118 = .ok (.getfield 20, 3) := by decide +kernel
theorem dX8_account_121 : decode cX8_account 121 = .ok (.invokevirtual 370, 3) := by decide +kernel
theorem dX8_account_124 : decode cX8_account 124 = .ok (.ireturn, 1) := by decide +kernel
theorem dX8_account_125 : decode cX8_account 125 = .ok (.aload_n 0, 1) := by decide +kernel
theorem dX8_account_126 : decode cX8_account 126 = .ok (.getfield 20, 3) := by decide +kernel
theorem dX8_account_129 : decode cX8_account 129 = .ok (.invokevirtual 373, 3) := by decide +kernel
theorem dX8_account_132 : decode cX8_account 132 = .ok (.ireturn, 1) := by decide +kernel
theorem dX8_account_133 : decode cX8_account 133 = .ok (.aload_n 0, 1) := by decide +kernel
theorem dX8_account_134 : decode cX8_account 134 = .ok (.getfield 20, 3) := by decide +kernel
theorem dX8_account_137 : decode cX8_account 137 = .ok (.invokevirtual 376, 3) := by decide +kernel
theorem dX8_account_140 : decode cX8_account 140 = .ok (.ireturn, 1) := by decide +kernel
theorem dX8_account_141 : decode cX8_account 141 = .ok (.aload_n 0, 1) := by decide +kernel
theorem dX8_account_142 : decode cX8_account 142 = .ok (.getfield 38, 3) := by decide +kernel
theorem dX8_account_145 : decode cX8_account 145 = .ok (.invokevirtual 270, 3) := by decide +kernel
theorem dX8_account_148 : decode cX8_account 148 = .ok (.ireturn, 1) := by decide +kernel
theorem dX8_account_149 : decode cX8_account 149 = .ok (.aload_n 0, 1) := by decide +kernel
theorem dX8_account_150 : decode cX8_account 150 = .ok (.getfield 31, 3) := by decide +kernel
theorem dX8_account_153 : decode cX8_account 153 = .ok (.invokevirtual 379, 3) := by decide +kernel
theorem dX8_account_156 : decode cX8_account 156 = .ok (.ireturn, 1) := by decide +kernel
theorem dX8_account_157 : decode cX8_account 157 = .ok (.new 139, 3) := by decide +kernel
theorem dX8_account_160 : decode cX8_account 160 = .ok (.dup, 1) := by decide +kernel
theorem dX8_account_161 : decode cX8_account 161 = .ok (.ldc_w 380, 3) := by decide +kernel
theorem dX8_account_164 : decode cX8_account 164 = .ok (.invokespecial 143, 3) := by decide +kernel
theorem dX8_account_167 : decode cX8_account 167 = .ok (.athrow, 1) := by decide +kernel
set_option maxRecDepth 20000 in
theorem ggX8_meanStains_X6_napkins : GoodIn wsX8_meanStains wsX6_napkins := goodIn_ca (goodIn_r _ [8, 9, 30] (by decide +kernel) (by decide +kernel)) (goodIn_sub (fun _ h => List.mem_cons_of_mem _ (List.mem_append_right _ h)) (by decide +kernel))
set_option maxRecDepth 20000 in
theorem gX8_meanStains_X6_napkins : GoodIn wsX8_meanStains (wsV RX8 246 RX6 yX6_napkins wsX6_napkins) := goodIn_app (goodIn_of _ (by decide +kernel)) ggX8_meanStains_X6_napkins
set_option maxRecDepth 20000 in
theorem ggX8_meanStains_X6_stainsSum : GoodIn wsX8_meanStains wsX6_stainsSum := goodIn_ca (goodIn_r _ [13, 14, 15, 16, 7, 17, 9, 30] (by decide +kernel) (by decide +kernel)) (goodIn_sub (fun _ h => List.mem_cons_of_mem _ (List.mem_append_right _ h)) (by decide +kernel))
set_option maxRecDepth 20000 in
theorem gX8_meanStains_X6_stainsSum : GoodIn wsX8_meanStains (wsV RX8 361 RX6 yX6_stainsSum wsX6_stainsSum) := goodIn_app (goodIn_of _ (by decide +kernel)) ggX8_meanStains_X6_stainsSum
theorem dX8_meanStains_0 : decode cX8_meanStains 0 = .ok (.aload_n 0, 1) := by decide +kernel
theorem dX8_meanStains_1 : decode cX8_meanStains 1 = .ok (.getfield 20, 3) := by decide +kernel
theorem dX8_meanStains_4 : decode cX8_meanStains 4 = .ok (.invokevirtual 246, 3) := by decide +kernel
theorem dX8_meanStains_7 : decode cX8_meanStains 7 = .ok (.ifCond .ne 14, 3) := by decide +kernel
theorem dX8_meanStains_10 : decode cX8_meanStains 10 = .ok (.new 236, 3) := by decide +kernel
theorem dX8_meanStains_13 : decode cX8_meanStains 13 = .ok (.dup, 1) := by decide +kernel
theorem dX8_meanStains_14 : decode cX8_meanStains 14 = .ok (.ldc_w 382, 3) := by decide +kernel
theorem dX8_meanStains_17 : decode cX8_meanStains 17 = .ok (.invokespecial 240, 3) := by decide +kernel
theorem dX8_meanStains_20 : decode cX8_meanStains 20 = .ok (.athrow, 1) := by decide +kernel
theorem dX8_meanStains_21 : decode cX8_meanStains 21 = .ok (.aload_n 0, 1) := by decide +kernel
theorem dX8_meanStains_22 : decode cX8_meanStains 22 = .ok (.getfield 20, 3) := by decide +kernel
theorem dX8_meanStains_25 : decode cX8_meanStains 25 = .ok (.invokevirtual 361, 3) := by decide +kernel
theorem dX8_meanStains_28 : decode cX8_meanStains 28 = .ok (.i2d, 1) := by decide +kernel
theorem dX8_meanStains_29 : decode cX8_meanStains 29 = .ok (.aload_n 0, 1) := by decide +kernel
theorem dX8_meanStains_30 : decode cX8_meanStains 30 = .ok (.getfield 20, 3) := by decide +kernel
theorem dX8_meanStains_33 : decode cX8_meanStains 33 = .ok (.invokevirtual 246, 3) := by decide +kernel
theorem dX8_meanStains_36 : decode cX8_meanStains 36 = .ok (.i2d, 1) := by decide +kernel
theorem dX8_meanStains_37 : decode cX8_meanStains 37 = .ok (.ddiv, 1) := by decide +kernel
theorem dX8_meanStains_38 : decode cX8_meanStains 38 = .ok (.dreturn, 1) := by decide +kernel
set_option maxRecDepth 20000 in
theorem ggX8_foldedShare_X6_napkins : GoodIn wsX8_foldedShare wsX6_napkins := goodIn_ca (goodIn_r _ [8, 9, 35] (by decide +kernel) (by decide +kernel)) (goodIn_sub (fun _ h => List.mem_cons_of_mem _ (List.mem_append_right _ h)) (by decide +kernel))
set_option maxRecDepth 20000 in
theorem gX8_foldedShare_X6_napkins : GoodIn wsX8_foldedShare (wsV RX8 246 RX6 yX6_napkins wsX6_napkins) := goodIn_app (goodIn_of _ (by decide +kernel)) ggX8_foldedShare_X6_napkins
set_option maxRecDepth 20000 in
theorem ggX8_foldedShare_X6_foldedCount : GoodIn wsX8_foldedShare wsX6_foldedCount := goodIn_ca (goodIn_r _ [13, 14, 5, 6, 7, 8, 9, 15, 16, 17, 18, 19, 20, 21, 22, 35] (by decide +kernel) (by decide +kernel)) (goodIn_sub (fun _ h => List.mem_cons_of_mem _ (List.mem_append_right _ h)) (by decide +kernel))
set_option maxRecDepth 20000 in
theorem gX8_foldedShare_X6_foldedCount : GoodIn wsX8_foldedShare (wsV RX8 352 RX6 yX6_foldedCount wsX6_foldedCount) := goodIn_app (goodIn_of _ (by decide +kernel)) ggX8_foldedShare_X6_foldedCount
theorem dX8_foldedShare_0 : decode cX8_foldedShare 0 = .ok (.aload_n 0, 1) := by decide +kernel
theorem dX8_foldedShare_1 : decode cX8_foldedShare 1 = .ok (.getfield 20, 3) := by decide +kernel
theorem dX8_foldedShare_4 : decode cX8_foldedShare 4 = .ok (.invokevirtual 246, 3) := by decide +kernel
theorem dX8_foldedShare_7 : decode cX8_foldedShare 7 = .ok (.ifCond .ne 14, 3) := by decide +kernel
theorem dX8_foldedShare_10 : decode cX8_foldedShare 10 = .ok (.new 236, 3) := by decide +kernel
theorem dX8_foldedShare_13 : decode cX8_foldedShare 13 = .ok (.dup, 1) := by decide +kernel
theorem dX8_foldedShare_14 : decode cX8_foldedShare 14 = .ok (.ldc_w 382, 3) := by decide +kernel
theorem dX8_foldedShare_17 : decode cX8_foldedShare 17 = .ok (.invokespecial 240, 3) := by decide +kernel
theorem dX8_foldedShare_20 : decode cX8_foldedShare 20 = .ok (.athrow, 1) := by decide +kernel
theorem dX8_foldedShare_21 : decode cX8_foldedShare 21 = .ok (.aload_n 0, 1) := by decide +kernel
theorem dX8_foldedShare_22 : decode cX8_foldedShare 22 = .ok (.getfield 20, 3) := by decide +kernel
theorem dX8_foldedShare_25 : decode cX8_foldedShare 25 = .ok (.invokevirtual 352, 3) := by decide +kernel
theorem dX8_foldedShare_28 : decode cX8_foldedShare 28 = .ok (.i2f, 1) := by decide +kernel
theorem dX8_foldedShare_29 : decode cX8_foldedShare 29 = .ok (.aload_n 0, 1) := by decide +kernel
theorem dX8_foldedShare_30 : decode cX8_foldedShare 30 = .ok (.getfield 20, 3) := by decide +kernel
theorem dX8_foldedShare_33 : decode cX8_foldedShare 33 = .ok (.invokevirtual 246, 3) := by decide +kernel
theorem dX8_foldedShare_36 : decode cX8_foldedShare 36 = .ok (.i2f, 1) := by decide +kernel
theorem dX8_foldedShare_37 : decode cX8_foldedShare 37 = .ok (.fdiv, 1) := by decide +kernel
theorem dX8_foldedShare_38 : decode cX8_foldedShare 38 = .ok (.freturn, 1) := by decide +kernel
set_option maxRecDepth 20000 in
theorem ggX8_undo_X2_size : GoodIn wsX8_undo wsX2_size := goodIn_r _ [10, 11, 40, 41] (by decide +kernel) (by decide +kernel)
set_option maxRecDepth 20000 in
theorem gX8_undo_X2_size : GoodIn wsX8_undo (wsV RX8 379 RX2 yX2_size wsX2_size) := goodIn_app (goodIn_of _ (by decide +kernel)) ggX8_undo_X2_size
set_option maxRecDepth 20000 in
theorem ggX8_undo_X2_pop : GoodIn wsX8_undo wsX2_pop := goodIn_r _ [15, 11, 16, 17, 18, 19, 20, 40, 41] (by decide +kernel) (by decide +kernel)
set_option maxRecDepth 20000 in
theorem gX8_undo_X2_pop : GoodIn wsX8_undo (wsV RX8 386 RX2 yX2_pop wsX2_pop) := goodIn_app (goodIn_of _ (by decide +kernel)) ggX8_undo_X2_pop
set_option maxRecDepth 20000 in
theorem ggX8_undo_X6_copyFrom : GoodIn wsX8_undo wsX6_copyFrom := goodIn_r _ [25, 26, 27, 18, 19, 20, 42] (by decide +kernel) (by decide +kernel)
set_option maxRecDepth 20000 in
theorem gX8_undo_X6_copyFrom : GoodIn wsX8_undo (wsV RX8 300 RX6 yX6_copyFrom wsX6_copyFrom) := goodIn_app (goodIn_of _ (by decide +kernel)) ggX8_undo_X6_copyFrom
theorem dX8_undo_0 : decode cX8_undo 0 = .ok (.aload_n 0, 1) := by decide +kernel
theorem dX8_undo_1 : decode cX8_undo 1 = .ok (.getfield 31, 3) := by decide +kernel
theorem dX8_undo_4 : decode cX8_undo 4 = .ok (.invokevirtual 379, 3) := by decide +kernel
theorem dX8_undo_7 : decode cX8_undo 7 = .ok (.ifCond .ne 14, 3) := by decide +kernel
theorem dX8_undo_10 : decode cX8_undo 10 = .ok (.new 261, 3) := by decide +kernel
theorem dX8_undo_13 : decode cX8_undo 13 = .ok (.dup, 1) := by decide +kernel
theorem dX8_undo_14 : decode cX8_undo 14 = .ok (.ldc_w 384, 3) := by decide +kernel
theorem dX8_undo_17 : decode cX8_undo 17 = .ok (.invokespecial 265, 3) := by decide +kernel
theorem dX8_undo_20 : decode cX8_undo 20 = .ok (.athrow, 1) := by decide +kernel
theorem dX8_undo_21 : decode cX8_undo 21 = .ok (.aload_n 0, 1) := by decide +kernel
theorem dX8_undo_22 : decode cX8_undo 22 = .ok (.getfield 31, 3) := by decide +kernel
theorem dX8_undo_25 : decode cX8_undo 25 = .ok (.aload_n 0, 1) := by decide +kernel
theorem dX8_undo_26 : decode cX8_undo 26 = .ok (.getfield 51, 3) := by decide +kernel
theorem dX8_undo_29 : decode cX8_undo 29 = .ok (.invokevirtual 386, 3) := by decide +kernel
theorem dX8_undo_32 : decode cX8_undo 32 = .ok (.aload_n 0, 1) := by decide +kernel
theorem dX8_undo_33 : decode cX8_undo 33 = .ok (.getfield 20, 3) := by decide +kernel
theorem dX8_undo_36 : decode cX8_undo 36 = .ok (.aload_n 0, 1) := by decide +kernel
theorem dX8_undo_37 : decode cX8_undo 37 = .ok (.getfield 51, 3) := by decide +kernel
theorem dX8_undo_40 : decode cX8_undo 40 = .ok (.invokevirtual 300, 3) := by decide +kernel
theorem dX8_undo_43 : decode cX8_undo 43 = .ok (.aload_n 0, 1) := by decide +kernel
theorem dX8_undo_44 : decode cX8_undo 44 = .ok (.getfield 31, 3) := by decide +kernel
theorem dX8_undo_47 : decode cX8_undo 47 = .ok (.invokevirtual 379, 3) := by decide +kernel
theorem dX8_undo_50 : decode cX8_undo 50 = .ok (.ireturn, 1) := by decide +kernel
set_option maxRecDepth 20000 in
theorem ggX8_save_X6_copyTo : GoodIn wsX8_save wsX6_copyTo := goodIn_r _ [8, 9, 10, 11, 12, 13, 30] (by decide +kernel) (by decide +kernel)
set_option maxRecDepth 20000 in
theorem gX8_save_X6_copyTo : GoodIn wsX8_save (wsV RX8 281 RX6 yX6_copyTo wsX6_copyTo) := goodIn_app (goodIn_of _ (by decide +kernel)) ggX8_save_X6_copyTo
set_option maxRecDepth 20000 in
theorem ggX8_save_X6_napkins : GoodIn wsX8_save wsX6_napkins := goodIn_ca (goodIn_r _ [17, 9, 30] (by decide +kernel) (by decide +kernel)) (goodIn_sub (fun _ h => List.mem_cons_of_mem _ (List.mem_append_right _ h)) (by decide +kernel))
set_option maxRecDepth 20000 in
theorem gX8_save_X6_napkins : GoodIn wsX8_save (wsV RX8 246 RX6 yX6_napkins wsX6_napkins) := goodIn_app (goodIn_of _ (by decide +kernel)) ggX8_save_X6_napkins
theorem dX8_save_0 : decode cX8_save 0 = .ok (.aload_n 0, 1) := by decide +kernel
theorem dX8_save_1 : decode cX8_save 1 = .ok (.getfield 20, 3) := by decide +kernel
theorem dX8_save_4 : decode cX8_save 4 = .ok (.aload_n 0, 1) := by decide +kernel
theorem dX8_save_5 : decode cX8_save 5 = .ok (.getfield 55, 3) := by decide +kernel
theorem dX8_save_8 : decode cX8_save 8 = .ok (.invokevirtual 281, 3) := by decide +kernel
theorem dX8_save_11 : decode cX8_save 11 = .ok (.aload_n 0, 1) := by decide +kernel
theorem dX8_save_12 : decode cX8_save 12 = .ok (.iconst 1, 1) := by decide +kernel
theorem dX8_save_13 : decode cX8_save 13 = .ok (.putfield 58, 3) := by decide +kernel
theorem dX8_save_16 : decode cX8_save 16 = .ok (.aload_n 0, 1) := by decide +kernel
theorem dX8_save_17 : decode cX8_save 17 = .ok (.getfield 20, 3) := by decide +kernel
theorem dX8_save_20 : decode cX8_save 20 = .ok (.invokevirtual 246, 3) := by decide +kernel
theorem dX8_save_23 : decode cX8_save 23 = .ok (.ireturn, 1) := by decide +kernel
set_option maxRecDepth 20000 in
theorem ggX8_restore_X6_copyFrom : GoodIn wsX8_restore wsX6_copyFrom := goodIn_r _ [11, 12, 13, 14, 15, 16, 39] (by decide +kernel) (by decide +kernel)
set_option maxRecDepth 20000 in
theorem gX8_restore_X6_copyFrom : GoodIn wsX8_restore (wsV RX8 300 RX6 yX6_copyFrom wsX6_copyFrom) := goodIn_app (goodIn_of _ (by decide +kernel)) ggX8_restore_X6_copyFrom
set_option maxRecDepth 20000 in
theorem ggX8_restore_X2_empty : GoodIn wsX8_restore wsX2_empty := goodIn_r _ [21, 22, 40, 41] (by decide +kernel) (by decide +kernel)
set_option maxRecDepth 20000 in
theorem gX8_restore_X2_empty : GoodIn wsX8_restore (wsV RX8 391 RX2 yX2_empty wsX2_empty) := goodIn_app (goodIn_of _ (by decide +kernel)) ggX8_restore_X2_empty
set_option maxRecDepth 20000 in
theorem ggX8_restore_X6_napkins : GoodIn wsX8_restore wsX6_napkins := goodIn_ca (goodIn_r _ [26, 12, 39] (by decide +kernel) (by decide +kernel)) (goodIn_sub (fun _ h => List.mem_cons_of_mem _ (List.mem_append_right _ h)) (by decide +kernel))
set_option maxRecDepth 20000 in
theorem gX8_restore_X6_napkins : GoodIn wsX8_restore (wsV RX8 246 RX6 yX6_napkins wsX6_napkins) := goodIn_app (goodIn_of _ (by decide +kernel)) ggX8_restore_X6_napkins
theorem dX8_restore_0 : decode cX8_restore 0 = .ok (.aload_n 0, 1) := by decide +kernel
theorem dX8_restore_1 : decode cX8_restore 1 = .ok (.getfield 58, 3) := by decide +kernel
theorem dX8_restore_4 : decode cX8_restore 4 = .ok (.ifCond .ne 14, 3) := by decide +kernel
theorem dX8_restore_7 : decode cX8_restore 7 = .ok (.new 261, 3) := by decide +kernel
theorem dX8_restore_10 : decode cX8_restore 10 = .ok (.dup, 1) := by decide +kernel
theorem dX8_restore_11 : decode cX8_restore 11 = .ok (.ldc_w 389, 3) := by decide +kernel
theorem dX8_restore_14 : decode cX8_restore 14 = .ok (.invokespecial 265, 3) := by decide +kernel
theorem dX8_restore_17 : decode cX8_restore 17 = .ok (.athrow, 1) := by decide +kernel
theorem dX8_restore_18 : decode cX8_restore 18 = .ok (.aload_n 0, 1) := by decide +kernel
theorem dX8_restore_19 : decode cX8_restore 19 = .ok (.getfield 20, 3) := by decide +kernel
theorem dX8_restore_22 : decode cX8_restore 22 = .ok (.aload_n 0, 1) := by decide +kernel
theorem dX8_restore_23 : decode cX8_restore 23 = .ok (.getfield 55, 3) := by decide +kernel
theorem dX8_restore_26 : decode cX8_restore 26 = .ok (.invokevirtual 300, 3) := by decide +kernel
theorem dX8_restore_29 : decode cX8_restore 29 = .ok (.aload_n 0, 1) := by decide +kernel
theorem dX8_restore_30 : decode cX8_restore 30 = .ok (.getfield 31, 3) := by decide +kernel
theorem dX8_restore_33 : decode cX8_restore 33 = .ok (.invokevirtual 391, 3) := by decide +kernel
theorem dX8_restore_36 : decode cX8_restore 36 = .ok (.aload_n 0, 1) := by decide +kernel
theorem dX8_restore_37 : decode cX8_restore 37 = .ok (.getfield 20, 3) := by decide +kernel
theorem dX8_restore_40 : decode cX8_restore 40 = .ok (.invokevirtual 246, 3) := by decide +kernel
theorem dX8_restore_43 : decode cX8_restore 43 = .ok (.ireturn, 1) := by decide +kernel
set_option maxRecDepth 20000 in
theorem ggX8_change_X5_judge : GoodIn wsX8_change wsX5_judge := goodIn_ca (goodIn_r _ [15, 16, 17, 18, 19, 20, 21, 22, 23, 24, 25, 26, 14, 27, 28, 29, 30, 31, 32, 33, 34, 35, 36, 37, 38, 39, 40, 41, 42, 43, 44, 45, 46, 47, 48, 49, 50, 51, 52, 53, 54, 55, 56, 57, 58, 59, 60, 61, 62, 63, 64, 65, 66, 67, 68, 69, 70, 71, 72, 73, 74, 75, 76, 77, 78, 79, 80, 81, 82, 83, 84, 85, 86, 87, 88, 89, 90, 91, 92, 93, 94, 95, 96, 97, 98, 99, 100, 101, 102, 103, 104, 105, 106, 107, 108, 109, 110, 111, 112, 113, 114, 115, 116, 117, 118, 119, 120, 121, 122, 123, 124, 125, 126, 127, 128, 129, 130, 131, 132, 133, 134, 135, 136, 137, 138, 139, 140, 141, 142, 143, 144, 287, 288, 289, 290, 291, 292, 293, 294, 295, 296] (by decide +kernel) (by decide +kernel)) (goodIn_sub (fun _ h => List.mem_cons_of_mem _ (List.mem_append_right _ h)) (by decide +kernel))
set_option maxRecDepth 20000 in
theorem gX8_change_X5_judge : GoodIn wsX8_change (wsV RX8 293 RX5 yX5_judge wsX5_judge) := goodIn_app (goodIn_of _ (by decide +kernel)) ggX8_change_X5_judge
set_option maxRecDepth 20000 in
theorem ggX8_change_X8_refuse : GoodIn wsX8_change wsX8_refuse := goodIn_r _ [148, 149, 150, 275, 276, 277, 278, 279, 280, 281, 282, 283, 284, 285, 286] (by decide +kernel) (by decide +kernel)
set_option maxRecDepth 20000 in
theorem gX8_change_X8_refuse : GoodIn wsX8_change (wsV RX8 311 RX8 yX8_refuse wsX8_refuse) := goodIn_app (goodIn_of _ (by decide +kernel)) ggX8_change_X8_refuse
set_option maxRecDepth 20000 in
theorem ggX8_change_X6_copyTo : GoodIn wsX8_change wsX6_copyTo := goodIn_r _ [154, 34, 155, 156, 157, 158, 289] (by decide +kernel) (by decide +kernel)
set_option maxRecDepth 20000 in
theorem gX8_change_X6_copyTo : GoodIn wsX8_change (wsV RX8 281 RX6 yX6_copyTo wsX6_copyTo) := goodIn_app (goodIn_of _ (by decide +kernel)) ggX8_change_X6_copyTo
set_option maxRecDepth 20000 in
theorem ggX8_change_X2_push : GoodIn wsX8_change wsX2_push := goodIn_r _ [163, 164, 165, 166, 156, 157, 158, 297, 298] (by decide +kernel) (by decide +kernel)
set_option maxRecDepth 20000 in
theorem gX8_change_X2_push : GoodIn wsX8_change (wsV RX8 320 RX2 yX2_push wsX2_push) := goodIn_app (goodIn_of _ (by decide +kernel)) ggX8_change_X2_push
set_option maxRecDepth 20000 in
theorem ggX8_change_X5_carryOut : GoodIn wsX8_change wsX5_carryOut := goodIn_ca (goodIn_r _ [170, 16, 28, 17, 18, 19, 20, 21, 22, 23, 171, 172, 173, 32, 174, 34, 175, 30, 31, 33, 176, 177, 178, 179, 58, 59, 14, 60, 180, 181, 182, 183, 184, 55, 56, 57, 50, 51, 52, 53, 185, 186, 187, 188, 189, 190, 191, 192, 193, 47, 48, 49, 194, 195, 196, 197, 99, 80, 81, 82, 83, 84, 85, 86, 198, 199, 200, 201, 202, 129, 130, 131, 132, 133, 134, 203, 204, 205, 206, 207, 208, 209, 210, 211, 212, 213, 214, 215, 216, 217, 218, 75, 76, 77, 78, 219, 72, 73, 74, 220, 221, 222, 223, 224, 225, 226, 227, 228, 229, 230, 231, 232, 105, 106, 107, 233, 234, 235, 236, 237, 238, 239, 240, 116, 117, 118, 119, 120, 121, 122, 123, 124, 125, 126, 127, 128, 135, 136, 137, 138, 139, 140, 241, 242, 243, 244, 245, 246, 247, 248, 249, 250, 251, 252, 253, 254, 255, 256, 257, 258, 259, 260, 261, 262, 263, 264, 265, 266, 267, 268, 269, 270, 271, 272, 273, 274, 287, 288, 289, 290, 291, 292, 293, 294, 295, 296] (by decide +kernel) (by decide +kernel)) (goodIn_sub (fun _ h => List.mem_cons_of_mem _ (List.mem_append_right _ h)) (by decide +kernel))
set_option maxRecDepth 20000 in
theorem gX8_change_X5_carryOut : GoodIn wsX8_change (wsV RX8 296 RX5 yX5_carryOut wsX5_carryOut) := goodIn_app (goodIn_of _ (by decide +kernel)) ggX8_change_X5_carryOut
theorem dX8_change_0 : decode cX8_change 0 = .ok (.aload_n 0, 1) := by decide +kernel
theorem dX8_change_1 : decode cX8_change 1 = .ok (.getfield 10, 3) := by decide +kernel
theorem dX8_change_4 : decode cX8_change 4 = .ok (.aload_n 1, 1) := by decide +kernel
theorem dX8_change_5 : decode cX8_change 5 = .ok (.iload_n 2, 1) := by decide +kernel
theorem dX8_change_6 : decode cX8_change 6 = .ok (.iload_n 3, 1) := by decide +kernel
theorem dX8_change_7 : decode cX8_change 7 = .ok (.iload 4, 2) := by decide +kernel
theorem dX8_change_9 : decode cX8_change 9 = .ok (.invokevirtual 293, 3) := by decide +kernel
theorem dX8_change_12 : decode cX8_change 12 = .ok (.istore 5, 2) := by decide +kernel
theorem dX8_change_14 : decode cX8_change 14 = .ok (.iload 5, 2) := by decide +kernel
theorem dX8_change_16 : decode cX8_change 16 = .ok (.iconst (-1), 1) := by decide +kernel
theorem dX8_change_17 : decode cX8_change 17 = .ok (.if_icmp .ne 14, 3) := by decide +kernel
theorem dX8_change_20 : decode cX8_change 20 = .ok (.new 110, 3) := by decide +kernel
theorem dX8_change_23 : decode cX8_change 23 = .ok (.dup, 1) := by decide +kernel
theorem dX8_change_24 : decode cX8_change 24 = .ok (.ldc_w 392, 3) := by decide +kernel
theorem dX8_change_27 : decode cX8_change 27 = .ok (.invokespecial 114, 3) := by decide +kernel
theorem dX8_change_30 : decode cX8_change 30 = .ok (.athrow, 1) := by decide +kernel
theorem dX8_change_31 : decode cX8_change 31 = .ok (.iload 5, 2) := by decide +kernel
theorem dX8_change_33 : decode cX8_change 33 = .ok (.bipush (-2), 2) := by decide +kernel
theorem dX8_change_35 : decode cX8_change 35 = .ok (.if_icmp .ne 14, 3) := by decide +kernel
theorem dX8_change_38 : decode cX8_change 38 = .ok (.new 139, 3) := by decide +kernel
theorem dX8_change_41 : decode cX8_change 41 = .ok (.dup, 1) := by decide +kernel
theorem dX8_change_42 : decode cX8_change 42 = .ok (.ldc_w 394, 3) := by decide +kernel
theorem dX8_change_45 : decode cX8_change 45 = .ok (.invokespecial 143, 3) := by decide +kernel
theorem dX8_change_48 : decode cX8_change 48 = .ok (.athrow, 1) := by decide +kernel
theorem dX8_change_49 : decode cX8_change 49 = .ok (.iload 5, 2) := by decide +kernel
theorem dX8_change_51 : decode cX8_change 51 = .ok (.ifCond .eq 21, 3) := by decide +kernel
theorem dX8_change_54 : decode cX8_change 54 = .ok (.aload_n 0, 1) := by decide +kernel
theorem dX8_change_55 : decode cX8_change 55 = .ok (.iload 5, 2) := by decide +kernel
theorem dX8_change_57 : decode cX8_change 57 = .ok (.iconst 0, 1) := by decide +kernel
theorem dX8_change_58 : decode cX8_change 58 = .ok (.invokevirtual 311, 3) := by decide +kernel
theorem dX8_change_61 : decode cX8_change 61 = .ok (.new 315, 3) := by decide +kernel
theorem dX8_change_64 : decode cX8_change 64 = .ok (.dup, 1) := by decide +kernel
theorem dX8_change_65 : decode cX8_change 65 = .ok (.ldc_w 396, 3) := by decide +kernel
theorem dX8_change_68 : decode cX8_change 68 = .ok (.invokespecial 319, 3) := by decide +kernel
theorem dX8_change_71 : decode cX8_change 71 = .ok (.athrow, 1) := by decide +kernel
theorem dX8_change_72 : decode cX8_change 72 = .ok (.aload_n 0, 1) := by decide +kernel
theorem dX8_change_73 : decode cX8_change 73 = .ok (.getfield 20, 3) := by decide +kernel
theorem dX8_change_76 : decode cX8_change 76 = .ok (.aload_n 0, 1) := by decide +kernel
theorem dX8_change_77 : decode cX8_change 77 = .ok (.getfield 51, 3) := by decide +kernel
theorem dX8_change_80 : decode cX8_change 80 = .ok (.invokevirtual 281, 3) := by decide +kernel
theorem dX8_change_83 : decode cX8_change 83 = .ok (.aload_n 0, 1) := by decide +kernel
theorem dX8_change_84 : decode cX8_change 84 = .ok (.getfield 31, 3) := by decide +kernel
theorem dX8_change_87 : decode cX8_change 87 = .ok (.aload_n 0, 1) := by decide +kernel
theorem dX8_change_88 : decode cX8_change 88 = .ok (.getfield 51, 3) := by decide +kernel
theorem dX8_change_91 : decode cX8_change 91 = .ok (.invokevirtual 320, 3) := by decide +kernel
theorem dX8_change_94 : decode cX8_change 94 = .ok (.aload_n 0, 1) := by decide +kernel
theorem dX8_change_95 : decode cX8_change 95 = .ok (.getfield 10, 3) := by decide +kernel
theorem dX8_change_98 : decode cX8_change 98 = .ok (.aload_n 1, 1) := by decide +kernel
theorem dX8_change_99 : decode cX8_change 99 = .ok (.iload_n 2, 1) := by decide +kernel
theorem dX8_change_100 : decode cX8_change 100 = .ok (.iload_n 3, 1) := by decide +kernel
theorem dX8_change_101 : decode cX8_change 101 = .ok (.iload 4, 2) := by decide +kernel
theorem dX8_change_103 : decode cX8_change 103 = .ok (.invokevirtual 296, 3) := by decide +kernel
theorem dX8_change_106 : decode cX8_change 106 = .ok (.ireturn, 1) := by decide +kernel
theorem dX8_refuse_0 : decode cX8_refuse 0 = .ok (.aload_n 0, 1) := by decide +kernel
theorem dX8_refuse_1 : decode cX8_refuse 1 = .ok (.iload_n 1, 1) := by decide +kernel
theorem dX8_refuse_2 : decode cX8_refuse 2 = .ok (.putfield 66, 3) := by decide +kernel
theorem dX8_refuse_5 : decode cX8_refuse 5 = .ok (.aload_n 0, 1) := by decide +kernel
theorem dX8_refuse_6 : decode cX8_refuse 6 = .ok (.iload_n 2, 1) := by decide +kernel
theorem dX8_refuse_7 : decode cX8_refuse 7 = .ok (.putfield 69, 3) := by decide +kernel
theorem dX8_refuse_10 : decode cX8_refuse 10 = .ok (.return_, 1) := by decide +kernel
set_option maxRecDepth 20000 in
theorem ggX8_checkTable_X8_isTable : GoodIn wsX8_checkTable wsX8_isTable := goodIn_r _ [6] (by decide +kernel) (by decide +kernel)
set_option maxRecDepth 20000 in
theorem gX8_checkTable_X8_isTable : GoodIn wsX8_checkTable (va_wsS RX8 398 yX8_isTable wsX8_isTable) := goodIn_app (goodIn_of _ (by decide +kernel)) ggX8_checkTable_X8_isTable
theorem dX8_checkTable_0 : decode cX8_checkTable 0 = .ok (.iload_n 1, 1) := by decide +kernel
theorem dX8_checkTable_1 : decode cX8_checkTable 1 = .ok (.invokestatic 398, 3) := by decide +kernel
theorem dX8_checkTable_4 : decode cX8_checkTable 4 = .ok (.ifCond .ne 14, 3) := by decide +kernel
theorem dX8_checkTable_7 : decode cX8_checkTable 7 = .ok (.new 110, 3) := by decide +kernel
theorem dX8_checkTable_10 : decode cX8_checkTable 10 = .ok (.dup, 1) := by decide +kernel
theorem dX8_checkTable_11 : decode cX8_checkTable 11 = .ok (.ldc_w 401, 3) := by decide +kernel
theorem dX8_checkTable_14 : decode cX8_checkTable 14 = .ok (.invokespecial 114, 3) := by decide +kernel
theorem dX8_checkTable_17 : decode cX8_checkTable 17 = .ok (.athrow, 1) := by decide +kernel
theorem dX8_checkTable_18 : decode cX8_checkTable 18 = .ok (.return_, 1) := by decide +kernel
set_option maxRecDepth 20000 in
theorem ggX8_heard_X4_hear : GoodIn wsX8_heard wsX4_hear := goodIn_ca (goodIn_r _ [7, 8, 9, 10, 11, 12, 13, 14, 15, 16, 17, 18, 19, 20, 21, 22, 23, 24, 25, 26, 27, 28, 29, 30, 31, 32, 33, 34, 35, 36, 37, 38, 39, 40, 41, 42, 43, 44, 45, 58, 59, 60, 61, 62, 63, 64, 65] (by decide +kernel) (by decide +kernel)) (goodIn_sub (fun _ h => List.mem_cons_of_mem _ (List.mem_append_right _ h)) (by decide +kernel))
set_option maxRecDepth 20000 in
theorem gX8_heard_X4_hear : GoodIn wsX8_heard (wsV RX8 403 RX4 yX4_hear wsX4_hear) := goodIn_app (goodIn_of _ (by decide +kernel)) ggX8_heard_X4_hear
theorem dX8_heard_0 : decode cX8_heard 0 = .ok (.aload_n 0, 1) := by decide +kernel
theorem dX8_heard_1 : decode cX8_heard 1 = .ok (.getfield 27, 3) := by decide +kernel
theorem dX8_heard_4 : decode cX8_heard 4 = .ok (.aload_n 0, 1) := by decide +kernel
theorem dX8_heard_5 : decode cX8_heard 5 = .ok (.getfield 20, 3) := by decide +kernel
theorem dX8_heard_8 : decode cX8_heard 8 = .ok (.iload_n 1, 1) := by decide +kernel
theorem dX8_heard_9 : decode cX8_heard 9 = .ok (.invokevirtual 403, 3) := by decide +kernel
theorem dX8_heard_12 : decode cX8_heard 12 = .ok (.aload_n 0, 1) := by decide +kernel
theorem dX8_heard_13 : decode cX8_heard 13 = .ok (.getfield 27, 3) := by decide +kernel
theorem dX8_heard_16 : decode cX8_heard 16 = .ok (.areturn, 1) := by decide +kernel
set_option maxRecDepth 20000 in
theorem ggX8_rightTables_X8_heard : GoodIn wsX8_rightTables wsX8_heard := goodIn_ca (goodIn_r _ [5, 6, 7, 8, 9, 10, 11, 12, 13, 14, 15, 16, 17, 18, 19, 20, 21, 22, 23, 24, 25, 26, 27, 28, 29, 30, 31, 32, 33, 34, 35, 36, 37, 38, 39, 40, 41, 42, 43, 44, 45, 46, 47, 48, 49, 50, 69, 70, 71, 72, 73, 74, 75, 76, 77, 78, 79, 80, 81, 82, 83, 84, 85, 86, 87, 88] (by decide +kernel) (by decide +kernel)) (goodIn_sub (fun _ h => List.mem_cons_of_mem _ (List.mem_append_right _ h)) (by decide +kernel))
set_option maxRecDepth 20000 in
theorem gX8_rightTables_X8_heard : GoodIn wsX8_rightTables (wsV RX8 151 RX8 yX8_heard wsX8_heard) := goodIn_app (goodIn_of _ (by decide +kernel)) ggX8_rightTables_X8_heard
set_option maxRecDepth 20000 in
theorem ggX8_rightTables_X4_isWhole : GoodIn wsX8_rightTables wsX4_isWhole := goodIn_ca (goodIn_r _ [54, 55, 56, 57, 11, 58, 13, 59, 60, 61, 62, 15, 63, 64, 65, 66, 67, 68, 81, 82, 83, 84, 85, 86, 87] (by decide +kernel) (by decide +kernel)) (goodIn_sub (fun _ h => List.mem_cons_of_mem _ (List.mem_append_right _ h)) (by decide +kernel))
set_option maxRecDepth 20000 in
theorem gX8_rightTables_X4_isWhole : GoodIn wsX8_rightTables (wsV RX8 196 RX4 yX4_isWhole wsX4_isWhole) := goodIn_app (goodIn_of _ (by decide +kernel)) ggX8_rightTables_X4_isWhole
theorem dX8_rightTables_0 : decode cX8_rightTables 0 = .ok (.iconst 0, 1) := by decide +kernel
theorem dX8_rightTables_1 : decode cX8_rightTables 1 = .ok (.istore_n 1, 1) := by decide +kernel
theorem dX8_rightTables_2 : decode cX8_rightTables 2 = .ok (.iconst 0, 1) := by decide +kernel
theorem dX8_rightTables_3 : decode cX8_rightTables 3 = .ok (.istore_n 2, 1) := by decide +kernel
theorem dX8_rightTables_4 : decode cX8_rightTables 4 = .ok (.iload_n 2, 1) := by decide +kernel
theorem dX8_rightTables_5 : decode cX8_rightTables 5 = .ok (.iconst 3, 1) := by decide +kernel
theorem dX8_rightTables_6 : decode cX8_rightTables 6 = .ok (.if_icmp .ge 23, 3) := by decide +kernel
theorem dX8_rightTables_9 : decode cX8_rightTables 9 = .ok (.aload_n 0, 1) := by decide +kernel
theorem dX8_rightTables_10 : decode cX8_rightTables 10 = .ok (.iload_n 2, 1) := by decide +kernel
theorem dX8_rightTables_11 : decode cX8_rightTables 11 = .ok (.invokevirtual 151, 3) := by decide +kernel
theorem dX8_rightTables_14 : decode cX8_rightTables 14 = .ok (.invokevirtual 196, 3) := by decide +kernel
theorem dX8_rightTables_17 : decode cX8_rightTables 17 = .ok (.ifCond .eq 6, 3) := by decide +kernel
theorem dX8_rightTables_20 : decode cX8_rightTables 20 = .ok (.iinc 1 1, 3) := by decide +kernel
theorem dX8_rightTables_23 : decode cX8_rightTables 23 = .ok (.iinc 2 1, 3) := by decide +kernel
theorem dX8_rightTables_26 : decode cX8_rightTables 26 = .ok (.goto (-22), 3) := by decide +kernel
theorem dX8_rightTables_29 : decode cX8_rightTables 29 = .ok (.iload_n 1, 1) := by decide +kernel
theorem dX8_rightTables_30 : decode cX8_rightTables 30 = .ok (.ireturn, 1) := by decide +kernel
set_option maxRecDepth 20000 in
theorem ggX8_tablesAheadOf_X8_isTableAhead : GoodIn wsX8_tablesAheadOf wsX8_isTableAhead := goodIn_ca (goodIn_r _ [5, 6, 7, 8, 4, 9, 10, 11, 12, 13, 14, 15, 16, 17, 18, 19, 20, 21, 22, 23, 24, 25, 26, 27, 28, 29, 30, 31, 32, 33, 34, 35, 36, 37, 38, 39, 40, 41, 42, 43, 44, 45, 46, 47, 48, 49, 50, 51, 52, 53, 54, 55, 56, 57, 58, 59, 60, 61, 62, 63, 64, 65, 66, 67, 68, 69, 70, 71, 72, 73, 74, 75, 76, 77, 78, 79, 80, 81, 82, 83, 84, 85, 86, 87, 88, 89, 90, 91, 92, 93, 94, 95, 96, 97, 98, 99, 100, 101, 102, 103, 104, 105, 106, 107, 108] (by decide +kernel) (by decide +kernel)) (goodIn_sub (fun _ h => List.mem_cons_of_mem _ (List.mem_append_right _ h)) (by decide +kernel))
set_option maxRecDepth 20000 in
theorem gX8_tablesAheadOf_X8_isTableAhead : GoodIn wsX8_tablesAheadOf (wsV RX8 407 RX8 yX8_isTableAhead wsX8_isTableAhead) := goodIn_app (goodIn_of _ (by decide +kernel)) ggX8_tablesAheadOf_X8_isTableAhead
theorem dX8_tablesAheadOf_0 : decode cX8_tablesAheadOf 0 = .ok (.iconst 0, 1) := by decide +kernel
theorem dX8_tablesAheadOf_1 : decode cX8_tablesAheadOf 1 = .ok (.istore_n 2, 1) := by decide +kernel
theorem dX8_tablesAheadOf_2 : decode cX8_tablesAheadOf 2 = .ok (.iconst 0, 1) := by decide +kernel
theorem dX8_tablesAheadOf_3 : decode cX8_tablesAheadOf 3 = .ok (.istore_n 3, 1) := by decide +kernel
theorem dX8_tablesAheadOf_4 : decode cX8_tablesAheadOf 4 = .ok (.iload_n 3, 1) := by decide +kernel
theorem dX8_tablesAheadOf_5 : decode cX8_tablesAheadOf 5 = .ok (.iconst 3, 1) := by decide +kernel
theorem dX8_tablesAheadOf_6 : decode cX8_tablesAheadOf 6 = .ok (.if_icmp .ge 21, 3) := by decide +kernel
theorem dX8_tablesAheadOf_9 : decode cX8_tablesAheadOf 9 = .ok (.aload_n 0, 1) := by decide +kernel
theorem dX8_tablesAheadOf_10 : decode cX8_tablesAheadOf 10 = .ok (.iload_n 3, 1) := by decide +kernel
theorem dX8_tablesAheadOf_11 : decode cX8_tablesAheadOf 11 = .ok (.iload_n 1, 1) := by decide +kernel
theorem dX8_tablesAheadOf_12 : decode cX8_tablesAheadOf 12 = .ok (.invokevirtual 407, 3) := by decide +kernel
theorem dX8_tablesAheadOf_15 : decode cX8_tablesAheadOf 15 = .ok (.ifCond .eq 6, 3) := by decide +kernel
theorem dX8_tablesAheadOf_18 : decode cX8_tablesAheadOf 18 = .ok (.iinc 2 1, 3) := by decide +kernel
theorem dX8_tablesAheadOf_21 : decode cX8_tablesAheadOf 21 = .ok (.iinc 3 1, 3) := by decide +kernel
theorem dX8_tablesAheadOf_24 : decode cX8_tablesAheadOf 24 = .ok (.goto (-20), 3) := by decide +kernel
theorem dX8_tablesAheadOf_27 : decode cX8_tablesAheadOf 27 = .ok (.iload_n 2, 1) := by decide +kernel
theorem dX8_tablesAheadOf_28 : decode cX8_tablesAheadOf 28 = .ok (.ireturn, 1) := by decide +kernel
set_option maxRecDepth 20000 in
theorem ggX8_isTableAhead_X8_heard : GoodIn wsX8_isTableAhead wsX8_heard := goodIn_ca (goodIn_r _ [5, 6, 7, 8, 9, 10, 11, 12, 13, 14, 15, 16, 17, 18, 19, 20, 21, 22, 23, 24, 25, 26, 27, 28, 29, 30, 31, 32, 33, 34, 35, 36, 37, 38, 39, 40, 41, 42, 43, 44, 45, 46, 47, 48, 49, 50, 85, 86, 87, 88, 89, 90, 91, 92, 93, 94, 95, 96, 97, 98, 99, 100, 101, 102, 103, 104] (by decide +kernel) (by decide +kernel)) (goodIn_sub (fun _ h => List.mem_cons_of_mem _ (List.mem_append_right _ h)) (by decide +kernel))
set_option maxRecDepth 20000 in
theorem gX8_isTableAhead_X8_heard : GoodIn wsX8_isTableAhead (wsV RX8 151 RX8 yX8_heard wsX8_heard) := goodIn_app (goodIn_of _ (by decide +kernel)) ggX8_isTableAhead_X8_heard
set_option maxRecDepth 20000 in
theorem ggX8_isTableAhead_X4_phraseCount : GoodIn wsX8_isTableAhead wsX4_phraseCount := goodIn_ca (goodIn_r _ [54, 55, 56, 57, 11, 58, 13, 59, 60, 61, 62, 15, 63, 64, 65, 66, 67, 68, 69, 70, 71, 72, 97, 98, 99, 100, 101, 102, 103] (by decide +kernel) (by decide +kernel)) (goodIn_sub (fun _ h => List.mem_cons_of_mem _ (List.mem_append_right _ h)) (by decide +kernel))
set_option maxRecDepth 20000 in
theorem gX8_isTableAhead_X4_phraseCount : GoodIn wsX8_isTableAhead (wsV RX8 200 RX4 yX4_phraseCount wsX4_phraseCount) := goodIn_app (goodIn_of _ (by decide +kernel)) ggX8_isTableAhead_X4_phraseCount
