theorem dX6_setOfTable_15 : decode cX6_setOfTable 15 = .ok (.iadd, 1) := by decide +kernel
theorem dX6_setOfTable_16 : decode cX6_setOfTable 16 = .ok (.iload_n 3, 1) := by decide +kernel
theorem dX6_setOfTable_17 : decode cX6_setOfTable 17 = .ok (.iastore, 1) := by decide +kernel
theorem dX6_setOfTable_18 : decode cX6_setOfTable 18 = .ok (.return_, 1) := by decide +kernel
set_option maxRecDepth 20000 in
theorem ggX6_setSeat_X6_isSeat : GoodIn wsX6_setSeat wsX6_isSeat := goodIn_r _ [5] (by decide +kernel) (by decide +kernel)
set_option maxRecDepth 20000 in
theorem gX6_setSeat_X6_isSeat : GoodIn wsX6_setSeat (va_wsS RX6 32 yX6_isSeat wsX6_isSeat) := goodIn_app (goodIn_of _ (by decide +kernel)) ggX6_setSeat_X6_isSeat
theorem dX6_setSeat_0 : decode cX6_setSeat 0 = .ok (.iload_n 1, 1) := by decide +kernel
theorem dX6_setSeat_1 : decode cX6_setSeat 1 = .ok (.iload_n 2, 1) := by decide +kernel
theorem dX6_setSeat_2 : decode cX6_setSeat 2 = .ok (.invokestatic 32, 3) := by decide +kernel
theorem dX6_setSeat_5 : decode cX6_setSeat 5 = .ok (.ifCond .eq 18, 3) := by decide +kernel
theorem dX6_setSeat_8 : decode cX6_setSeat 8 = .ok (.aload_n 0, 1) := by decide +kernel
theorem dX6_setSeat_9 : decode cX6_setSeat 9 = .ok (.getfield 11, 3) := by decide +kernel
theorem dX6_setSeat_12 : decode cX6_setSeat 12 = .ok (.bipush 50, 2) := by decide +kernel
theorem dX6_setSeat_14 : decode cX6_setSeat 14 = .ok (.iload_n 1, 1) := by decide +kernel
theorem dX6_setSeat_15 : decode cX6_setSeat 15 = .ok (.bipush 6, 2) := by decide +kernel
theorem dX6_setSeat_17 : decode cX6_setSeat 17 = .ok (.imul, 1) := by decide +kernel
theorem dX6_setSeat_18 : decode cX6_setSeat 18 = .ok (.iadd, 1) := by decide +kernel
theorem dX6_setSeat_19 : decode cX6_setSeat 19 = .ok (.iload_n 2, 1) := by decide +kernel
theorem dX6_setSeat_20 : decode cX6_setSeat 20 = .ok (.iadd, 1) := by decide +kernel
theorem dX6_setSeat_21 : decode cX6_setSeat 21 = .ok (.iload_n 3, 1) := by decide +kernel
theorem dX6_setSeat_22 : decode cX6_setSeat 22 = .ok (.iastore, 1) := by decide +kernel
theorem dX6_setSeat_23 : decode cX6_setSeat 23 = .ok (.return_, 1) := by decide +kernel
theorem dX6_isSeat_0 : decode cX6_isSeat 0 = .ok (.iload_n 0, 1) := by decide +kernel
theorem dX6_isSeat_1 : decode cX6_isSeat 1 = .ok (.ifCond .lt 22, 3) := by decide +kernel
theorem dX6_isSeat_4 : decode cX6_isSeat 4 = .ok (.iload_n 0, 1) := by decide +kernel
theorem dX6_isSeat_5 : decode cX6_isSeat 5 = .ok (.iconst 3, 1) := by decide +kernel
theorem dX6_isSeat_6 : decode cX6_isSeat 6 = .ok (.if_icmp .ge 17, 3) := by decide +kernel
theorem dX6_isSeat_9 : decode cX6_isSeat 9 = .ok (.iload_n 1, 1) := by decide +kernel
theorem dX6_isSeat_10 : decode cX6_isSeat 10 = .ok (.ifCond .lt 13, 3) := by decide +kernel
theorem dX6_isSeat_13 : decode cX6_isSeat 13 = .ok (.iload_n 1, 1) := by decide +kernel
theorem dX6_isSeat_14 : decode cX6_isSeat 14 = .ok (.bipush 6, 2) := by decide +kernel
theorem dX6_isSeat_16 : decode cX6_isSeat 16 = .ok (.if_icmp .ge 7, 3) := by decide +kernel
theorem dX6_isSeat_19 : decode cX6_isSeat 19 = .ok (.iconst 1, 1) := by decide +kernel
theorem dX6_isSeat_20 : decode cX6_isSeat 20 = .ok (.goto 4, 3) := by decide +kernel
theorem dX6_isSeat_23 : decode cX6_isSeat 23 = .ok (.iconst 0, 1) := by decide +kernel
theorem dX6_isSeat_24 : decode cX6_isSeat 24 = .ok (.ireturn, 1) := by decide +kernel
theorem dX7_init_0 : decode cX7_init 0 = .ok (.aload_n 0, 1) := by decide +kernel
theorem dX7_init_1 : decode cX7_init 1 = .ok (.invokespecial 3, 3) := by decide +kernel
theorem dX7_init_4 : decode cX7_init 4 = .ok (.aload_n 0, 1) := by decide +kernel
theorem dX7_init_5 : decode cX7_init 5 = .ok (.bipush 60, 2) := by decide +kernel
theorem dX7_init_7 : decode cX7_init 7 = .ok (.newarray .char, 2) := by decide +kernel
theorem dX7_init_9 : decode cX7_init 9 = .ok (.putfield 9, 3) := by decide +kernel
theorem dX7_init_12 : decode cX7_init 12 = .ok (.aload_n 0, 1) := by decide +kernel
theorem dX7_init_13 : decode cX7_init 13 = .ok (.iconst 0, 1) := by decide +kernel
theorem dX7_init_14 : decode cX7_init 14 = .ok (.putfield 15, 3) := by decide +kernel
theorem dX7_init_17 : decode cX7_init 17 = .ok (.return_, 1) := by decide +kernel
theorem dX7_length_0 : decode cX7_length 0 = .ok (.aload_n 0, 1) := by decide +kernel
theorem dX7_length_1 : decode cX7_length 1 = .ok (.getfield 15, 3) := by decide +kernel
theorem dX7_length_4 : decode cX7_length 4 = .ok (.ireturn, 1) := by decide +kernel
theorem dX7_isFull_0 : decode cX7_isFull 0 = .ok (.aload_n 0, 1) := by decide +kernel
theorem dX7_isFull_1 : decode cX7_isFull 1 = .ok (.getfield 15, 3) := by decide +kernel
theorem dX7_isFull_4 : decode cX7_isFull 4 = .ok (.bipush 60, 2) := by decide +kernel
theorem dX7_isFull_6 : decode cX7_isFull 6 = .ok (.if_icmp .lt 7, 3) := by decide +kernel
theorem dX7_isFull_9 : decode cX7_isFull 9 = .ok (.iconst 1, 1) := by decide +kernel
theorem dX7_isFull_10 : decode cX7_isFull 10 = .ok (.goto 4, 3) := by decide +kernel
theorem dX7_isFull_13 : decode cX7_isFull 13 = .ok (.iconst 0, 1) := by decide +kernel
theorem dX7_isFull_14 : decode cX7_isFull 14 = .ok (.ireturn, 1) := by decide +kernel
theorem dX7_empty_0 : decode cX7_empty 0 = .ok (.aload_n 0, 1) := by decide +kernel
theorem dX7_empty_1 : decode cX7_empty 1 = .ok (.iconst 0, 1) := by decide +kernel
theorem dX7_empty_2 : decode cX7_empty 2 = .ok (.putfield 15, 3) := by decide +kernel
theorem dX7_empty_5 : decode cX7_empty 5 = .ok (.return_, 1) := by decide +kernel
theorem dX7_append_0 : decode cX7_append 0 = .ok (.aload_n 0, 1) := by decide +kernel
theorem dX7_append_1 : decode cX7_append 1 = .ok (.getfield 15, 3) := by decide +kernel
theorem dX7_append_4 : decode cX7_append 4 = .ok (.ifCond .lt 32, 3) := by decide +kernel
theorem dX7_append_7 : decode cX7_append 7 = .ok (.aload_n 0, 1) := by decide +kernel
theorem dX7_append_8 : decode cX7_append 8 = .ok (.getfield 15, 3) := by decide +kernel
theorem dX7_append_11 : decode cX7_append 11 = .ok (.bipush 60, 2) := by decide +kernel
theorem dX7_append_13 : decode cX7_append 13 = .ok (.if_icmp .ge 23, 3) := by decide +kernel
theorem dX7_append_16 : decode cX7_append 16 = .ok (.aload_n 0, 1) := by decide +kernel
theorem dX7_append_17 : decode cX7_append 17 = .ok (.getfield 9, 3) := by decide +kernel
theorem dX7_append_20 : decode cX7_append 20 = .ok (.aload_n 0, 1) := by decide +kernel
theorem dX7_append_21 : decode cX7_append 21 = .ok (.getfield 15, 3) := by decide +kernel
theorem dX7_append_24 : decode cX7_append 24 = .ok (.iload_n 1, 1) := by decide +kernel
theorem dX7_append_25 : decode cX7_append 25 = .ok (.castore, 1) := by decide +kernel
theorem dX7_append_26 : decode cX7_append 26 = .ok (.aload_n 0, 1) := by decide +kernel
theorem dX7_append_27 : decode cX7_append 27 = .ok (.dup, 1) := by decide +kernel
theorem dX7_append_28 : decode cX7_append 28 = .ok (.getfield 15, 3) := by decide +kernel
theorem dX7_append_31 : decode cX7_append 31 = .ok (.iconst 1, 1) := by decide +kernel
theorem dX7_append_32 : decode cX7_append 32 = .ok (.iadd, 1) := by decide +kernel
theorem dX7_append_33 : decode cX7_append 33 = .ok (.putfield 15, 3) := by decide +kernel
theorem dX7_append_36 : decode cX7_append 36 = .ok (.return_, 1) := by decide +kernel
set_option maxRecDepth 20000 in
theorem ggX7_errorAt_X7_commandAt : GoodIn wsX7_errorAt wsX7_commandAt := goodIn_ca (goodIn_r _ [6, 7, 8, 9, 5, 10, 1, 11, 12, 13, 14, 15, 16, 17, 18, 19, 20, 21, 22, 23, 24, 25, 26, 27, 28, 29, 30, 31, 32, 33, 34, 35, 36, 37, 38, 39, 40, 41, 42, 43, 44, 45, 46, 47, 48, 49, 50, 51, 52, 53, 54, 55, 56, 57, 58, 59, 60, 61, 62, 63, 64, 65, 66, 67, 68, 69, 70, 71, 72, 73, 74, 75, 76, 77, 78, 79, 80, 81, 82, 83, 92, 93, 94, 95, 96, 97] (by decide +kernel) (by decide +kernel)) (goodIn_sub (fun _ h => List.mem_cons_of_mem _ (List.mem_append_right _ h)) (by decide +kernel))
set_option maxRecDepth 20000 in
theorem gX7_errorAt_X7_commandAt : GoodIn wsX7_errorAt (wsV RX7 19 RX7 yX7_commandAt wsX7_commandAt) := goodIn_app (goodIn_of _ (by decide +kernel)) ggX7_errorAt_X7_commandAt
set_option maxRecDepth 20000 in
theorem ggX7_errorAt_X7_longestMatch : GoodIn wsX7_errorAt wsX7_longestMatch := goodIn_ca (goodIn_r _ [87, 88, 89, 90, 91, 7, 8, 9, 5, 10, 1, 11, 12, 13, 14, 15, 16, 17, 18, 19, 20, 21, 22, 23, 24, 25, 26, 27, 28, 29, 30, 31, 32, 33, 34, 35, 36, 37, 38, 39, 40, 41, 42, 43, 44, 45, 46, 47, 48, 49, 50, 51, 52, 53, 54, 55, 56, 57, 58, 59, 60, 61, 62, 63, 64, 65, 66, 67, 68, 69, 70, 71, 72, 73, 74, 75, 76, 77, 78, 79, 80, 81, 82, 83, 92, 93, 94, 95, 96, 97] (by decide +kernel) (by decide +kernel)) (goodIn_sub (fun _ h => List.mem_cons_of_mem _ (List.mem_append_right _ h)) (by decide +kernel))
set_option maxRecDepth 20000 in
theorem gX7_errorAt_X7_longestMatch : GoodIn wsX7_errorAt (wsV RX7 23 RX7 yX7_longestMatch wsX7_longestMatch) := goodIn_app (goodIn_of _ (by decide +kernel)) ggX7_errorAt_X7_longestMatch
set_option maxRecDepth 20000 in
theorem ggX7_errorAt_X1_length : GoodIn wsX7_errorAt wsX1_length := goodIn_r _ [15, 16, 17, 18, 19, 20, 21, 22, 23, 24, 25, 26, 27, 28, 94, 95, 96, 97] (by decide +kernel) (by decide +kernel)
set_option maxRecDepth 20000 in
theorem gX7_errorAt_X1_length : GoodIn wsX7_errorAt (wsV RX7 27 RX1 yX1_length wsX1_length) := goodIn_app (goodIn_of _ (by decide +kernel)) ggX7_errorAt_X1_length
set_option maxRecDepth 20000 in
theorem ggX7_errorAt_X7_signAt : GoodIn wsX7_errorAt wsX7_signAt := goodIn_ca (goodIn_r _ [73, 1, 74, 92, 93] (by decide +kernel) (by decide +kernel)) (goodIn_sub (fun _ h => List.mem_cons_of_mem _ (List.mem_append_right _ h)) (by decide +kernel))
set_option maxRecDepth 20000 in
theorem gX7_errorAt_X7_signAt : GoodIn wsX7_errorAt (wsV RX7 32 RX7 yX7_signAt wsX7_signAt) := goodIn_app (goodIn_of _ (by decide +kernel)) ggX7_errorAt_X7_signAt
theorem dX7_errorAt_0 : decode cX7_errorAt 0 = .ok (.iconst 0, 1) := by decide +kernel
theorem dX7_errorAt_1 : decode cX7_errorAt 1 = .ok (.istore_n 1, 1) := by decide +kernel
theorem dX7_errorAt_2 : decode cX7_errorAt 2 = .ok (.iconst 0, 1) := by decide +kernel
theorem dX7_errorAt_3 : decode cX7_errorAt 3 = .ok (.istore_n 2, 1) := by decide +kernel
theorem dX7_errorAt_4 : decode cX7_errorAt 4 = .ok (.iload_n 2, 1) := by decide +kernel
theorem dX7_errorAt_5 : decode cX7_errorAt 5 = .ok (.bipush 60, 2) := by decide +kernel
theorem dX7_errorAt_7 : decode cX7_errorAt 7 = .ok (.if_icmp .gt 65, 3) := by decide +kernel
theorem dX7_errorAt_10 : decode cX7_errorAt 10 = .ok (.aload_n 0, 1) := by decide +kernel
theorem dX7_errorAt_11 : decode cX7_errorAt 11 = .ok (.iload_n 1, 1) := by decide +kernel
theorem dX7_errorAt_12 : decode cX7_errorAt 12 = .ok (.invokevirtual 19, 3) := by decide +kernel
theorem dX7_errorAt_15 : decode cX7_errorAt 15 = .ok (.astore_n 3, 1) := by decide +kernel
theorem dX7_errorAt_16 : decode cX7_errorAt 16 = .ok (.aload_n 3, 1) := by decide +kernel
theorem dX7_errorAt_17 : decode cX7_errorAt 17 = .ok (.ifnonnull 11, 3) := by decide +kernel
theorem dX7_errorAt_20 : decode cX7_errorAt 20 = .ok (.iload_n 1, 1) := by decide +kernel
theorem dX7_errorAt_21 : decode cX7_errorAt 21 = .ok (.aload_n 0, 1) := by decide +kernel
theorem dX7_errorAt_22 : decode cX7_errorAt 22 = .ok (.iload_n 1, 1) := by decide +kernel
theorem dX7_errorAt_23 : decode cX7_errorAt 23 = .ok (.invokevirtual 23, 3) := by decide +kernel
theorem dX7_errorAt_26 : decode cX7_errorAt 26 = .ok (.iadd, 1) := by decide +kernel
theorem dX7_errorAt_27 : decode cX7_errorAt 27 = .ok (.ireturn, 1) := by decide +kernel
theorem dX7_errorAt_28 : decode cX7_errorAt 28 = .ok (.iload_n 1, 1) := by decide +kernel
theorem dX7_errorAt_29 : decode cX7_errorAt 29 = .ok (.aload_n 3, 1) := by decide +kernel
theorem dX7_errorAt_30 : decode cX7_errorAt 30 = .ok (.invokevirtual 27, 3) := by decide +kernel
theorem dX7_errorAt_33 : decode cX7_errorAt 33 = .ok (.iadd, 1) := by decide +kernel
theorem dX7_errorAt_34 : decode cX7_errorAt 34 = .ok (.istore 4, 2) := by decide +kernel
theorem dX7_errorAt_36 : decode cX7_errorAt 36 = .ok (.iload 4, 2) := by decide +kernel
theorem dX7_errorAt_38 : decode cX7_errorAt 38 = .ok (.aload_n 0, 1) := by decide +kernel
theorem dX7_errorAt_39 : decode cX7_errorAt 39 = .ok (.getfield 15, 3) := by decide +kernel
theorem dX7_errorAt_42 : decode cX7_errorAt 42 = .ok (.if_icmp .lt 5, 3) := by decide +kernel
theorem dX7_errorAt_45 : decode cX7_errorAt 45 = .ok (.iconst (-1), 1) := by decide +kernel
theorem dX7_errorAt_46 : decode cX7_errorAt 46 = .ok (.ireturn, 1) := by decide +kernel
theorem dX7_errorAt_47 : decode cX7_errorAt 47 = .ok (.aload_n 0, 1) := by decide +kernel
theorem dX7_errorAt_48 : decode cX7_errorAt 48 = .ok (.iload 4, 2) := by decide +kernel
theorem dX7_errorAt_50 : decode cX7_errorAt 50 = .ok (.invokevirtual 32, 3) := by decide +kernel
theorem dX7_errorAt_53 : decode cX7_errorAt 53 = .ok (.bipush 59, 2) := by decide +kernel
theorem dX7_errorAt_55 : decode cX7_errorAt 55 = .ok (.if_icmp .eq 6, 3) := by decide +kernel
theorem dX7_errorAt_58 : decode cX7_errorAt 58 = .ok (.iload 4, 2) := by decide +kernel
theorem dX7_errorAt_60 : decode cX7_errorAt 60 = .ok (.ireturn, 1) := by decide +kernel
theorem dX7_errorAt_61 : decode cX7_errorAt 61 = .ok (.iload 4, 2) := by decide +kernel
theorem dX7_errorAt_63 : decode cX7_errorAt 63 = .ok (.iconst 1, 1) := by decide +kernel
theorem dX7_errorAt_64 : decode cX7_errorAt 64 = .ok (.iadd, 1) := by decide +kernel
theorem dX7_errorAt_65 : decode cX7_errorAt 65 = .ok (.istore_n 1, 1) := by decide +kernel
theorem dX7_errorAt_66 : decode cX7_errorAt 66 = .ok (.iinc 2 1, 3) := by decide +kernel
theorem dX7_errorAt_69 : decode cX7_errorAt 69 = .ok (.goto (-65), 3) := by decide +kernel
theorem dX7_errorAt_72 : decode cX7_errorAt 72 = .ok (.iconst (-1), 1) := by decide +kernel
theorem dX7_errorAt_73 : decode cX7_errorAt 73 = .ok (.ireturn, 1) := by decide +kernel
set_option maxRecDepth 20000 in
theorem ggX7_commandAt_X7_matched : GoodIn wsX7_commandAt wsX7_matched := goodIn_ca (goodIn_r _ [5, 6, 7, 8, 9, 10, 11, 12, 13, 14, 15, 16, 17, 18, 19, 20, 21, 22, 23, 24, 25, 26, 27, 28, 29, 30, 31, 32, 33, 34, 35, 36, 37, 38, 39, 40, 41, 42, 43, 44, 45, 46, 47, 48, 49, 50, 51, 52, 53, 54, 55, 56, 57, 58, 59, 60, 61, 62, 63, 64, 65, 66, 67, 68, 4, 69, 70, 71, 72, 73, 74, 75, 76, 77, 78, 79, 80, 81, 82, 83, 84, 85] (by decide +kernel) (by decide +kernel)) (goodIn_sub (fun _ h => List.mem_cons_of_mem _ (List.mem_append_right _ h)) (by decide +kernel))
set_option maxRecDepth 20000 in
theorem gX7_commandAt_X7_matched : GoodIn wsX7_commandAt (wsV RX7 40 RX7 yX7_matched wsX7_matched) := goodIn_app (goodIn_of _ (by decide +kernel)) ggX7_commandAt_X7_matched
set_option maxRecDepth 20000 in
theorem ggX7_commandAt_X1_length : GoodIn wsX7_commandAt wsX1_length := goodIn_r _ [11, 12, 13, 14, 15, 16, 17, 18, 19, 20, 21, 22, 23, 24, 82, 83, 84, 85] (by decide +kernel) (by decide +kernel)
set_option maxRecDepth 20000 in
theorem gX7_commandAt_X1_length : GoodIn wsX7_commandAt (wsV RX7 27 RX1 yX1_length wsX1_length) := goodIn_app (goodIn_of _ (by decide +kernel)) ggX7_commandAt_X1_length
theorem dX7_commandAt_0 : decode cX7_commandAt 0 = .ok (.getstatic 36, 3) := by decide +kernel
theorem dX7_commandAt_3 : decode cX7_commandAt 3 = .ok (.astore_n 2, 1) := by decide +kernel
theorem dX7_commandAt_4 : decode cX7_commandAt 4 = .ok (.aload_n 2, 1) := by decide +kernel
theorem dX7_commandAt_5 : decode cX7_commandAt 5 = .ok (.arraylength, 1) := by decide +kernel
theorem dX7_commandAt_6 : decode cX7_commandAt 6 = .ok (.istore_n 3, 1) := by decide +kernel
theorem dX7_commandAt_7 : decode cX7_commandAt 7 = .ok (.iconst 0, 1) := by decide +kernel
theorem dX7_commandAt_8 : decode cX7_commandAt 8 = .ok (.istore 4, 2) := by decide +kernel
theorem dX7_commandAt_10 : decode cX7_commandAt 10 = .ok (.iload 4, 2) := by decide +kernel
theorem dX7_commandAt_12 : decode cX7_commandAt 12 = .ok (.iload_n 3, 1) := by decide +kernel
theorem dX7_commandAt_13 : decode cX7_commandAt 13 = .ok (.if_icmp .ge 33, 3) := by decide +kernel
theorem dX7_commandAt_16 : decode cX7_commandAt 16 = .ok (.aload_n 2, 1) := by decide +kernel
theorem dX7_commandAt_17 : decode cX7_commandAt 17 = .ok (.iload 4, 2) := by decide +kernel
theorem dX7_commandAt_19 : decode cX7_commandAt 19 = .ok (.aaload, 1) := by decide +kernel
theorem dX7_commandAt_20 : decode cX7_commandAt 20 = .ok (.astore 5, 2) := by decide +kernel
theorem dX7_commandAt_22 : decode cX7_commandAt 22 = .ok (.aload_n 0, 1) := by decide +kernel
theorem dX7_commandAt_23 : decode cX7_commandAt 23 = .ok (.aload 5, 2) := by decide +kernel
theorem dX7_commandAt_25 : decode cX7_commandAt 25 = .ok (.iload_n 1, 1) := by decide +kernel
theorem dX7_commandAt_26 : decode cX7_commandAt 26 = .ok (.invokevirtual 40, 3) := by decide +kernel
theorem dX7_commandAt_29 : decode cX7_commandAt 29 = .ok (.aload 5, 2) := by decide +kernel
theorem dX7_commandAt_31 : decode cX7_commandAt 31 = .ok (.invokevirtual 27, 3) := by decide +kernel
theorem dX7_commandAt_34 : decode cX7_commandAt 34 = .ok (.if_icmp .ne 6, 3) := by decide +kernel
theorem dX7_commandAt_37 : decode cX7_commandAt 37 = .ok (.aload 5, 2) := by decide +kernel
theorem dX7_commandAt_39 : decode cX7_commandAt 39 = .ok (.areturn, 1) := by decide +kernel
theorem dX7_commandAt_40 : decode cX7_commandAt 40 = .ok (.iinc 4 1, 3) := by decide +kernel
theorem dX7_commandAt_43 : decode cX7_commandAt 43 = .ok (.goto (-33), 3) := by decide +kernel
theorem dX7_commandAt_46 : decode cX7_commandAt 46 = .ok (.aconst_null, 1) := by decide +kernel
theorem dX7_commandAt_47 : decode cX7_commandAt 47 = .ok (.areturn, 1) := by decide +kernel
set_option maxRecDepth 20000 in
theorem ggX7_argument_X1_length : GoodIn wsX7_argument wsX1_length := goodIn_r _ [5, 6, 7, 8, 9, 10, 11, 12, 13, 14, 15, 16, 17, 18, 73, 74, 75, 76] (by decide +kernel) (by decide +kernel)
set_option maxRecDepth 20000 in
theorem gX7_argument_X1_length : GoodIn wsX7_argument (wsV RX7 27 RX1 yX1_length wsX1_length) := goodIn_app (goodIn_of _ (by decide +kernel)) ggX7_argument_X1_length
set_option maxRecDepth 20000 in
theorem ggX7_argument_X1_signAt : GoodIn wsX7_argument wsX1_signAt := goodIn_r _ [22, 6, 7, 8, 9, 10, 11, 12, 13, 14, 15, 16, 17, 18, 23, 24, 25, 26, 27, 28, 29, 30, 31, 32, 33, 34, 35, 36, 37, 38, 39, 40, 41, 42, 43, 44, 45, 46, 47, 48, 49, 50, 51, 52, 53, 54, 55, 56, 57, 58, 59, 73, 74, 75, 76] (by decide +kernel) (by decide +kernel)
set_option maxRecDepth 20000 in
theorem gX7_argument_X1_signAt : GoodIn wsX7_argument (wsV RX7 44 RX1 yX1_signAt wsX1_signAt) := goodIn_app (goodIn_of _ (by decide +kernel)) ggX7_argument_X1_signAt
set_option maxRecDepth 20000 in
theorem ggX7_argument_X7_signAt : GoodIn wsX7_argument wsX7_signAt := goodIn_ca (goodIn_r _ [64, 65, 66, 77, 78] (by decide +kernel) (by decide +kernel)) (goodIn_sub (fun _ h => List.mem_cons_of_mem _ (List.mem_append_right _ h)) (by decide +kernel))
set_option maxRecDepth 20000 in
theorem gX7_argument_X7_signAt : GoodIn wsX7_argument (wsV RX7 32 RX7 yX7_signAt wsX7_signAt) := goodIn_app (goodIn_of _ (by decide +kernel)) ggX7_argument_X7_signAt
set_option maxRecDepth 20000 in
theorem ggX7_argument_X7_valueOf : GoodIn wsX7_argument wsX7_valueOf := goodIn_ca (goodIn_r _ [69, 70, 71, 72] (by decide +kernel) (by decide +kernel)) (goodIn_sub (fun _ h => List.mem_cons_of_mem _ (List.mem_append_right _ h)) (by decide +kernel))
set_option maxRecDepth 20000 in
theorem gX7_argument_X7_valueOf : GoodIn wsX7_argument (va_wsS RX7 45 yX7_valueOf wsX7_valueOf) := goodIn_app (goodIn_of _ (by decide +kernel)) ggX7_argument_X7_valueOf
theorem dX7_argument_0 : decode cX7_argument 0 = .ok (.iconst 0, 1) := by decide +kernel
theorem dX7_argument_1 : decode cX7_argument 1 = .ok (.istore 4, 2) := by decide +kernel
theorem dX7_argument_3 : decode cX7_argument 3 = .ok (.iconst 0, 1) := by decide +kernel
theorem dX7_argument_4 : decode cX7_argument 4 = .ok (.istore 5, 2) := by decide +kernel
theorem dX7_argument_6 : decode cX7_argument 6 = .ok (.iload 5, 2) := by decide +kernel
theorem dX7_argument_8 : decode cX7_argument 8 = .ok (.aload_n 1, 1) := by decide +kernel
theorem dX7_argument_9 : decode cX7_argument 9 = .ok (.invokevirtual 27, 3) := by decide +kernel
theorem dX7_argument_12 : decode cX7_argument 12 = .ok (.if_icmp .ge 54, 3) := by decide +kernel
theorem dX7_argument_15 : decode cX7_argument 15 = .ok (.aload_n 1, 1) := by decide +kernel
theorem dX7_argument_16 : decode cX7_argument 16 = .ok (.iload 5, 2) := by decide +kernel
theorem dX7_argument_18 : decode cX7_argument 18 = .ok (.invokevirtual 44, 3) := by decide +kernel
theorem dX7_argument_21 : decode cX7_argument 21 = .ok (.istore 6, 2) := by decide +kernel
theorem dX7_argument_23 : decode cX7_argument 23 = .ok (.iload 6, 2) := by decide +kernel
theorem dX7_argument_25 : decode cX7_argument 25 = .ok (.bipush 35, 2) := by decide +kernel
theorem dX7_argument_27 : decode cX7_argument 27 = .ok (.if_icmp .eq 10, 3) := by decide +kernel
theorem dX7_argument_30 : decode cX7_argument 30 = .ok (.iload 6, 2) := by decide +kernel
theorem dX7_argument_32 : decode cX7_argument 32 = .ok (.bipush 64, 2) := by decide +kernel
theorem dX7_argument_34 : decode cX7_argument 34 = .ok (.if_icmp .ne 26, 3) := by decide +kernel
theorem dX7_argument_37 : decode cX7_argument 37 = .ok (.iload 4, 2) := by decide +kernel
theorem dX7_argument_39 : decode cX7_argument 39 = .ok (.iload_n 3, 1) := by decide +kernel
theorem dX7_argument_40 : decode cX7_argument 40 = .ok (.if_icmp .ne 17, 3) := by decide +kernel
theorem dX7_argument_43 : decode cX7_argument 43 = .ok (.iload 6, 2) := by decide +kernel
theorem dX7_argument_45 : decode cX7_argument 45 = .ok (.aload_n 0, 1) := by decide +kernel
theorem dX7_argument_46 : decode cX7_argument 46 = .ok (.iload_n 2, 1) := by decide +kernel
theorem dX7_argument_47 : decode cX7_argument 47 = .ok (.iload 5, 2) := by decide +kernel
theorem dX7_argument_49 : decode cX7_argument 49 = .ok (.iadd, 1) := by decide +kernel
theorem dX7_argument_50 : decode cX7_argument 50 = .ok (.invokevirtual 32, 3) := by decide +kernel
theorem dX7_argument_53 : decode cX7_argument 53 = .ok (.invokestatic 45, 3) := by decide +kernel
theorem dX7_argument_56 : decode cX7_argument 56 = .ok (.ireturn, 1) := by decide +kernel
theorem dX7_argument_57 : decode cX7_argument 57 = .ok (.iinc 4 1, 3) := by decide +kernel
theorem dX7_argument_60 : decode cX7_argument 60 = .ok (.iinc 5 1, 3) := by decide +kernel
theorem dX7_argument_63 : decode cX7_argument 63 = .ok (.goto (-57), 3) := by decide +kernel
theorem dX7_argument_66 : decode cX7_argument 66 = .ok (.iconst 0, 1) := by decide +kernel
theorem dX7_argument_67 : decode cX7_argument 67 = .ok (.ireturn, 1) := by decide +kernel
set_option maxRecDepth 20000 in
theorem ggX7_longestMatch_X7_matched : GoodIn wsX7_longestMatch wsX7_matched := goodIn_ca (goodIn_r _ [9, 10, 11, 12, 13, 14, 15, 16, 17, 18, 19, 20, 21, 22, 23, 24, 25, 26, 27, 28, 29, 30, 31, 32, 33, 34, 35, 36, 37, 38, 39, 40, 41, 42, 43, 44, 45, 46, 47, 48, 49, 50, 51, 52, 53, 54, 55, 56, 57, 58, 59, 60, 61, 62, 63, 64, 65, 66, 67, 68, 69, 70, 71, 72, 8, 73, 74, 75, 76, 77, 78, 79, 80, 81, 82, 83, 84, 85, 86, 87, 88, 89] (by decide +kernel) (by decide +kernel)) (goodIn_sub (fun _ h => List.mem_cons_of_mem _ (List.mem_append_right _ h)) (by decide +kernel))
set_option maxRecDepth 20000 in
theorem gX7_longestMatch_X7_matched : GoodIn wsX7_longestMatch (wsV RX7 40 RX7 yX7_matched wsX7_matched) := goodIn_app (goodIn_of _ (by decide +kernel)) ggX7_longestMatch_X7_matched
theorem dX7_longestMatch_0 : decode cX7_longestMatch 0 = .ok (.iconst 0, 1) := by decide +kernel
theorem dX7_longestMatch_1 : decode cX7_longestMatch 1 = .ok (.istore_n 2, 1) := by decide +kernel
theorem dX7_longestMatch_2 : decode cX7_longestMatch 2 = .ok (.getstatic 36, 3) := by decide +kernel
theorem dX7_longestMatch_5 : decode cX7_longestMatch 5 = .ok (.astore_n 3, 1) := by decide +kernel
theorem dX7_longestMatch_6 : decode cX7_longestMatch 6 = .ok (.aload_n 3, 1) := by decide +kernel
theorem dX7_longestMatch_7 : decode cX7_longestMatch 7 = .ok (.arraylength, 1) := by decide +kernel
theorem dX7_longestMatch_8 : decode cX7_longestMatch 8 = .ok (.istore 4, 2) := by decide +kernel
theorem dX7_longestMatch_10 : decode cX7_longestMatch 10 = .ok (.iconst 0, 1) := by decide +kernel
theorem dX7_longestMatch_11 : decode cX7_longestMatch 11 = .ok (.istore 5, 2) := by decide +kernel
theorem dX7_longestMatch_13 : decode cX7_longestMatch 13 = .ok (.iload 5, 2) := by decide +kernel
theorem dX7_longestMatch_15 : decode cX7_longestMatch 15 = .ok (.iload 4, 2) := by decide +kernel
theorem dX7_longestMatch_17 : decode cX7_longestMatch 17 = .ok (.if_icmp .ge 27, 3) := by decide +kernel
theorem dX7_longestMatch_20 : decode cX7_longestMatch 20 = .ok (.aload_n 3, 1) := by decide +kernel
theorem dX7_longestMatch_21 : decode cX7_longestMatch 21 = .ok (.iload 5, 2) := by decide +kernel
theorem dX7_longestMatch_23 : decode cX7_longestMatch 23 = .ok (.aaload, 1) := by decide +kernel
theorem dX7_longestMatch_24 : decode cX7_longestMatch 24 = .ok (.astore 6, 2) := by decide +kernel
theorem dX7_longestMatch_26 : decode cX7_longestMatch 26 = .ok (.iload_n 2, 1) := by decide +kernel
theorem dX7_longestMatch_27 : decode cX7_longestMatch 27 = .ok (.aload_n 0, 1) := by decide +kernel
theorem dX7_longestMatch_28 : decode cX7_longestMatch 28 = .ok (.aload 6, 2) := by decide +kernel
theorem dX7_longestMatch_30 : decode cX7_longestMatch 30 = .ok (.iload_n 1, 1) := by decide +kernel
theorem dX7_longestMatch_31 : decode cX7_longestMatch 31 = .ok (.invokevirtual 40, 3) := by decide +kernel
theorem dX7_longestMatch_34 : decode cX7_longestMatch 34 = .ok (.invokestatic 49, 3) := by decide +kernel
theorem dX7_longestMatch_37 : decode cX7_longestMatch 37 = .ok (.istore_n 2, 1) := by decide +kernel
theorem dX7_longestMatch_38 : decode cX7_longestMatch 38 = .ok (.iinc 5 1, 3) := by decide +kernel
theorem dX7_longestMatch_41 : decode cX7_longestMatch 41 = .ok (.goto (-28), 3) := by decide +kernel
theorem dX7_longestMatch_44 : decode cX7_longestMatch 44 = .ok (.iload_n 2, 1) := by decide +kernel
theorem dX7_longestMatch_45 : decode cX7_longestMatch 45 = .ok (.ireturn, 1) := by decide +kernel
set_option maxRecDepth 20000 in
theorem ggX7_matched_X1_length : GoodIn wsX7_matched wsX1_length := goodIn_r _ [6, 7, 8, 9, 10, 11, 12, 13, 14, 15, 16, 17, 18, 19, 78, 79, 80, 81] (by decide +kernel) (by decide +kernel)
set_option maxRecDepth 20000 in
theorem gX7_matched_X1_length : GoodIn wsX7_matched (wsV RX7 27 RX1 yX1_length wsX1_length) := goodIn_app (goodIn_of _ (by decide +kernel)) ggX7_matched_X1_length
set_option maxRecDepth 20000 in
theorem ggX7_matched_X1_signAt : GoodIn wsX7_matched wsX1_signAt := goodIn_r _ [23, 7, 8, 9, 10, 11, 12, 13, 14, 15, 16, 17, 18, 19, 24, 25, 26, 27, 28, 29, 30, 31, 32, 33, 34, 35, 36, 37, 38, 39, 40, 41, 42, 43, 44, 45, 46, 47, 48, 49, 50, 51, 52, 53, 54, 55, 56, 57, 58, 59, 60, 78, 79, 80, 81] (by decide +kernel) (by decide +kernel)
set_option maxRecDepth 20000 in
theorem gX7_matched_X1_signAt : GoodIn wsX7_matched (wsV RX7 44 RX1 yX1_signAt wsX1_signAt) := goodIn_app (goodIn_of _ (by decide +kernel)) ggX7_matched_X1_signAt
set_option maxRecDepth 20000 in
theorem ggX7_matched_X7_signAt : GoodIn wsX7_matched wsX7_signAt := goodIn_ca (goodIn_r _ [65, 1, 66, 76, 77] (by decide +kernel) (by decide +kernel)) (goodIn_sub (fun _ h => List.mem_cons_of_mem _ (List.mem_append_right _ h)) (by decide +kernel))
set_option maxRecDepth 20000 in
theorem gX7_matched_X7_signAt : GoodIn wsX7_matched (wsV RX7 32 RX7 yX7_signAt wsX7_signAt) := goodIn_app (goodIn_of _ (by decide +kernel)) ggX7_matched_X7_signAt
set_option maxRecDepth 20000 in
theorem ggX7_matched_X7_isOfForm : GoodIn wsX7_matched wsX7_isOfForm := goodIn_ca (goodIn_r _ [69, 70, 71, 64, 72, 73, 74, 75] (by decide +kernel) (by decide +kernel)) (goodIn_sub (fun _ h => List.mem_cons_of_mem _ (List.mem_append_right _ h)) (by decide +kernel))
set_option maxRecDepth 20000 in
theorem gX7_matched_X7_isOfForm : GoodIn wsX7_matched (va_wsS RX7 55 yX7_isOfForm wsX7_isOfForm) := goodIn_app (goodIn_of _ (by decide +kernel)) ggX7_matched_X7_isOfForm
theorem dX7_matched_0 : decode cX7_matched 0 = .ok (.iconst 0, 1) := by decide +kernel
theorem dX7_matched_1 : decode cX7_matched 1 = .ok (.istore_n 3, 1) := by decide +kernel
theorem dX7_matched_2 : decode cX7_matched 2 = .ok (.iload_n 3, 1) := by decide +kernel
theorem dX7_matched_3 : decode cX7_matched 3 = .ok (.aload_n 1, 1) := by decide +kernel
theorem dX7_matched_4 : decode cX7_matched 4 = .ok (.invokevirtual 27, 3) := by decide +kernel
theorem dX7_matched_7 : decode cX7_matched 7 = .ok (.if_icmp .ge 37, 3) := by decide +kernel
theorem dX7_matched_10 : decode cX7_matched 10 = .ok (.iload_n 2, 1) := by decide +kernel
theorem dX7_matched_11 : decode cX7_matched 11 = .ok (.iload_n 3, 1) := by decide +kernel
theorem dX7_matched_12 : decode cX7_matched 12 = .ok (.iadd, 1) := by decide +kernel
theorem dX7_matched_13 : decode cX7_matched 13 = .ok (.aload_n 0, 1) := by decide +kernel
theorem dX7_matched_14 : decode cX7_matched 14 = .ok (.getfield 15, 3) := by decide +kernel
theorem dX7_matched_17 : decode cX7_matched 17 = .ok (.if_icmp .ge 27, 3) := by decide +kernel
theorem dX7_matched_20 : decode cX7_matched 20 = .ok (.aload_n 1, 1) := by decide +kernel
theorem dX7_matched_21 : decode cX7_matched 21 = .ok (.iload_n 3, 1) := by decide +kernel
theorem dX7_matched_22 : decode cX7_matched 22 = .ok (.invokevirtual 44, 3) := by decide +kernel
theorem dX7_matched_25 : decode cX7_matched 25 = .ok (.aload_n 0, 1) := by decide +kernel
theorem dX7_matched_26 : decode cX7_matched 26 = .ok (.iload_n 2, 1) := by decide +kernel
theorem dX7_matched_27 : decode cX7_matched 27 = .ok (.iload_n 3, 1) := by decide +kernel
theorem dX7_matched_28 : decode cX7_matched 28 = .ok (.iadd, 1) := by decide +kernel
theorem dX7_matched_29 : decode cX7_matched 29 = .ok (.invokevirtual 32, 3) := by decide +kernel
theorem dX7_matched_32 : decode cX7_matched 32 = .ok (.invokestatic 55, 3) := by decide +kernel
theorem dX7_matched_35 : decode cX7_matched 35 = .ok (.ifCond .eq 9, 3) := by decide +kernel
theorem dX7_matched_38 : decode cX7_matched 38 = .ok (.iinc 3 1, 3) := by decide +kernel
theorem dX7_matched_41 : decode cX7_matched 41 = .ok (.goto (-39), 3) := by decide +kernel
theorem dX7_matched_44 : decode cX7_matched 44 = .ok (.iload_n 3, 1) := by decide +kernel
theorem dX7_matched_45 : decode cX7_matched 45 = .ok (.ireturn, 1) := by decide +kernel
theorem dX7_signAt_0 : decode cX7_signAt 0 = .ok (.iload_n 1, 1) := by decide +kernel
theorem dX7_signAt_1 : decode cX7_signAt 1 = .ok (.ifCond .lt 26, 3) := by decide +kernel
theorem dX7_signAt_4 : decode cX7_signAt 4 = .ok (.iload_n 1, 1) := by decide +kernel
theorem dX7_signAt_5 : decode cX7_signAt 5 = .ok (.aload_n 0, 1) := by decide +kernel
theorem dX7_signAt_6 : decode cX7_signAt 6 = .ok (.getfield 15, 3) := by decide +kernel
theorem dX7_signAt_9 : decode cX7_signAt 9 = .ok (.if_icmp .ge 18, 3) := by decide +kernel
theorem dX7_signAt_12 : decode cX7_signAt 12 = .ok (.iload_n 1, 1) := by decide +kernel
theorem dX7_signAt_13 : decode cX7_signAt 13 = .ok (.bipush 60, 2) := by decide +kernel
theorem dX7_signAt_15 : decode cX7_signAt 15 = .ok (.if_icmp .ge 12, 3) := by decide +kernel
theorem dX7_signAt_18 : decode cX7_signAt 18 = .ok (.aload_n 0, 1) := by decide +kernel
theorem dX7_signAt_19 : decode cX7_signAt 19 = .ok (.getfield 9, 3) := by decide +kernel
theorem dX7_signAt_22 : decode cX7_signAt 22 = .ok (.iload_n 1, 1) := by decide +kernel
theorem dX7_signAt_23 : decode cX7_signAt 23 = .ok (.caload, 1) := by decide +kernel
theorem dX7_signAt_24 : decode cX7_signAt 24 = .ok (.goto 5, 3) := by decide +kernel
theorem dX7_signAt_27 : decode cX7_signAt 27 = .ok (.bipush 32, 2) := by decide +kernel
theorem dX7_signAt_29 : decode cX7_signAt 29 = .ok (.ireturn, 1) := by decide +kernel
set_option maxRecDepth 20000 in
theorem ggX7_isOfForm_X7_valueOf : GoodIn wsX7_isOfForm wsX7_valueOf := goodIn_ca (goodIn_r _ [4, 5, 6, 7] (by decide +kernel) (by decide +kernel)) (goodIn_sub (fun _ h => List.mem_cons_of_mem _ (List.mem_append_right _ h)) (by decide +kernel))
set_option maxRecDepth 20000 in
theorem gX7_isOfForm_X7_valueOf : GoodIn wsX7_isOfForm (va_wsS RX7 45 yX7_valueOf wsX7_valueOf) := goodIn_app (goodIn_of _ (by decide +kernel)) ggX7_isOfForm_X7_valueOf
theorem dX7_isOfForm_0 : decode cX7_isOfForm 0 = .ok (.iload_n 0, 1) := by decide +kernel
theorem dX7_isOfForm_1 : decode cX7_isOfForm 1 = .ok (.bipush 35, 2) := by decide +kernel
theorem dX7_isOfForm_3 : decode cX7_isOfForm 3 = .ok (.if_icmp .eq 9, 3) := by decide +kernel
theorem dX7_isOfForm_6 : decode cX7_isOfForm 6 = .ok (.iload_n 0, 1) := by decide +kernel
theorem dX7_isOfForm_7 : decode cX7_isOfForm 7 = .ok (.bipush 64, 2) := by decide +kernel
theorem dX7_isOfForm_9 : decode cX7_isOfForm 9 = .ok (.if_icmp .ne 18, 3) := by decide +kernel
theorem dX7_isOfForm_12 : decode cX7_isOfForm 12 = .ok (.iload_n 0, 1) := by decide +kernel
theorem dX7_isOfForm_13 : decode cX7_isOfForm 13 = .ok (.iload_n 1, 1) := by decide +kernel
theorem dX7_isOfForm_14 : decode cX7_isOfForm 14 = .ok (.invokestatic 45, 3) := by decide +kernel
theorem dX7_isOfForm_17 : decode cX7_isOfForm 17 = .ok (.iconst (-1), 1) := by decide +kernel
theorem dX7_isOfForm_18 : decode cX7_isOfForm 18 = .ok (.if_icmp .eq 7, 3) := by decide +kernel
theorem dX7_isOfForm_21 : decode cX7_isOfForm 21 = .ok (.iconst 1, 1) := by decide +kernel
theorem dX7_isOfForm_22 : decode cX7_isOfForm 22 = .ok (.goto 4, 3) := by decide +kernel
theorem dX7_isOfForm_25 : decode cX7_isOfForm 25 = .ok (.iconst 0, 1) := by decide +kernel
theorem dX7_isOfForm_26 : decode cX7_isOfForm 26 = .ok (.ireturn, 1) := by decide +kernel
theorem dX7_isOfForm_27 : decode cX7_isOfForm 27 = .ok (.iload_n 0, 1) := by decide +kernel
theorem dX7_isOfForm_28 : decode cX7_isOfForm 28 = .ok (.iload_n 1, 1) := by decide +kernel
theorem dX7_isOfForm_29 : decode cX7_isOfForm 29 = .ok (.if_icmp .ne 7, 3) := by decide +kernel
theorem dX7_isOfForm_32 : decode cX7_isOfForm 32 = .ok (.iconst 1, 1) := by decide +kernel
theorem dX7_isOfForm_33 : decode cX7_isOfForm 33 = .ok (.goto 4, 3) := by decide +kernel
theorem dX7_isOfForm_36 : decode cX7_isOfForm 36 = .ok (.iconst 0, 1) := by decide +kernel
theorem dX7_isOfForm_37 : decode cX7_isOfForm 37 = .ok (.ireturn, 1) := by decide +kernel
set_option maxRecDepth 20000 in
theorem ggX7_valueOf_X8_letterIn : GoodIn wsX7_valueOf wsX8_letterIn := goodIn_ca (goodIn_r _ [3] (by decide +kernel) (by decide +kernel)) (goodIn_sub (fun _ h => List.mem_cons_of_mem _ (List.mem_append_right _ h)) (by decide +kernel))
set_option maxRecDepth 20000 in
theorem gX7_valueOf_X8_letterIn_n62 : GoodIn wsX7_valueOf (wsX8_letterIn) := ggX7_valueOf_X8_letterIn
theorem dX7_valueOf_0 : decode cX7_valueOf 0 = .ok (.iload_n 0, 1) := by decide +kernel
theorem dX7_valueOf_1 : decode cX7_valueOf 1 = .ok (.bipush 35, 2) := by decide +kernel
theorem dX7_valueOf_3 : decode cX7_valueOf 3 = .ok (.if_icmp .ne 24, 3) := by decide +kernel
theorem dX7_valueOf_6 : decode cX7_valueOf 6 = .ok (.iload_n 1, 1) := by decide +kernel
theorem dX7_valueOf_7 : decode cX7_valueOf 7 = .ok (.bipush 48, 2) := by decide +kernel
theorem dX7_valueOf_9 : decode cX7_valueOf 9 = .ok (.if_icmp .lt 16, 3) := by decide +kernel
theorem dX7_valueOf_12 : decode cX7_valueOf 12 = .ok (.iload_n 1, 1) := by decide +kernel
theorem dX7_valueOf_13 : decode cX7_valueOf 13 = .ok (.bipush 57, 2) := by decide +kernel
theorem dX7_valueOf_15 : decode cX7_valueOf 15 = .ok (.if_icmp .gt 10, 3) := by decide +kernel
theorem dX7_valueOf_18 : decode cX7_valueOf 18 = .ok (.iload_n 1, 1) := by decide +kernel
theorem dX7_valueOf_19 : decode cX7_valueOf 19 = .ok (.bipush 48, 2) := by decide +kernel
theorem dX7_valueOf_21 : decode cX7_valueOf 21 = .ok (.isub, 1) := by decide +kernel
theorem dX7_valueOf_22 : decode cX7_valueOf 22 = .ok (.goto 4, 3) := by decide +kernel
theorem dX7_valueOf_25 : decode cX7_valueOf 25 = .ok (.iconst (-1), 1) := by decide +kernel
theorem dX7_valueOf_26 : decode cX7_valueOf 26 = .ok (.ireturn, 1) := by decide +kernel
theorem dX7_valueOf_27 : decode cX7_valueOf 27 = .ok (.iconst 1, 1) := by decide +kernel
theorem dX7_valueOf_28 : decode cX7_valueOf 28 = .ok (.istore_n 2, 1) := by decide +kernel
theorem dX7_valueOf_29 : decode cX7_valueOf 29 = .ok (.iload_n 2, 1) := by decide +kernel
theorem dX7_valueOf_30 : decode cX7_valueOf 30 = .ok (.iconst 4, 1) := by decide +kernel
theorem dX7_valueOf_31 : decode cX7_valueOf 31 = .ok (.if_icmp .gt 22, 3) := by decide +kernel
theorem dX7_valueOf_34 : decode cX7_valueOf 34 = .ok (.getstatic 59, 3) := by decide +kernel
theorem dX7_valueOf_37 : decode cX7_valueOf 37 = .ok (.iload_n 2, 1) := by decide +kernel
theorem dX7_valueOf_38 : decode cX7_valueOf 38 = .ok (.invokestatic 62, 3) := by decide +kernel
theorem dX7_valueOf_41 : decode cX7_valueOf 41 = .ok (.iload_n 1, 1) := by decide +kernel
theorem dX7_valueOf_42 : decode cX7_valueOf 42 = .ok (.if_icmp .ne 5, 3) := by decide +kernel
theorem dX7_valueOf_45 : decode cX7_valueOf 45 = .ok (.iload_n 2, 1) := by decide +kernel
theorem dX7_valueOf_46 : decode cX7_valueOf 46 = .ok (.ireturn, 1) := by decide +kernel
theorem dX7_valueOf_47 : decode cX7_valueOf 47 = .ok (.iinc 2 1, 3) := by decide +kernel
theorem dX7_valueOf_50 : decode cX7_valueOf 50 = .ok (.goto (-21), 3) := by decide +kernel
theorem dX7_valueOf_53 : decode cX7_valueOf 53 = .ok (.iconst (-1), 1) := by decide +kernel
theorem dX7_valueOf_54 : decode cX7_valueOf 54 = .ok (.ireturn, 1) := by decide +kernel
set_option maxRecDepth 20000 in
theorem ggX8_init_X5_init : GoodIn wsX8_init wsX5_init := goodIn_r _ [30, 31, 2, 3, 32, 33, 34, 35, 36, 37, 38, 39, 40, 41, 42, 22, 43, 44, 45, 46, 47, 48, 49, 50, 51, 52, 53, 90, 70, 71, 91, 92, 93, 94, 95, 96, 97] (by decide +kernel) (by decide +kernel)
set_option maxRecDepth 20000 in
theorem gX8_init_X5_init_n9 : GoodIn wsX8_init (wsX5_init) := ggX8_init_X5_init
set_option maxRecDepth 20000 in
theorem ggX8_init_X2_init : GoodIn wsX8_init wsX2_init := goodIn_r _ [55, 56, 2, 3, 22, 57, 58, 84, 85] (by decide +kernel) (by decide +kernel)
set_option maxRecDepth 20000 in
theorem gX8_init_X2_init_n30 : GoodIn wsX8_init (wsX2_init) := ggX8_init_X2_init
set_option maxRecDepth 20000 in
theorem ggX8_init_X7_init : GoodIn wsX8_init wsX7_init := goodIn_r _ [60, 61, 2, 3, 62, 63, 64, 86, 87] (by decide +kernel) (by decide +kernel)
set_option maxRecDepth 20000 in
theorem gX8_init_X7_init_n37 : GoodIn wsX8_init (wsX7_init) := ggX8_init_X7_init
set_option maxRecDepth 20000 in
theorem ggX8_init_X3_init : GoodIn wsX8_init wsX3_init := goodIn_r _ [66, 67, 2, 3, 62, 68, 69, 88, 89] (by decide +kernel) (by decide +kernel)
set_option maxRecDepth 20000 in
theorem gX8_init_X3_init_n44 : GoodIn wsX8_init (wsX3_init) := ggX8_init_X3_init
theorem dX8_init_0 : decode cX8_init 0 = .ok (.aload_n 0, 1) := by decide +kernel
theorem dX8_init_1 : decode cX8_init 1 = .ok (.invokespecial 1, 3) := by decide +kernel
theorem dX8_init_4 : decode cX8_init 4 = .ok (.aload_n 0, 1) := by decide +kernel
theorem dX8_init_5 : decode cX8_init 5 = .ok (.new 7, 3) := by decide +kernel
theorem dX8_init_8 : decode cX8_init 8 = .ok (.dup, 1) := by decide +kernel
theorem dX8_init_9 : decode cX8_init 9 = .ok (.invokespecial 9, 3) := by decide +kernel
theorem dX8_init_12 : decode cX8_init 12 = .ok (.putfield 10, 3) := by decide +kernel
theorem dX8_init_15 : decode cX8_init 15 = .ok (.aload_n 0, 1) := by decide +kernel
theorem dX8_init_16 : decode cX8_init 16 = .ok (.aload_n 0, 1) := by decide +kernel
theorem dX8_init_17 : decode cX8_init 17 = .ok (.getfield 10, 3) := by decide +kernel
theorem dX8_init_20 : decode cX8_init 20 = .ok (.getfield 16, 3) := by decide +kernel
theorem dX8_init_23 : decode cX8_init 23 = .ok (.putfield 20, 3) := by decide +kernel
theorem dX8_init_26 : decode cX8_init 26 = .ok (.aload_n 0, 1) := by decide +kernel
theorem dX8_init_27 : decode cX8_init 27 = .ok (.aload_n 0, 1) := by decide +kernel
theorem dX8_init_28 : decode cX8_init 28 = .ok (.getfield 10, 3) := by decide +kernel
theorem dX8_init_31 : decode cX8_init 31 = .ok (.getfield 23, 3) := by decide +kernel
theorem dX8_init_34 : decode cX8_init 34 = .ok (.putfield 27, 3) := by decide +kernel
theorem dX8_init_37 : decode cX8_init 37 = .ok (.aload_n 0, 1) := by decide +kernel
theorem dX8_init_38 : decode cX8_init 38 = .ok (.new 28, 3) := by decide +kernel
theorem dX8_init_41 : decode cX8_init 41 = .ok (.dup, 1) := by decide +kernel
theorem dX8_init_42 : decode cX8_init 42 = .ok (.invokespecial 30, 3) := by decide +kernel
theorem dX8_init_45 : decode cX8_init 45 = .ok (.putfield 31, 3) := by decide +kernel
theorem dX8_init_48 : decode cX8_init 48 = .ok (.aload_n 0, 1) := by decide +kernel
theorem dX8_init_49 : decode cX8_init 49 = .ok (.new 35, 3) := by decide +kernel
theorem dX8_init_52 : decode cX8_init 52 = .ok (.dup, 1) := by decide +kernel
theorem dX8_init_53 : decode cX8_init 53 = .ok (.invokespecial 37, 3) := by decide +kernel
theorem dX8_init_56 : decode cX8_init 56 = .ok (.putfield 38, 3) := by decide +kernel
theorem dX8_init_59 : decode cX8_init 59 = .ok (.aload_n 0, 1) := by decide +kernel
theorem dX8_init_60 : decode cX8_init 60 = .ok (.new 42, 3) := by decide +kernel
theorem dX8_init_63 : decode cX8_init 63 = .ok (.dup, 1) := by decide +kernel
theorem dX8_init_64 : decode cX8_init 64 = .ok (.invokespecial 44, 3) := by decide +kernel
theorem dX8_init_67 : decode cX8_init 67 = .ok (.putfield 45, 3) := by decide +kernel
theorem dX8_init_70 : decode cX8_init 70 = .ok (.aload_n 0, 1) := by decide +kernel
theorem dX8_init_71 : decode cX8_init 71 = .ok (.bipush 80, 2) := by decide +kernel
theorem dX8_init_73 : decode cX8_init 73 = .ok (.newarray .int, 2) := by decide +kernel
theorem dX8_init_75 : decode cX8_init 75 = .ok (.putfield 51, 3) := by decide +kernel
theorem dX8_init_78 : decode cX8_init 78 = .ok (.aload_n 0, 1) := by decide +kernel
theorem dX8_init_79 : decode cX8_init 79 = .ok (.bipush 80, 2) := by decide +kernel
theorem dX8_init_81 : decode cX8_init 81 = .ok (.newarray .int, 2) := by decide +kernel
theorem dX8_init_83 : decode cX8_init 83 = .ok (.putfield 55, 3) := by decide +kernel
theorem dX8_init_86 : decode cX8_init 86 = .ok (.aload_n 0, 1) := by decide +kernel
theorem dX8_init_87 : decode cX8_init 87 = .ok (.iconst 0, 1) := by decide +kernel
theorem dX8_init_88 : decode cX8_init 88 = .ok (.putfield 58, 3) := by decide +kernel
theorem dX8_init_91 : decode cX8_init 91 = .ok (.aload_n 0, 1) := by decide +kernel
theorem dX8_init_92 : decode cX8_init 92 = .ok (.iconst (-1), 1) := by decide +kernel
theorem dX8_init_93 : decode cX8_init 93 = .ok (.putfield 62, 3) := by decide +kernel
theorem dX8_init_96 : decode cX8_init 96 = .ok (.aload_n 0, 1) := by decide +kernel
theorem dX8_init_97 : decode cX8_init 97 = .ok (.iconst 0, 1) := by decide +kernel
theorem dX8_init_98 : decode cX8_init 98 = .ok (.putfield 66, 3) := by decide +kernel
theorem dX8_init_101 : decode cX8_init 101 = .ok (.aload_n 0, 1) := by decide +kernel
theorem dX8_init_102 : decode cX8_init 102 = .ok (.iconst 0, 1) := by decide +kernel
theorem dX8_init_103 : decode cX8_init 103 = .ok (.putfield 69, 3) := by decide +kernel
theorem dX8_init_106 : decode cX8_init 106 = .ok (.return_, 1) := by decide +kernel
set_option maxRecDepth 20000 in
theorem ggX8_napkin_X8_change : GoodIn wsX8_napkin wsX8_change := goodIn_ca (goodIn_ca (goodIn_ca (goodIn_ca (goodIn_r _ [6, 7, 8, 9, 10, 11, 12, 13, 14, 15, 16, 17, 18, 19, 20, 21, 22, 23, 24, 25, 26, 27, 28, 29, 30, 31, 32, 33, 34, 35, 36, 37, 38, 39, 40, 41, 5, 42, 43, 44, 45, 46, 47, 48, 49, 50, 51, 52, 53, 54, 55, 56, 57, 58, 59, 60, 61, 62, 63, 64, 65, 66, 67, 68, 69, 70, 71, 72, 73, 74, 75, 76, 77, 78, 79, 80, 81, 82, 83, 84, 85, 86, 87, 88, 89, 90, 91, 92, 93, 94, 95, 96, 97, 98, 99, 100, 101, 102, 103, 104, 105, 106, 107, 108, 109, 110, 111, 112, 113, 114, 115, 116, 117, 118, 119, 120, 121, 122, 123, 124, 125, 126, 127, 128, 129, 130, 131, 132, 133, 134, 135, 136, 137, 138, 139, 140, 141, 142, 143, 144, 145, 146, 147, 148, 149, 150, 151, 152, 153, 154, 155, 156, 157, 158, 159, 160, 161, 162, 163, 164, 165, 166, 167, 168, 169, 170, 171, 172, 173, 174, 175, 176, 177, 178, 179, 180, 181, 182, 183, 184, 185, 186, 187, 188, 189, 190, 191, 192, 193, 194, 195, 196, 197, 198, 199, 200, 201, 202, 203, 204, 205, 206, 207, 208, 209, 210, 211, 212, 213, 214, 215, 216, 217, 218, 219, 220, 221, 222, 223, 224, 225, 226, 227, 228, 229, 230, 231, 232, 233, 234, 235, 236, 237, 238, 239, 240, 241, 242, 243, 244, 245, 246, 247, 248, 249, 250, 251, 252, 253, 254, 255, 256, 257, 258, 259, 260, 261, 262, 263, 264, 265, 266, 267, 268, 269, 270, 271, 272, 273, 274, 275, 276, 277, 278, 279, 280, 281, 282, 283, 284, 285, 286, 287, 288, 289, 290, 291, 292, 293, 294, 295, 296, 297, 298, 299, 300, 301, 302, 303] (by decide +kernel) (by decide +kernel)) (goodIn_sub (fun _ h => List.mem_cons_of_mem _ (List.mem_append_left _ (List.mem_append_left _ (List.mem_append_left _ (List.mem_append_right _ h))))) (by decide +kernel))) (goodIn_sub (fun _ h => List.mem_cons_of_mem _ (List.mem_append_left _ (List.mem_append_left _ (List.mem_append_right _ h)))) (by decide +kernel))) (goodIn_sub (fun _ h => List.mem_cons_of_mem _ (List.mem_append_left _ (List.mem_append_right _ h))) (by decide +kernel))) (goodIn_sub (fun _ h => List.mem_cons_of_mem _ (List.mem_append_right _ h)) (by decide +kernel))
set_option maxRecDepth 20000 in
theorem gX8_napkin_X8_change : GoodIn wsX8_napkin (wsV RX8 78 RX8 yX8_change wsX8_change) := goodIn_app (goodIn_of _ (by decide +kernel)) ggX8_napkin_X8_change
theorem dX8_napkin_0 : decode cX8_napkin 0 = .ok (.aload_n 0, 1) := by decide +kernel
theorem dX8_napkin_1 : decode cX8_napkin 1 = .ok (.getstatic 72, 3) := by decide +kernel
theorem dX8_napkin_4 : decode cX8_napkin 4 = .ok (.iload_n 1, 1) := by decide +kernel
theorem dX8_napkin_5 : decode cX8_napkin 5 = .ok (.iconst 0, 1) := by decide +kernel
theorem dX8_napkin_6 : decode cX8_napkin 6 = .ok (.iconst 0, 1) := by decide +kernel
theorem dX8_napkin_7 : decode cX8_napkin 7 = .ok (.invokevirtual 78, 3) := by decide +kernel
theorem dX8_napkin_10 : decode cX8_napkin 10 = .ok (.ireturn, 1) := by decide +kernel
set_option maxRecDepth 20000 in
theorem ggX8_fold_X8_change : GoodIn wsX8_fold wsX8_change := goodIn_ca (goodIn_ca (goodIn_ca (goodIn_ca (goodIn_r _ [6, 7, 8, 9, 10, 11, 12, 13, 14, 15, 16, 17, 18, 19, 20, 21, 22, 23, 24, 25, 26, 27, 28, 29, 30, 31, 32, 33, 34, 35, 36, 37, 38, 39, 40, 41, 5, 42, 43, 44, 45, 46, 47, 48, 49, 50, 51, 52, 53, 54, 55, 56, 57, 58, 59, 60, 61, 62, 63, 64, 65, 66, 67, 68, 69, 70, 71, 72, 73, 74, 75, 76, 77, 78, 79, 80, 81, 82, 83, 84, 85, 86, 87, 88, 89, 90, 91, 92, 93, 94, 95, 96, 97, 98, 99, 100, 101, 102, 103, 104, 105, 106, 107, 108, 109, 110, 111, 112, 113, 114, 115, 116, 117, 118, 119, 120, 121, 122, 123, 124, 125, 126, 127, 128, 129, 130, 131, 132, 133, 134, 135, 136, 137, 138, 139, 140, 141, 142, 143, 144, 145, 146, 147, 148, 149, 150, 151, 152, 153, 154, 155, 156, 157, 158, 159, 160, 161, 162, 163, 164, 165, 166, 167, 168, 169, 170, 171, 172, 173, 174, 175, 176, 177, 178, 179, 180, 181, 182, 183, 184, 185, 186, 187, 188, 189, 190, 191, 192, 193, 194, 195, 196, 197, 198, 199, 200, 201, 202, 203, 204, 205, 206, 207, 208, 209, 210, 211, 212, 213, 214, 215, 216, 217, 218, 219, 220, 221, 222, 223, 224, 225, 226, 227, 228, 229, 230, 231, 232, 233, 234, 235, 236, 237, 238, 239, 240, 241, 242, 243, 244, 245, 246, 247, 248, 249, 250, 251, 252, 253, 254, 255, 256, 257, 258, 259, 260, 261, 262, 263, 264, 265, 266, 267, 268, 269, 270, 271, 272, 273, 274, 275, 276, 277, 278, 279, 280, 281, 282, 283, 284, 285, 286, 287, 288, 289, 290, 291, 292, 293, 294, 295, 296, 297, 298, 299, 300, 301, 302, 303] (by decide +kernel) (by decide +kernel)) (goodIn_sub (fun _ h => List.mem_cons_of_mem _ (List.mem_append_left _ (List.mem_append_left _ (List.mem_append_left _ (List.mem_append_right _ h))))) (by decide +kernel))) (goodIn_sub (fun _ h => List.mem_cons_of_mem _ (List.mem_append_left _ (List.mem_append_left _ (List.mem_append_right _ h)))) (by decide +kernel))) (goodIn_sub (fun _ h => List.mem_cons_of_mem _ (List.mem_append_left _ (List.mem_append_right _ h))) (by decide +kernel))) (goodIn_sub (fun _ h => List.mem_cons_of_mem _ (List.mem_append_right _ h)) (by decide +kernel))
set_option maxRecDepth 20000 in
theorem gX8_fold_X8_change : GoodIn wsX8_fold (wsV RX8 78 RX8 yX8_change wsX8_change) := goodIn_app (goodIn_of _ (by decide +kernel)) ggX8_fold_X8_change
theorem dX8_fold_0 : decode cX8_fold 0 = .ok (.aload_n 0, 1) := by decide +kernel
theorem dX8_fold_1 : decode cX8_fold 1 = .ok (.getstatic 82, 3) := by decide +kernel
theorem dX8_fold_4 : decode cX8_fold 4 = .ok (.iload_n 1, 1) := by decide +kernel
theorem dX8_fold_5 : decode cX8_fold 5 = .ok (.iload_n 2, 1) := by decide +kernel
theorem dX8_fold_6 : decode cX8_fold 6 = .ok (.iconst 0, 1) := by decide +kernel
theorem dX8_fold_7 : decode cX8_fold 7 = .ok (.invokevirtual 78, 3) := by decide +kernel
theorem dX8_fold_10 : decode cX8_fold 10 = .ok (.ireturn, 1) := by decide +kernel
set_option maxRecDepth 20000 in
theorem ggX8_unfold_X8_change : GoodIn wsX8_unfold wsX8_change := goodIn_ca (goodIn_ca (goodIn_ca (goodIn_ca (goodIn_r _ [6, 7, 8, 9, 10, 11, 12, 13, 14, 15, 16, 17, 18, 19, 20, 21, 22, 23, 24, 25, 26, 27, 28, 29, 30, 31, 32, 33, 34, 35, 36, 37, 38, 39, 40, 41, 5, 42, 43, 44, 45, 46, 47, 48, 49, 50, 51, 52, 53, 54, 55, 56, 57, 58, 59, 60, 61, 62, 63, 64, 65, 66, 67, 68, 69, 70, 71, 72, 73, 74, 75, 76, 77, 78, 79, 80, 81, 82, 83, 84, 85, 86, 87, 88, 89, 90, 91, 92, 93, 94, 95, 96, 97, 98, 99, 100, 101, 102, 103, 104, 105, 106, 107, 108, 109, 110, 111, 112, 113, 114, 115, 116, 117, 118, 119, 120, 121, 122, 123, 124, 125, 126, 127, 128, 129, 130, 131, 132, 133, 134, 135, 136, 137, 138, 139, 140, 141, 142, 143, 144, 145, 146, 147, 148, 149, 150, 151, 152, 153, 154, 155, 156, 157, 158, 159, 160, 161, 162, 163, 164, 165, 166, 167, 168, 169, 170, 171, 172, 173, 174, 175, 176, 177, 178, 179, 180, 181, 182, 183, 184, 185, 186, 187, 188, 189, 190, 191, 192, 193, 194, 195, 196, 197, 198, 199, 200, 201, 202, 203, 204, 205, 206, 207, 208, 209, 210, 211, 212, 213, 214, 215, 216, 217, 218, 219, 220, 221, 222, 223, 224, 225, 226, 227, 228, 229, 230, 231, 232, 233, 234, 235, 236, 237, 238, 239, 240, 241, 242, 243, 244, 245, 246, 247, 248, 249, 250, 251, 252, 253, 254, 255, 256, 257, 258, 259, 260, 261, 262, 263, 264, 265, 266, 267, 268, 269, 270, 271, 272, 273, 274, 275, 276, 277, 278, 279, 280, 281, 282, 283, 284, 285, 286, 287, 288, 289, 290, 291, 292, 293, 294, 295, 296, 297, 298, 299, 300, 301, 302, 303] (by decide +kernel) (by decide +kernel)) (goodIn_sub (fun _ h => List.mem_cons_of_mem _ (List.mem_append_left _ (List.mem_append_left _ (List.mem_append_left _ (List.mem_append_right _ h))))) (by decide +kernel))) (goodIn_sub (fun _ h => List.mem_cons_of_mem _ (List.mem_append_left _ (List.mem_append_left _ (List.mem_append_right _ h)))) (by decide +kernel))) (goodIn_sub (fun _ h => List.mem_cons_of_mem _ (List.mem_append_left _ (List.mem_append_right _ h))) (by decide +kernel))) (goodIn_sub (fun _ h => List.mem_cons_of_mem _ (List.mem_append_right _ h)) (by decide +kernel))
set_option maxRecDepth 20000 in
theorem gX8_unfold_X8_change : GoodIn wsX8_unfold (wsV RX8 78 RX8 yX8_change wsX8_change) := goodIn_app (goodIn_of _ (by decide +kernel)) ggX8_unfold_X8_change
theorem dX8_unfold_0 : decode cX8_unfold 0 = .ok (.aload_n 0, 1) := by decide +kernel
theorem dX8_unfold_1 : decode cX8_unfold 1 = .ok (.getstatic 85, 3) := by decide +kernel
theorem dX8_unfold_4 : decode cX8_unfold 4 = .ok (.iload_n 1, 1) := by decide +kernel
theorem dX8_unfold_5 : decode cX8_unfold 5 = .ok (.iconst 0, 1) := by decide +kernel
theorem dX8_unfold_6 : decode cX8_unfold 6 = .ok (.iconst 0, 1) := by decide +kernel
theorem dX8_unfold_7 : decode cX8_unfold 7 = .ok (.invokevirtual 78, 3) := by decide +kernel
theorem dX8_unfold_10 : decode cX8_unfold 10 = .ok (.ireturn, 1) := by decide +kernel
set_option maxRecDepth 20000 in
theorem ggX8_lay_X8_change : GoodIn wsX8_lay wsX8_change := goodIn_ca (goodIn_ca (goodIn_ca (goodIn_ca (goodIn_r _ [6, 7, 8, 9, 10, 11, 12, 13, 14, 15, 16, 17, 18, 19, 20, 21, 22, 23, 24, 25, 26, 27, 28, 29, 30, 31, 32, 33, 34, 35, 36, 37, 38, 39, 40, 41, 5, 42, 43, 44, 45, 46, 47, 48, 49, 50, 51, 52, 53, 54, 55, 56, 57, 58, 59, 60, 61, 62, 63, 64, 65, 66, 67, 68, 69, 70, 71, 72, 73, 74, 75, 76, 77, 78, 79, 80, 81, 82, 83, 84, 85, 86, 87, 88, 89, 90, 91, 92, 93, 94, 95, 96, 97, 98, 99, 100, 101, 102, 103, 104, 105, 106, 107, 108, 109, 110, 111, 112, 113, 114, 115, 116, 117, 118, 119, 120, 121, 122, 123, 124, 125, 126, 127, 128, 129, 130, 131, 132, 133, 134, 135, 136, 137, 138, 139, 140, 141, 142, 143, 144, 145, 146, 147, 148, 149, 150, 151, 152, 153, 154, 155, 156, 157, 158, 159, 160, 161, 162, 163, 164, 165, 166, 167, 168, 169, 170, 171, 172, 173, 174, 175, 176, 177, 178, 179, 180, 181, 182, 183, 184, 185, 186, 187, 188, 189, 190, 191, 192, 193, 194, 195, 196, 197, 198, 199, 200, 201, 202, 203, 204, 205, 206, 207, 208, 209, 210, 211, 212, 213, 214, 215, 216, 217, 218, 219, 220, 221, 222, 223, 224, 225, 226, 227, 228, 229, 230, 231, 232, 233, 234, 235, 236, 237, 238, 239, 240, 241, 242, 243, 244, 245, 246, 247, 248, 249, 250, 251, 252, 253, 254, 255, 256, 257, 258, 259, 260, 261, 262, 263, 264, 265, 266, 267, 268, 269, 270, 271, 272, 273, 274, 275, 276, 277, 278, 279, 280, 281, 282, 283, 284, 285, 286, 287, 288, 289, 290, 291, 292, 293, 294, 295, 296, 297, 298, 299, 300, 301, 302, 303] (by decide +kernel) (by decide +kernel)) (goodIn_sub (fun _ h => List.mem_cons_of_mem _ (List.mem_append_left _ (List.mem_append_left _ (List.mem_append_left _ (List.mem_append_right _ h))))) (by decide +kernel))) (goodIn_sub (fun _ h => List.mem_cons_of_mem _ (List.mem_append_left _ (List.mem_append_left _ (List.mem_append_right _ h)))) (by decide +kernel))) (goodIn_sub (fun _ h => List.mem_cons_of_mem _ (List.mem_append_left _ (List.mem_append_right _ h))) (by decide +kernel))) (goodIn_sub (fun _ h => List.mem_cons_of_mem _ (List.mem_append_right _ h)) (by decide +kernel))
set_option maxRecDepth 20000 in
theorem gX8_lay_X8_change : GoodIn wsX8_lay (wsV RX8 78 RX8 yX8_change wsX8_change) := goodIn_app (goodIn_of _ (by decide +kernel)) ggX8_lay_X8_change
theorem dX8_lay_0 : decode cX8_lay 0 = .ok (.aload_n 0, 1) := by decide +kernel
theorem dX8_lay_1 : decode cX8_lay 1 = .ok (.getstatic 88, 3) := by decide +kernel
theorem dX8_lay_4 : decode cX8_lay 4 = .ok (.iload_n 1, 1) := by decide +kernel
theorem dX8_lay_5 : decode cX8_lay 5 = .ok (.iload_n 2, 1) := by decide +kernel
theorem dX8_lay_6 : decode cX8_lay 6 = .ok (.iconst 0, 1) := by decide +kernel
theorem dX8_lay_7 : decode cX8_lay 7 = .ok (.invokevirtual 78, 3) := by decide +kernel
theorem dX8_lay_10 : decode cX8_lay 10 = .ok (.ireturn, 1) := by decide +kernel
set_option maxRecDepth 20000 in
theorem ggX8_take_X8_change : GoodIn wsX8_take wsX8_change := goodIn_ca (goodIn_ca (goodIn_ca (goodIn_ca (goodIn_r _ [6, 7, 8, 9, 10, 11, 12, 13, 14, 15, 16, 17, 18, 19, 20, 21, 22, 23, 24, 25, 26, 27, 28, 29, 30, 31, 32, 33, 34, 35, 36, 37, 38, 39, 40, 41, 5, 42, 43, 44, 45, 46, 47, 48, 49, 50, 51, 52, 53, 54, 55, 56, 57, 58, 59, 60, 61, 62, 63, 64, 65, 66, 67, 68, 69, 70, 71, 72, 73, 74, 75, 76, 77, 78, 79, 80, 81, 82, 83, 84, 85, 86, 87, 88, 89, 90, 91, 92, 93, 94, 95, 96, 97, 98, 99, 100, 101, 102, 103, 104, 105, 106, 107, 108, 109, 110, 111, 112, 113, 114, 115, 116, 117, 118, 119, 120, 121, 122, 123, 124, 125, 126, 127, 128, 129, 130, 131, 132, 133, 134, 135, 136, 137, 138, 139, 140, 141, 142, 143, 144, 145, 146, 147, 148, 149, 150, 151, 152, 153, 154, 155, 156, 157, 158, 159, 160, 161, 162, 163, 164, 165, 166, 167, 168, 169, 170, 171, 172, 173, 174, 175, 176, 177, 178, 179, 180, 181, 182, 183, 184, 185, 186, 187, 188, 189, 190, 191, 192, 193, 194, 195, 196, 197, 198, 199, 200, 201, 202, 203, 204, 205, 206, 207, 208, 209, 210, 211, 212, 213, 214, 215, 216, 217, 218, 219, 220, 221, 222, 223, 224, 225, 226, 227, 228, 229, 230, 231, 232, 233, 234, 235, 236, 237, 238, 239, 240, 241, 242, 243, 244, 245, 246, 247, 248, 249, 250, 251, 252, 253, 254, 255, 256, 257, 258, 259, 260, 261, 262, 263, 264, 265, 266, 267, 268, 269, 270, 271, 272, 273, 274, 275, 276, 277, 278, 279, 280, 281, 282, 283, 284, 285, 286, 287, 288, 289, 290, 291, 292, 293, 294, 295, 296, 297, 298, 299, 300, 301, 302, 303] (by decide +kernel) (by decide +kernel)) (goodIn_sub (fun _ h => List.mem_cons_of_mem _ (List.mem_append_left _ (List.mem_append_left _ (List.mem_append_left _ (List.mem_append_right _ h))))) (by decide +kernel))) (goodIn_sub (fun _ h => List.mem_cons_of_mem _ (List.mem_append_left _ (List.mem_append_left _ (List.mem_append_right _ h)))) (by decide +kernel))) (goodIn_sub (fun _ h => List.mem_cons_of_mem _ (List.mem_append_left _ (List.mem_append_right _ h))) (by decide +kernel))) (goodIn_sub (fun _ h => List.mem_cons_of_mem _ (List.mem_append_right _ h)) (by decide +kernel))
set_option maxRecDepth 20000 in
theorem gX8_take_X8_change : GoodIn wsX8_take (wsV RX8 78 RX8 yX8_change wsX8_change) := goodIn_app (goodIn_of _ (by decide +kernel)) ggX8_take_X8_change
theorem dX8_take_0 : decode cX8_take 0 = .ok (.aload_n 0, 1) := by decide +kernel
theorem dX8_take_1 : decode cX8_take 1 = .ok (.getstatic 91, 3) := by decide +kernel
theorem dX8_take_4 : decode cX8_take 4 = .ok (.iload_n 1, 1) := by decide +kernel
theorem dX8_take_5 : decode cX8_take 5 = .ok (.iconst 0, 1) := by decide +kernel
theorem dX8_take_6 : decode cX8_take 6 = .ok (.iconst 0, 1) := by decide +kernel
theorem dX8_take_7 : decode cX8_take 7 = .ok (.invokevirtual 78, 3) := by decide +kernel
theorem dX8_take_10 : decode cX8_take 10 = .ok (.ireturn, 1) := by decide +kernel
set_option maxRecDepth 20000 in
theorem ggX8_move_X8_change : GoodIn wsX8_move wsX8_change := goodIn_ca (goodIn_ca (goodIn_ca (goodIn_ca (goodIn_r _ [6, 7, 8, 9, 10, 11, 12, 13, 14, 15, 16, 17, 18, 19, 20, 21, 22, 23, 24, 25, 26, 27, 28, 29, 30, 31, 32, 33, 34, 35, 36, 37, 38, 39, 40, 41, 5, 42, 43, 44, 45, 46, 47, 48, 49, 50, 51, 52, 53, 54, 55, 56, 57, 58, 59, 60, 61, 62, 63, 64, 65, 66, 67, 68, 69, 70, 71, 72, 73, 74, 75, 76, 77, 78, 79, 80, 81, 82, 83, 84, 85, 86, 87, 88, 89, 90, 91, 92, 93, 94, 95, 96, 97, 98, 99, 100, 101, 102, 103, 104, 105, 106, 107, 108, 109, 110, 111, 112, 113, 114, 115, 116, 117, 118, 119, 120, 121, 122, 123, 124, 125, 126, 127, 128, 129, 130, 131, 132, 133, 134, 135, 136, 137, 138, 139, 140, 141, 142, 143, 144, 145, 146, 147, 148, 149, 150, 151, 152, 153, 154, 155, 156, 157, 158, 159, 160, 161, 162, 163, 164, 165, 166, 167, 168, 169, 170, 171, 172, 173, 174, 175, 176, 177, 178, 179, 180, 181, 182, 183, 184, 185, 186, 187, 188, 189, 190, 191, 192, 193, 194, 195, 196, 197, 198, 199, 200, 201, 202, 203, 204, 205, 206, 207, 208, 209, 210, 211, 212, 213, 214, 215, 216, 217, 218, 219, 220, 221, 222, 223, 224, 225, 226, 227, 228, 229, 230, 231, 232, 233, 234, 235, 236, 237, 238, 239, 240, 241, 242, 243, 244, 245, 246, 247, 248, 249, 250, 251, 252, 253, 254, 255, 256, 257, 258, 259, 260, 261, 262, 263, 264, 265, 266, 267, 268, 269, 270, 271, 272, 273, 274, 275, 276, 277, 278, 279, 280, 281, 282, 283, 284, 285, 286, 287, 288, 289, 290, 291, 292, 293, 294, 295, 296, 297, 298, 299, 300, 301, 302, 303] (by decide +kernel) (by decide +kernel)) (goodIn_sub (fun _ h => List.mem_cons_of_mem _ (List.mem_append_left _ (List.mem_append_left _ (List.mem_append_left _ (List.mem_append_right _ h))))) (by decide +kernel))) (goodIn_sub (fun _ h => List.mem_cons_of_mem _ (List.mem_append_left _ (List.mem_append_left _ (List.mem_append_right _ h)))) (by decide +kernel))) (goodIn_sub (fun _ h => List.mem_cons_of_mem _ (List.mem_append_left _ (List.mem_append_right _ h))) (by decide +kernel))) (goodIn_sub (fun _ h => List.mem_cons_of_mem _ (List.mem_append_right _ h)) (by decide +kernel))
set_option maxRecDepth 20000 in
theorem gX8_move_X8_change : GoodIn wsX8_move (wsV RX8 78 RX8 yX8_change wsX8_change) := goodIn_app (goodIn_of _ (by decide +kernel)) ggX8_move_X8_change
theorem dX8_move_0 : decode cX8_move 0 = .ok (.aload_n 0, 1) := by decide +kernel
theorem dX8_move_1 : decode cX8_move 1 = .ok (.getstatic 94, 3) := by decide +kernel
theorem dX8_move_4 : decode cX8_move 4 = .ok (.iload_n 1, 1) := by decide +kernel
theorem dX8_move_5 : decode cX8_move 5 = .ok (.iload_n 2, 1) := by decide +kernel
theorem dX8_move_6 : decode cX8_move 6 = .ok (.iload_n 3, 1) := by decide +kernel
theorem dX8_move_7 : decode cX8_move 7 = .ok (.invokevirtual 78, 3) := by decide +kernel
theorem dX8_move_10 : decode cX8_move 10 = .ok (.ireturn, 1) := by decide +kernel
set_option maxRecDepth 20000 in
theorem ggX8_stain_X8_change : GoodIn wsX8_stain wsX8_change := goodIn_ca (goodIn_ca (goodIn_ca (goodIn_ca (goodIn_r _ [6, 7, 8, 9, 10, 11, 12, 13, 14, 15, 16, 17, 18, 19, 20, 21, 22, 23, 24, 25, 26, 27, 28, 29, 30, 31, 32, 33, 34, 35, 36, 37, 38, 39, 40, 41, 5, 42, 43, 44, 45, 46, 47, 48, 49, 50, 51, 52, 53, 54, 55, 56, 57, 58, 59, 60, 61, 62, 63, 64, 65, 66, 67, 68, 69, 70, 71, 72, 73, 74, 75, 76, 77, 78, 79, 80, 81, 82, 83, 84, 85, 86, 87, 88, 89, 90, 91, 92, 93, 94, 95, 96, 97, 98, 99, 100, 101, 102, 103, 104, 105, 106, 107, 108, 109, 110, 111, 112, 113, 114, 115, 116, 117, 118, 119, 120, 121, 122, 123, 124, 125, 126, 127, 128, 129, 130, 131, 132, 133, 134, 135, 136, 137, 138, 139, 140, 141, 142, 143, 144, 145, 146, 147, 148, 149, 150, 151, 152, 153, 154, 155, 156, 157, 158, 159, 160, 161, 162, 163, 164, 165, 166, 167, 168, 169, 170, 171, 172, 173, 174, 175, 176, 177, 178, 179, 180, 181, 182, 183, 184, 185, 186, 187, 188, 189, 190, 191, 192, 193, 194, 195, 196, 197, 198, 199, 200, 201, 202, 203, 204, 205, 206, 207, 208, 209, 210, 211, 212, 213, 214, 215, 216, 217, 218, 219, 220, 221, 222, 223, 224, 225, 226, 227, 228, 229, 230, 231, 232, 233, 234, 235, 236, 237, 238, 239, 240, 241, 242, 243, 244, 245, 246, 247, 248, 249, 250, 251, 252, 253, 254, 255, 256, 257, 258, 259, 260, 261, 262, 263, 264, 265, 266, 267, 268, 269, 270, 271, 272, 273, 274, 275, 276, 277, 278, 279, 280, 281, 282, 283, 284, 285, 286, 287, 288, 289, 290, 291, 292, 293, 294, 295, 296, 297, 298, 299, 300, 301, 302, 303] (by decide +kernel) (by decide +kernel)) (goodIn_sub (fun _ h => List.mem_cons_of_mem _ (List.mem_append_left _ (List.mem_append_left _ (List.mem_append_left _ (List.mem_append_right _ h))))) (by decide +kernel))) (goodIn_sub (fun _ h => List.mem_cons_of_mem _ (List.mem_append_left _ (List.mem_append_left _ (List.mem_append_right _ h)))) (by decide +kernel))) (goodIn_sub (fun _ h => List.mem_cons_of_mem _ (List.mem_append_left _ (List.mem_append_right _ h))) (by decide +kernel))) (goodIn_sub (fun _ h => List.mem_cons_of_mem _ (List.mem_append_right _ h)) (by decide +kernel))
set_option maxRecDepth 20000 in
theorem gX8_stain_X8_change : GoodIn wsX8_stain (wsV RX8 78 RX8 yX8_change wsX8_change) := goodIn_app (goodIn_of _ (by decide +kernel)) ggX8_stain_X8_change
theorem dX8_stain_0 : decode cX8_stain 0 = .ok (.aload_n 0, 1) := by decide +kernel
theorem dX8_stain_1 : decode cX8_stain 1 = .ok (.getstatic 97, 3) := by decide +kernel
theorem dX8_stain_4 : decode cX8_stain 4 = .ok (.iload_n 1, 1) := by decide +kernel
theorem dX8_stain_5 : decode cX8_stain 5 = .ok (.iload_n 2, 1) := by decide +kernel
theorem dX8_stain_6 : decode cX8_stain 6 = .ok (.iconst 0, 1) := by decide +kernel
theorem dX8_stain_7 : decode cX8_stain 7 = .ok (.invokevirtual 78, 3) := by decide +kernel
theorem dX8_stain_10 : decode cX8_stain 10 = .ok (.ireturn, 1) := by decide +kernel
set_option maxRecDepth 20000 in
theorem ggX8_wash_X8_change : GoodIn wsX8_wash wsX8_change := goodIn_ca (goodIn_ca (goodIn_ca (goodIn_ca (goodIn_r _ [6, 7, 8, 9, 10, 11, 12, 13, 14, 15, 16, 17, 18, 19, 20, 21, 22, 23, 24, 25, 26, 27, 28, 29, 30, 31, 32, 33, 34, 35, 36, 37, 38, 39, 40, 41, 5, 42, 43, 44, 45, 46, 47, 48, 49, 50, 51, 52, 53, 54, 55, 56, 57, 58, 59, 60, 61, 62, 63, 64, 65, 66, 67, 68, 69, 70, 71, 72, 73, 74, 75, 76, 77, 78, 79, 80, 81, 82, 83, 84, 85, 86, 87, 88, 89, 90, 91, 92, 93, 94, 95, 96, 97, 98, 99, 100, 101, 102, 103, 104, 105, 106, 107, 108, 109, 110, 111, 112, 113, 114, 115, 116, 117, 118, 119, 120, 121, 122, 123, 124, 125, 126, 127, 128, 129, 130, 131, 132, 133, 134, 135, 136, 137, 138, 139, 140, 141, 142, 143, 144, 145, 146, 147, 148, 149, 150, 151, 152, 153, 154, 155, 156, 157, 158, 159, 160, 161, 162, 163, 164, 165, 166, 167, 168, 169, 170, 171, 172, 173, 174, 175, 176, 177, 178, 179, 180, 181, 182, 183, 184, 185, 186, 187, 188, 189, 190, 191, 192, 193, 194, 195, 196, 197, 198, 199, 200, 201, 202, 203, 204, 205, 206, 207, 208, 209, 210, 211, 212, 213, 214, 215, 216, 217, 218, 219, 220, 221, 222, 223, 224, 225, 226, 227, 228, 229, 230, 231, 232, 233, 234, 235, 236, 237, 238, 239, 240, 241, 242, 243, 244, 245, 246, 247, 248, 249, 250, 251, 252, 253, 254, 255, 256, 257, 258, 259, 260, 261, 262, 263, 264, 265, 266, 267, 268, 269, 270, 271, 272, 273, 274, 275, 276, 277, 278, 279, 280, 281, 282, 283, 284, 285, 286, 287, 288, 289, 290, 291, 292, 293, 294, 295, 296, 297, 298, 299, 300, 301, 302, 303] (by decide +kernel) (by decide +kernel)) (goodIn_sub (fun _ h => List.mem_cons_of_mem _ (List.mem_append_left _ (List.mem_append_left _ (List.mem_append_left _ (List.mem_append_right _ h))))) (by decide +kernel))) (goodIn_sub (fun _ h => List.mem_cons_of_mem _ (List.mem_append_left _ (List.mem_append_left _ (List.mem_append_right _ h)))) (by decide +kernel))) (goodIn_sub (fun _ h => List.mem_cons_of_mem _ (List.mem_append_left _ (List.mem_append_right _ h))) (by decide +kernel))) (goodIn_sub (fun _ h => List.mem_cons_of_mem _ (List.mem_append_right _ h)) (by decide +kernel))
set_option maxRecDepth 20000 in
theorem gX8_wash_X8_change : GoodIn wsX8_wash (wsV RX8 78 RX8 yX8_change wsX8_change) := goodIn_app (goodIn_of _ (by decide +kernel)) ggX8_wash_X8_change
theorem dX8_wash_0 : decode cX8_wash 0 = .ok (.aload_n 0, 1) := by decide +kernel
theorem dX8_wash_1 : decode cX8_wash 1 = .ok (.getstatic 100, 3) := by decide +kernel
theorem dX8_wash_4 : decode cX8_wash 4 = .ok (.iload_n 1, 1) := by decide +kernel
theorem dX8_wash_5 : decode cX8_wash 5 = .ok (.iconst 0, 1) := by decide +kernel
theorem dX8_wash_6 : decode cX8_wash 6 = .ok (.iconst 0, 1) := by decide +kernel
theorem dX8_wash_7 : decode cX8_wash 7 = .ok (.invokevirtual 78, 3) := by decide +kernel
theorem dX8_wash_10 : decode cX8_wash 10 = .ok (.ireturn, 1) := by decide +kernel
set_option maxRecDepth 20000 in
theorem ggX8_host_X8_change : GoodIn wsX8_host wsX8_change := goodIn_ca (goodIn_ca (goodIn_ca (goodIn_ca (goodIn_r _ [6, 7, 8, 9, 10, 11, 12, 13, 14, 15, 16, 17, 18, 19, 20, 21, 22, 23, 24, 25, 26, 27, 28, 29, 30, 31, 32, 33, 34, 35, 36, 37, 38, 39, 40, 41, 5, 42, 43, 44, 45, 46, 47, 48, 49, 50, 51, 52, 53, 54, 55, 56, 57, 58, 59, 60, 61, 62, 63, 64, 65, 66, 67, 68, 69, 70, 71, 72, 73, 74, 75, 76, 77, 78, 79, 80, 81, 82, 83, 84, 85, 86, 87, 88, 89, 90, 91, 92, 93, 94, 95, 96, 97, 98, 99, 100, 101, 102, 103, 104, 105, 106, 107, 108, 109, 110, 111, 112, 113, 114, 115, 116, 117, 118, 119, 120, 121, 122, 123, 124, 125, 126, 127, 128, 129, 130, 131, 132, 133, 134, 135, 136, 137, 138, 139, 140, 141, 142, 143, 144, 145, 146, 147, 148, 149, 150, 151, 152, 153, 154, 155, 156, 157, 158, 159, 160, 161, 162, 163, 164, 165, 166, 167, 168, 169, 170, 171, 172, 173, 174, 175, 176, 177, 178, 179, 180, 181, 182, 183, 184, 185, 186, 187, 188, 189, 190, 191, 192, 193, 194, 195, 196, 197, 198, 199, 200, 201, 202, 203, 204, 205, 206, 207, 208, 209, 210, 211, 212, 213, 214, 215, 216, 217, 218, 219, 220, 221, 222, 223, 224, 225, 226, 227, 228, 229, 230, 231, 232, 233, 234, 235, 236, 237, 238, 239, 240, 241, 242, 243, 244, 245, 246, 247, 248, 249, 250, 251, 252, 253, 254, 255, 256, 257, 258, 259, 260, 261, 262, 263, 264, 265, 266, 267, 268, 269, 270, 271, 272, 273, 274, 275, 276, 277, 278, 279, 280, 281, 282, 283, 284, 285, 286, 287, 288, 289, 290, 291, 292, 293, 294, 295, 296, 297, 298, 299, 300, 301, 302, 303] (by decide +kernel) (by decide +kernel)) (goodIn_sub (fun _ h => List.mem_cons_of_mem _ (List.mem_append_left _ (List.mem_append_left _ (List.mem_append_left _ (List.mem_append_right _ h))))) (by decide +kernel))) (goodIn_sub (fun _ h => List.mem_cons_of_mem _ (List.mem_append_left _ (List.mem_append_left _ (List.mem_append_right _ h)))) (by decide +kernel))) (goodIn_sub (fun _ h => List.mem_cons_of_mem _ (List.mem_append_left _ (List.mem_append_right _ h))) (by decide +kernel))) (goodIn_sub (fun _ h => List.mem_cons_of_mem _ (List.mem_append_right _ h)) (by decide +kernel))
set_option maxRecDepth 20000 in
theorem gX8_host_X8_change : GoodIn wsX8_host (wsV RX8 78 RX8 yX8_change wsX8_change) := goodIn_app (goodIn_of _ (by decide +kernel)) ggX8_host_X8_change
theorem dX8_host_0 : decode cX8_host 0 = .ok (.aload_n 0, 1) := by decide +kernel
theorem dX8_host_1 : decode cX8_host 1 = .ok (.getstatic 103, 3) := by decide +kernel
theorem dX8_host_4 : decode cX8_host 4 = .ok (.iload_n 1, 1) := by decide +kernel
theorem dX8_host_5 : decode cX8_host 5 = .ok (.iconst 0, 1) := by decide +kernel
theorem dX8_host_6 : decode cX8_host 6 = .ok (.iconst 0, 1) := by decide +kernel
theorem dX8_host_7 : decode cX8_host 7 = .ok (.invokevirtual 78, 3) := by decide +kernel
theorem dX8_host_10 : decode cX8_host 10 = .ok (.ireturn, 1) := by decide +kernel
set_option maxRecDepth 20000 in
theorem ggX8_napkinOf_X6_hasNapkin : GoodIn wsX8_napkinOf wsX6_hasNapkin := goodIn_ca (goodIn_r _ [10, 11, 60] (by decide +kernel) (by decide +kernel)) (goodIn_sub (fun _ h => List.mem_cons_of_mem _ (List.mem_append_right _ h)) (by decide +kernel))
set_option maxRecDepth 20000 in
theorem gX8_napkinOf_X6_hasNapkin : GoodIn wsX8_napkinOf (wsV RX8 106 RX6 yX6_hasNapkin wsX6_hasNapkin) := goodIn_app (goodIn_of _ (by decide +kernel)) ggX8_napkinOf_X6_hasNapkin
set_option maxRecDepth 20000 in
theorem ggX8_napkinOf_X6_colourOf : GoodIn wsX8_napkinOf wsX6_colourOf := goodIn_ca (goodIn_r _ [15, 16, 17, 18, 9, 19, 11, 60] (by decide +kernel) (by decide +kernel)) (goodIn_sub (fun _ h => List.mem_cons_of_mem _ (List.mem_append_right _ h)) (by decide +kernel))
set_option maxRecDepth 20000 in
theorem gX8_napkinOf_X6_colourOf : GoodIn wsX8_napkinOf (wsV RX8 117 RX6 yX6_colourOf wsX6_colourOf) := goodIn_app (goodIn_of _ (by decide +kernel)) ggX8_napkinOf_X6_colourOf
set_option maxRecDepth 20000 in
theorem ggX8_napkinOf_X6_foldOf : GoodIn wsX8_napkinOf wsX6_foldOf := goodIn_ca (goodIn_r _ [23, 16, 17, 18, 9, 19, 11, 60] (by decide +kernel) (by decide +kernel)) (goodIn_sub (fun _ h => List.mem_cons_of_mem _ (List.mem_append_right _ h)) (by decide +kernel))
set_option maxRecDepth 20000 in
theorem gX8_napkinOf_X6_foldOf : GoodIn wsX8_napkinOf (wsV RX8 121 RX6 yX6_foldOf wsX6_foldOf) := goodIn_app (goodIn_of _ (by decide +kernel)) ggX8_napkinOf_X6_foldOf
set_option maxRecDepth 20000 in
theorem ggX8_napkinOf_X6_creasesOf : GoodIn wsX8_napkinOf wsX6_creasesOf := goodIn_ca (goodIn_r _ [27, 16, 17, 18, 9, 19, 11, 60] (by decide +kernel) (by decide +kernel)) (goodIn_sub (fun _ h => List.mem_cons_of_mem _ (List.mem_append_right _ h)) (by decide +kernel))
set_option maxRecDepth 20000 in
theorem gX8_napkinOf_X6_creasesOf : GoodIn wsX8_napkinOf (wsV RX8 124 RX6 yX6_creasesOf wsX6_creasesOf) := goodIn_app (goodIn_of _ (by decide +kernel)) ggX8_napkinOf_X6_creasesOf
set_option maxRecDepth 20000 in
theorem ggX8_napkinOf_X6_stainsOf : GoodIn wsX8_napkinOf wsX6_stainsOf := goodIn_ca (goodIn_r _ [31, 16, 17, 18, 9, 19, 11, 60] (by decide +kernel) (by decide +kernel)) (goodIn_sub (fun _ h => List.mem_cons_of_mem _ (List.mem_append_right _ h)) (by decide +kernel))
set_option maxRecDepth 20000 in
theorem gX8_napkinOf_X6_stainsOf : GoodIn wsX8_napkinOf (wsV RX8 127 RX6 yX6_stainsOf wsX6_stainsOf) := goodIn_app (goodIn_of _ (by decide +kernel)) ggX8_napkinOf_X6_stainsOf
set_option maxRecDepth 20000 in
theorem ggX8_napkinOf_X6_tableUnder : GoodIn wsX8_napkinOf wsX6_tableUnder := goodIn_ca (goodIn_r _ [35, 36, 37, 38, 9, 39, 11, 60] (by decide +kernel) (by decide +kernel)) (goodIn_sub (fun _ h => List.mem_cons_of_mem _ (List.mem_append_right _ h)) (by decide +kernel))
set_option maxRecDepth 20000 in
theorem gX8_napkinOf_X6_tableUnder : GoodIn wsX8_napkinOf (wsV RX8 130 RX6 yX6_tableUnder wsX6_tableUnder) := goodIn_app (goodIn_of _ (by decide +kernel)) ggX8_napkinOf_X6_tableUnder
set_option maxRecDepth 20000 in
theorem ggX8_napkinOf_X6_placeUnder : GoodIn wsX8_napkinOf wsX6_placeUnder := goodIn_ca (goodIn_r _ [43, 36, 37, 38, 9, 39, 11, 60] (by decide +kernel) (by decide +kernel)) (goodIn_sub (fun _ h => List.mem_cons_of_mem _ (List.mem_append_right _ h)) (by decide +kernel))
set_option maxRecDepth 20000 in
theorem gX8_napkinOf_X6_placeUnder : GoodIn wsX8_napkinOf (wsV RX8 133 RX6 yX6_placeUnder wsX6_placeUnder) := goodIn_app (goodIn_of _ (by decide +kernel)) ggX8_napkinOf_X6_placeUnder
set_option maxRecDepth 20000 in
theorem ggX8_napkinOf_X6_foldingsOf : GoodIn wsX8_napkinOf wsX6_foldingsOf := goodIn_ca (goodIn_r _ [47, 16, 17, 18, 9, 19, 11, 60] (by decide +kernel) (by decide +kernel)) (goodIn_sub (fun _ h => List.mem_cons_of_mem _ (List.mem_append_right _ h)) (by decide +kernel))
set_option maxRecDepth 20000 in
theorem gX8_napkinOf_X6_foldingsOf : GoodIn wsX8_napkinOf (wsV RX8 136 RX6 yX6_foldingsOf wsX6_foldingsOf) := goodIn_app (goodIn_of _ (by decide +kernel)) ggX8_napkinOf_X6_foldingsOf
theorem dX8_napkinOf_0 : decode cX8_napkinOf 0 = .ok (.aload_n 0, 1) := by decide +kernel
theorem dX8_napkinOf_1 : decode cX8_napkinOf 1 = .ok (.getfield 20, 3) := by decide +kernel
theorem dX8_napkinOf_4 : decode cX8_napkinOf 4 = .ok (.iload_n 1, 1) := by decide +kernel
theorem dX8_napkinOf_5 : decode cX8_napkinOf 5 = .ok (.invokevirtual 106, 3) := by decide +kernel
theorem dX8_napkinOf_8 : decode cX8_napkinOf 8 = .ok (.ifCond .ne 13, 3) := by decide +kernel
theorem dX8_napkinOf_11 : decode cX8_napkinOf 11 = .ok (.new 110, 3) := by decide +kernel
theorem dX8_napkinOf_14 : decode cX8_napkinOf 14 = .ok (.dup, 1) := by decide +kernel
theorem dX8_napkinOf_15 : decode cX8_napkinOf 15 = .ok (.ldc 112, 2) := by decide +kernel
theorem dX8_napkinOf_17 : decode cX8_napkinOf 17 = .ok (.invokespecial 114, 3) := by decide +kernel
theorem dX8_napkinOf_20 : decode cX8_napkinOf 20 = .ok (.athrow, 1) := by decide +kernel
theorem dX8_napkinOf_21 : decode cX8_napkinOf 21 = .ok (.iload_n 2, 1) := by decide +kernel
theorem dX8_napkinOf_22 : decode cX8_napkinOf 22 = .ok (.tableswitch 105 0 6 #[42, 51, 60, 69, 78, 87, 96], 42) := by decide +kernel
theorem dX8_napkinOf_64 : decode cX8_napkinOf 64 = .ok (.aload_n 0, 1) := by decide +kernel
theorem dX8_napkinOf_65 : decode cX8_napkinOf 65 = .ok (.getfield 20, 3) := by decide +kernel
theorem dX8_napkinOf_68 : decode cX8_napkinOf 68 = .ok (.iload_n 1, 1) := by decide +kernel
theorem dX8_napkinOf_69 : decode cX8_napkinOf 69 = .ok (.invokevirtual 117, 3) := by decide +kernel
theorem dX8_napkinOf_72 : decode cX8_napkinOf 72 = .ok (.ireturn, 1) := by decide +kernel
theorem dX8_napkinOf_73 : decode cX8_napkinOf 73 = .ok (.aload_n 0, 1) := by decide +kernel
theorem dX8_napkinOf_74 : decode cX8_napkinOf 74 = .ok (.getfield 20, 3) := by decide +kernel
theorem dX8_napkinOf_77 : decode cX8_napkinOf 77 = .ok (.iload_n 1, 1) := by decide +kernel
theorem dX8_napkinOf_78 : decode cX8_napkinOf 78 = .ok (.invokevirtual 121, 3) := by decide +kernel
theorem dX8_napkinOf_81 : decode cX8_napkinOf 81 = .ok (.ireturn, 1) := by decide +kernel
theorem dX8_napkinOf_82 : decode cX8_napkinOf 82 = .ok (.aload_n 0, 1) := by decide +kernel
theorem dX8_napkinOf_83 : decode cX8_napkinOf 83 = .ok (.getfield 20, 3) := by decide +kernel
theorem dX8_napkinOf_86 : decode cX8_napkinOf 86 = .ok (.iload_n 1, 1) := by decide +kernel
theorem dX8_napkinOf_87 : decode cX8_napkinOf 87 = .ok (.invokevirtual 124, 3) := by decide +kernel
theorem dX8_napkinOf_90 : decode cX8_napkinOf 90 = .ok (.ireturn, 1) := by decide +kernel
theorem dX8_napkinOf_91 : decode cX8_napkinOf 91 = .ok (.aload_n 0, 1) := by decide +kernel
theorem dX8_napkinOf_92 : decode cX8_napkinOf 92 = .ok (.getfield 20, 3) := by decide +kernel
theorem dX8_napkinOf_95 : decode cX8_napkinOf 95 = .ok (.iload_n 1, 1) := by decide +kernel
theorem dX8_napkinOf_96 : decode cX8_napkinOf 96 = .ok (.invokevirtual 127, 3) := by decide +kernel
theorem dX8_napkinOf_99 : decode cX8_napkinOf 99 = .ok (.ireturn, 1) := by decide +kernel
theorem dX8_napkinOf_100 : decode cX8_napkinOf 100 = .ok (.aload_n 0, 1) := by decide +kernel
theorem dX8_napkinOf_101 : decode cX8_napkinOf 101 = .ok (.getfield 20, 3) := by decide +kernel
theorem dX8_napkinOf_104 : decode cX8_napkinOf 104 = .ok (.iload_n 1, 1) := by decide +kernel
theorem dX8_napkinOf_105 : decode cX8_napkinOf 105 = .ok (.invokevirtual 130, 3) := by decide +kernel
theorem dX8_napkinOf_108 : decode cX8_napkinOf 108 = .ok (.ireturn, 1) := by decide +kernel
theorem dX8_napkinOf_109 : decode cX8_napkinOf 109 = .ok (.aload_n 0, 1) := by decide +kernel
theorem dX8_napkinOf_110 : decode cX8_napkinOf 110 = .ok (.getfield 20, 3) := by decide +kernel
theorem dX8_napkinOf_113 : decode cX8_napkinOf 113 = .ok (.iload_n 1, 1) := by decide +kernel
theorem dX8_napkinOf_114 : decode cX8_napkinOf 114 = .ok (.invokevirtual 133, 3) := by decide +kernel
theorem dX8_napkinOf_117 : decode cX8_napkinOf 117 = .ok (.ireturn, 1) := by decide +kernel
theorem dX8_napkinOf_118 : decode cX8_napkinOf 118 = .ok (.aload_n 0, 1) := by decide +kernel
theorem dX8_napkinOf_119 : decode cX8_napkinOf 119 = .ok (.getfield 20, 3) := by decide +kernel
theorem dX8_napkinOf_122 : decode cX8_napkinOf 122 = .ok (.iload_n 1, 1) := by decide +kernel
theorem dX8_napkinOf_123 : decode cX8_napkinOf 123 = .ok (.invokevirtual 136, 3) := by decide +kernel
theorem dX8_napkinOf_126 : decode cX8_napkinOf 126 = .ok (.ireturn, 1) := by decide +kernel
theorem dX8_napkinOf_127 : decode cX8_napkinOf 127 = .ok (.new 139, 3) := by decide +kernel
theorem dX8_napkinOf_130 : decode cX8_napkinOf 130 = .ok (.dup, 1) := by decide +kernel
theorem dX8_napkinOf_131 : decode cX8_napkinOf 131 = .ok (.ldc 141, 2) := by decide +kernel
theorem dX8_napkinOf_133 : decode cX8_napkinOf 133 = .ok (.invokespecial 143, 3) := by decide +kernel
theorem dX8_napkinOf_136 : decode cX8_napkinOf 136 = .ok (.athrow, 1) := by decide +kernel
set_option maxRecDepth 20000 in
theorem ggX8_tableOf_X8_checkTable : GoodIn wsX8_tableOf wsX8_checkTable := goodIn_ca (goodIn_r _ [8, 9, 10, 11, 12, 7, 13] (by decide +kernel) (by decide +kernel)) (goodIn_sub (fun _ h => List.mem_cons_of_mem _ (List.mem_append_left _ (List.mem_append_right _ h))) (by decide +kernel))
set_option maxRecDepth 20000 in
theorem gX8_tableOf_X8_checkTable : GoodIn wsX8_tableOf (wsV RX8 144 RX8 yX8_checkTable wsX8_checkTable) := goodIn_app (goodIn_of _ (by decide +kernel)) ggX8_tableOf_X8_checkTable
set_option maxRecDepth 20000 in
theorem ggX8_tableOf_X6_laidOn : GoodIn wsX8_tableOf wsX6_laidOn := goodIn_ca (goodIn_r _ [18, 19, 20, 21, 17, 22, 23, 95] (by decide +kernel) (by decide +kernel)) (goodIn_sub (fun _ h => List.mem_cons_of_mem _ (List.mem_append_right _ h)) (by decide +kernel))
set_option maxRecDepth 20000 in
theorem gX8_tableOf_X6_laidOn : GoodIn wsX8_tableOf (wsV RX8 148 RX6 yX6_laidOn wsX6_laidOn) := goodIn_app (goodIn_of _ (by decide +kernel)) ggX8_tableOf_X6_laidOn
set_option maxRecDepth 20000 in
theorem ggX8_tableOf_X8_heard : GoodIn wsX8_tableOf wsX8_heard := goodIn_ca (goodIn_r _ [27, 28, 3, 29, 30, 31, 32, 33, 34, 35, 36, 37, 38, 39, 15, 16, 17, 18, 19, 20, 21, 22, 23, 40, 41, 42, 43, 44, 45, 46, 47, 48, 49, 50, 51, 52, 53, 54, 55, 56, 57, 58, 59, 60, 61, 62, 83, 84, 85, 86, 87, 88, 89, 90, 91, 92, 93, 94, 96, 97, 98, 99, 100, 101, 102, 95] (by decide +kernel) (by decide +kernel)) (goodIn_sub (fun _ h => List.mem_cons_of_mem _ (List.mem_append_right _ h)) (by decide +kernel))
set_option maxRecDepth 20000 in
theorem gX8_tableOf_X8_heard : GoodIn wsX8_tableOf (wsV RX8 151 RX8 yX8_heard wsX8_heard) := goodIn_app (goodIn_of _ (by decide +kernel)) ggX8_tableOf_X8_heard
set_option maxRecDepth 20000 in
theorem ggX8_tableOf_X4_size : GoodIn wsX8_tableOf wsX4_size := goodIn_r _ [66, 34, 96, 97, 98, 99, 100, 101, 102] (by decide +kernel) (by decide +kernel)
set_option maxRecDepth 20000 in
theorem gX8_tableOf_X4_size : GoodIn wsX8_tableOf (wsV RX8 155 RX4 yX4_size wsX4_size) := goodIn_app (goodIn_of _ (by decide +kernel)) ggX8_tableOf_X4_size
set_option maxRecDepth 20000 in
theorem ggX8_tableOf_X4_countOf : GoodIn wsX8_tableOf wsX4_countOf := goodIn_ca (goodIn_r _ [70, 34, 71, 72, 73, 32, 74, 36, 96, 97, 98, 99, 100, 101, 102] (by decide +kernel) (by decide +kernel)) (goodIn_sub (fun _ h => List.mem_cons_of_mem _ (List.mem_append_right _ h)) (by decide +kernel))
set_option maxRecDepth 20000 in
theorem gX8_tableOf_X4_countOf : GoodIn wsX8_tableOf (wsV RX8 161 RX4 yX4_countOf wsX4_countOf) := goodIn_app (goodIn_of _ (by decide +kernel)) ggX8_tableOf_X4_countOf
set_option maxRecDepth 20000 in
theorem ggX8_tableOf_X6_readingsOf : GoodIn wsX8_tableOf wsX6_readingsOf := goodIn_ca (goodIn_r _ [78, 19, 20, 21, 17, 22, 23, 95] (by decide +kernel) (by decide +kernel)) (goodIn_sub (fun _ h => List.mem_cons_of_mem _ (List.mem_append_right _ h)) (by decide +kernel))
set_option maxRecDepth 20000 in
theorem gX8_tableOf_X6_readingsOf : GoodIn wsX8_tableOf (wsV RX8 164 RX6 yX6_readingsOf wsX6_readingsOf) := goodIn_app (goodIn_of _ (by decide +kernel)) ggX8_tableOf_X6_readingsOf
set_option maxRecDepth 20000 in
theorem ggX8_tableOf_X6_puzzlesOf : GoodIn wsX8_tableOf wsX6_puzzlesOf := goodIn_ca (goodIn_r _ [82, 19, 20, 21, 17, 22, 23, 95] (by decide +kernel) (by decide +kernel)) (goodIn_sub (fun _ h => List.mem_cons_of_mem _ (List.mem_append_right _ h)) (by decide +kernel))
set_option maxRecDepth 20000 in
theorem gX8_tableOf_X6_puzzlesOf : GoodIn wsX8_tableOf (wsV RX8 167 RX6 yX6_puzzlesOf wsX6_puzzlesOf) := goodIn_app (goodIn_of _ (by decide +kernel)) ggX8_tableOf_X6_puzzlesOf
theorem dX8_tableOf_0 : decode cX8_tableOf 0 = .ok (.aload_n 0, 1) := by decide +kernel
theorem dX8_tableOf_1 : decode cX8_tableOf 1 = .ok (.iload_n 1, 1) := by decide +kernel
theorem dX8_tableOf_2 : decode cX8_tableOf 2 = .ok (.invokevirtual 144, 3) := by decide +kernel
theorem dX8_tableOf_5 : decode cX8_tableOf 5 = .ok (.iload_n 2, 1) := by decide +kernel
theorem dX8_tableOf_6 : decode cX8_tableOf 6 = .ok (.tableswitch 94 0 5 #[38, 47, 56, 66, 76, 85], 38) := by decide +kernel
theorem dX8_tableOf_44 : decode cX8_tableOf 44 = .ok (.aload_n 0, 1) := by decide +kernel
theorem dX8_tableOf_45 : decode cX8_tableOf 45 = .ok (.getfield 20, 3) := by decide +kernel
theorem dX8_tableOf_48 : decode cX8_tableOf 48 = .ok (.iload_n 1, 1) := by decide +kernel
theorem dX8_tableOf_49 : decode cX8_tableOf 49 = .ok (.invokevirtual 148, 3) := by decide +kernel
theorem dX8_tableOf_52 : decode cX8_tableOf 52 = .ok (.ireturn, 1) := by decide +kernel
theorem dX8_tableOf_53 : decode cX8_tableOf 53 = .ok (.aload_n 0, 1) := by decide +kernel
theorem dX8_tableOf_54 : decode cX8_tableOf 54 = .ok (.iload_n 1, 1) := by decide +kernel
theorem dX8_tableOf_55 : decode cX8_tableOf 55 = .ok (.invokevirtual 151, 3) := by decide +kernel
theorem dX8_tableOf_58 : decode cX8_tableOf 58 = .ok (.invokevirtual 155, 3) := by decide +kernel
theorem dX8_tableOf_61 : decode cX8_tableOf 61 = .ok (.ireturn, 1) := by decide +kernel
theorem dX8_tableOf_62 : decode cX8_tableOf 62 = .ok (.aload_n 0, 1) := by decide +kernel
theorem dX8_tableOf_63 : decode cX8_tableOf 63 = .ok (.iload_n 1, 1) := by decide +kernel
theorem dX8_tableOf_64 : decode cX8_tableOf 64 = .ok (.invokevirtual 151, 3) := by decide +kernel
theorem dX8_tableOf_67 : decode cX8_tableOf 67 = .ok (.iconst 1, 1) := by decide +kernel
theorem dX8_tableOf_68 : decode cX8_tableOf 68 = .ok (.invokevirtual 161, 3) := by decide +kernel
theorem dX8_tableOf_71 : decode cX8_tableOf 71 = .ok (.ireturn, 1) := by decide +kernel
theorem dX8_tableOf_72 : decode cX8_tableOf 72 = .ok (.aload_n 0, 1) := by decide +kernel
theorem dX8_tableOf_73 : decode cX8_tableOf 73 = .ok (.iload_n 1, 1) := by decide +kernel
theorem dX8_tableOf_74 : decode cX8_tableOf 74 = .ok (.invokevirtual 151, 3) := by decide +kernel
theorem dX8_tableOf_77 : decode cX8_tableOf 77 = .ok (.iconst 4, 1) := by decide +kernel
theorem dX8_tableOf_78 : decode cX8_tableOf 78 = .ok (.invokevirtual 161, 3) := by decide +kernel
theorem dX8_tableOf_81 : decode cX8_tableOf 81 = .ok (.ireturn, 1) := by decide +kernel
theorem dX8_tableOf_82 : decode cX8_tableOf 82 = .ok (.aload_n 0, 1) := by decide +kernel
theorem dX8_tableOf_83 : decode cX8_tableOf 83 = .ok (.getfield 20, 3) := by decide +kernel
theorem dX8_tableOf_86 : decode cX8_tableOf 86 = .ok (.iload_n 1, 1) := by decide +kernel
theorem dX8_tableOf_87 : decode cX8_tableOf 87 = .ok (.invokevirtual 164, 3) := by decide +kernel
theorem dX8_tableOf_90 : decode cX8_tableOf 90 = .ok (.ireturn, 1) := by decide +kernel
theorem dX8_tableOf_91 : decode cX8_tableOf 91 = .ok (.aload_n 0, 1) := by decide +kernel
theorem dX8_tableOf_92 : decode cX8_tableOf 92 = .ok (.getfield 20, 3) := by decide +kernel
theorem dX8_tableOf_95 : decode cX8_tableOf 95 = .ok (.iload_n 1, 1) := by decide +kernel
theorem dX8_tableOf_96 : decode cX8_tableOf 96 = .ok (.invokevirtual 167, 3) := by decide +kernel
theorem dX8_tableOf_99 : decode cX8_tableOf 99 = .ok (.ireturn, 1) := by decide +kernel
theorem dX8_tableOf_100 : decode cX8_tableOf 100 = .ok (.new 139, 3) := by decide +kernel
theorem dX8_tableOf_103 : decode cX8_tableOf 103 = .ok (.dup, 1) := by decide +kernel
theorem dX8_tableOf_104 : decode cX8_tableOf 104 = .ok (.ldc 170, 2) := by decide +kernel
theorem dX8_tableOf_106 : decode cX8_tableOf 106 = .ok (.invokespecial 143, 3) := by decide +kernel
theorem dX8_tableOf_109 : decode cX8_tableOf 109 = .ok (.athrow, 1) := by decide +kernel
set_option maxRecDepth 20000 in
theorem ggX8_wrong_X8_checkTable : GoodIn wsX8_wrong wsX8_checkTable := goodIn_ca (goodIn_r _ [5, 6, 7, 8, 9, 4, 10] (by decide +kernel) (by decide +kernel)) (goodIn_sub (fun _ h => List.mem_cons_of_mem _ (List.mem_append_left _ (List.mem_append_right _ h))) (by decide +kernel))
set_option maxRecDepth 20000 in
theorem gX8_wrong_X8_checkTable : GoodIn wsX8_wrong (wsV RX8 144 RX8 yX8_checkTable wsX8_checkTable) := goodIn_app (goodIn_of _ (by decide +kernel)) ggX8_wrong_X8_checkTable
set_option maxRecDepth 20000 in
theorem ggX8_wrong_X8_heard : GoodIn wsX8_wrong wsX8_heard := goodIn_ca (goodIn_r _ [14, 15, 16, 17, 18, 19, 20, 21, 22, 23, 24, 25, 26, 27, 28, 29, 30, 31, 32, 33, 34, 35, 36, 37, 38, 39, 40, 41, 42, 43, 44, 45, 46, 47, 48, 49, 50, 51, 52, 53, 54, 55, 56, 57, 58, 59, 74, 75, 76, 77, 78, 79, 80, 81, 82, 83, 84, 85, 86, 87, 88, 89, 90, 91, 92, 93] (by decide +kernel) (by decide +kernel)) (goodIn_sub (fun _ h => List.mem_cons_of_mem _ (List.mem_append_right _ h)) (by decide +kernel))
set_option maxRecDepth 20000 in
theorem gX8_wrong_X8_heard : GoodIn wsX8_wrong (wsV RX8 151 RX8 yX8_heard wsX8_heard) := goodIn_app (goodIn_of _ (by decide +kernel)) ggX8_wrong_X8_heard
set_option maxRecDepth 20000 in
theorem ggX8_wrong_X4_errorByNapkins : GoodIn wsX8_wrong wsX4_errorByNapkins := goodIn_ca (goodIn_r _ [63, 22, 64, 65, 66, 20, 67, 24, 68, 69, 70, 71, 72, 73, 86, 87, 88, 89, 90, 91, 92] (by decide +kernel) (by decide +kernel)) (goodIn_sub (fun _ h => List.mem_cons_of_mem _ (List.mem_append_right _ h)) (by decide +kernel))
set_option maxRecDepth 20000 in
theorem gX8_wrong_X4_errorByNapkins : GoodIn wsX8_wrong (wsV RX8 190 RX4 yX4_errorByNapkins wsX4_errorByNapkins) := goodIn_app (goodIn_of _ (by decide +kernel)) ggX8_wrong_X4_errorByNapkins
theorem dX8_wrong_0 : decode cX8_wrong 0 = .ok (.aload_n 0, 1) := by decide +kernel
theorem dX8_wrong_1 : decode cX8_wrong 1 = .ok (.iload_n 1, 1) := by decide +kernel
theorem dX8_wrong_2 : decode cX8_wrong 2 = .ok (.invokevirtual 144, 3) := by decide +kernel
theorem dX8_wrong_5 : decode cX8_wrong 5 = .ok (.aload_n 0, 1) := by decide +kernel
theorem dX8_wrong_6 : decode cX8_wrong 6 = .ok (.iload_n 1, 1) := by decide +kernel
theorem dX8_wrong_7 : decode cX8_wrong 7 = .ok (.invokevirtual 151, 3) := by decide +kernel
theorem dX8_wrong_10 : decode cX8_wrong 10 = .ok (.invokevirtual 190, 3) := by decide +kernel
theorem dX8_wrong_13 : decode cX8_wrong 13 = .ok (.ireturn, 1) := by decide +kernel
set_option maxRecDepth 20000 in
theorem ggX8_wrongAgain_X8_checkTable : GoodIn wsX8_wrongAgain wsX8_checkTable := goodIn_ca (goodIn_r _ [5, 6, 7, 8, 9, 4, 10] (by decide +kernel) (by decide +kernel)) (goodIn_sub (fun _ h => List.mem_cons_of_mem _ (List.mem_append_left _ (List.mem_append_right _ h))) (by decide +kernel))
set_option maxRecDepth 20000 in
theorem gX8_wrongAgain_X8_checkTable : GoodIn wsX8_wrongAgain (wsV RX8 144 RX8 yX8_checkTable wsX8_checkTable) := goodIn_app (goodIn_of _ (by decide +kernel)) ggX8_wrongAgain_X8_checkTable
set_option maxRecDepth 20000 in
theorem ggX8_wrongAgain_X8_heard : GoodIn wsX8_wrongAgain wsX8_heard := goodIn_ca (goodIn_r _ [14, 15, 16, 17, 18, 19, 20, 21, 22, 23, 24, 25, 26, 27, 28, 29, 30, 31, 32, 33, 34, 35, 36, 37, 38, 39, 40, 41, 42, 43, 44, 45, 46, 47, 48, 49, 50, 51, 52, 53, 54, 55, 56, 57, 58, 59, 80, 81, 82, 83, 84, 85, 86, 87, 88, 89, 90, 91, 92, 93, 94, 95, 96, 97, 98, 99] (by decide +kernel) (by decide +kernel)) (goodIn_sub (fun _ h => List.mem_cons_of_mem _ (List.mem_append_right _ h)) (by decide +kernel))
set_option maxRecDepth 20000 in
theorem gX8_wrongAgain_X8_heard : GoodIn wsX8_wrongAgain (wsV RX8 151 RX8 yX8_heard wsX8_heard) := goodIn_app (goodIn_of _ (by decide +kernel)) ggX8_wrongAgain_X8_heard
set_option maxRecDepth 20000 in
theorem ggX8_wrongAgain_X4_errorByPhrases : GoodIn wsX8_wrongAgain wsX4_errorByPhrases := goodIn_ca (goodIn_r _ [63, 22, 64, 65, 66, 20, 67, 68, 69, 70, 71, 24, 72, 73, 74, 75, 76, 77, 78, 79, 92, 93, 94, 95, 96, 97, 98] (by decide +kernel) (by decide +kernel)) (goodIn_sub (fun _ h => List.mem_cons_of_mem _ (List.mem_append_right _ h)) (by decide +kernel))
set_option maxRecDepth 20000 in
theorem gX8_wrongAgain_X4_errorByPhrases : GoodIn wsX8_wrongAgain (wsV RX8 193 RX4 yX4_errorByPhrases wsX4_errorByPhrases) := goodIn_app (goodIn_of _ (by decide +kernel)) ggX8_wrongAgain_X4_errorByPhrases
theorem dX8_wrongAgain_0 : decode cX8_wrongAgain 0 = .ok (.aload_n 0, 1) := by decide +kernel
theorem dX8_wrongAgain_1 : decode cX8_wrongAgain 1 = .ok (.iload_n 1, 1) := by decide +kernel
theorem dX8_wrongAgain_2 : decode cX8_wrongAgain 2 = .ok (.invokevirtual 144, 3) := by decide +kernel
theorem dX8_wrongAgain_5 : decode cX8_wrongAgain 5 = .ok (.aload_n 0, 1) := by decide +kernel
theorem dX8_wrongAgain_6 : decode cX8_wrongAgain 6 = .ok (.iload_n 1, 1) := by decide +kernel
theorem dX8_wrongAgain_7 : decode cX8_wrongAgain 7 = .ok (.invokevirtual 151, 3) := by decide +kernel
theorem dX8_wrongAgain_10 : decode cX8_wrongAgain 10 = .ok (.invokevirtual 193, 3) := by decide +kernel
theorem dX8_wrongAgain_13 : decode cX8_wrongAgain 13 = .ok (.ireturn, 1) := by decide +kernel
set_option maxRecDepth 20000 in
theorem ggX8_isRight_X8_checkTable : GoodIn wsX8_isRight wsX8_checkTable := goodIn_ca (goodIn_r _ [5, 6, 7, 8, 9, 4, 10] (by decide +kernel) (by decide +kernel)) (goodIn_sub (fun _ h => List.mem_cons_of_mem _ (List.mem_append_left _ (List.mem_append_right _ h))) (by decide +kernel))
set_option maxRecDepth 20000 in
theorem gX8_isRight_X8_checkTable : GoodIn wsX8_isRight (wsV RX8 144 RX8 yX8_checkTable wsX8_checkTable) := goodIn_app (goodIn_of _ (by decide +kernel)) ggX8_isRight_X8_checkTable
set_option maxRecDepth 20000 in
theorem ggX8_isRight_X8_heard : GoodIn wsX8_isRight wsX8_heard := goodIn_ca (goodIn_r _ [14, 15, 16, 17, 18, 19, 20, 21, 22, 23, 24, 25, 26, 27, 28, 29, 30, 31, 32, 33, 34, 35, 36, 37, 38, 39, 40, 41, 42, 43, 44, 45, 46, 47, 48, 49, 50, 51, 52, 53, 54, 55, 56, 57, 58, 59, 78, 79, 80, 81, 82, 83, 84, 85, 86, 87, 88, 89, 90, 91, 92, 93, 94, 95, 96, 97] (by decide +kernel) (by decide +kernel)) (goodIn_sub (fun _ h => List.mem_cons_of_mem _ (List.mem_append_right _ h)) (by decide +kernel))
set_option maxRecDepth 20000 in
theorem gX8_isRight_X8_heard : GoodIn wsX8_isRight (wsV RX8 151 RX8 yX8_heard wsX8_heard) := goodIn_app (goodIn_of _ (by decide +kernel)) ggX8_isRight_X8_heard
set_option maxRecDepth 20000 in
theorem ggX8_isRight_X4_isWhole : GoodIn wsX8_isRight wsX4_isWhole := goodIn_ca (goodIn_r _ [63, 64, 65, 66, 20, 67, 22, 68, 69, 70, 71, 24, 72, 73, 74, 75, 76, 77, 90, 91, 92, 93, 94, 95, 96] (by decide +kernel) (by decide +kernel)) (goodIn_sub (fun _ h => List.mem_cons_of_mem _ (List.mem_append_right _ h)) (by decide +kernel))
set_option maxRecDepth 20000 in
theorem gX8_isRight_X4_isWhole : GoodIn wsX8_isRight (wsV RX8 196 RX4 yX4_isWhole wsX4_isWhole) := goodIn_app (goodIn_of _ (by decide +kernel)) ggX8_isRight_X4_isWhole
theorem dX8_isRight_0 : decode cX8_isRight 0 = .ok (.aload_n 0, 1) := by decide +kernel
theorem dX8_isRight_1 : decode cX8_isRight 1 = .ok (.iload_n 1, 1) := by decide +kernel
theorem dX8_isRight_2 : decode cX8_isRight 2 = .ok (.invokevirtual 144, 3) := by decide +kernel
theorem dX8_isRight_5 : decode cX8_isRight 5 = .ok (.aload_n 0, 1) := by decide +kernel
theorem dX8_isRight_6 : decode cX8_isRight 6 = .ok (.iload_n 1, 1) := by decide +kernel
theorem dX8_isRight_7 : decode cX8_isRight 7 = .ok (.invokevirtual 151, 3) := by decide +kernel
theorem dX8_isRight_10 : decode cX8_isRight 10 = .ok (.invokevirtual 196, 3) := by decide +kernel
theorem dX8_isRight_13 : decode cX8_isRight 13 = .ok (.ireturn, 1) := by decide +kernel
set_option maxRecDepth 20000 in
theorem ggX8_phrases_X8_checkTable : GoodIn wsX8_phrases wsX8_checkTable := goodIn_ca (goodIn_r _ [5, 6, 7, 8, 9, 4, 10] (by decide +kernel) (by decide +kernel)) (goodIn_sub (fun _ h => List.mem_cons_of_mem _ (List.mem_append_left _ (List.mem_append_right _ h))) (by decide +kernel))
set_option maxRecDepth 20000 in
theorem gX8_phrases_X8_checkTable : GoodIn wsX8_phrases (wsV RX8 144 RX8 yX8_checkTable wsX8_checkTable) := goodIn_app (goodIn_of _ (by decide +kernel)) ggX8_phrases_X8_checkTable
set_option maxRecDepth 20000 in
theorem ggX8_phrases_X8_heard : GoodIn wsX8_phrases wsX8_heard := goodIn_ca (goodIn_r _ [14, 15, 16, 17, 18, 19, 20, 21, 22, 23, 24, 25, 26, 27, 28, 29, 30, 31, 32, 33, 34, 35, 36, 37, 38, 39, 40, 41, 42, 43, 44, 45, 46, 47, 48, 49, 50, 51, 52, 53, 54, 55, 56, 57, 58, 59, 82, 83, 84, 85, 86, 87, 88, 89, 90, 91, 92, 93, 94, 95, 96, 97, 98, 99, 100, 101] (by decide +kernel) (by decide +kernel)) (goodIn_sub (fun _ h => List.mem_cons_of_mem _ (List.mem_append_right _ h)) (by decide +kernel))
set_option maxRecDepth 20000 in
theorem gX8_phrases_X8_heard : GoodIn wsX8_phrases (wsV RX8 151 RX8 yX8_heard wsX8_heard) := goodIn_app (goodIn_of _ (by decide +kernel)) ggX8_phrases_X8_heard
set_option maxRecDepth 20000 in
theorem ggX8_phrases_X4_phraseCount : GoodIn wsX8_phrases wsX4_phraseCount := goodIn_ca (goodIn_r _ [63, 64, 65, 66, 20, 67, 22, 68, 69, 70, 71, 24, 72, 73, 74, 75, 76, 77, 78, 79, 80, 81, 94, 95, 96, 97, 98, 99, 100] (by decide +kernel) (by decide +kernel)) (goodIn_sub (fun _ h => List.mem_cons_of_mem _ (List.mem_append_right _ h)) (by decide +kernel))
set_option maxRecDepth 20000 in
theorem gX8_phrases_X4_phraseCount : GoodIn wsX8_phrases (wsV RX8 200 RX4 yX4_phraseCount wsX4_phraseCount) := goodIn_app (goodIn_of _ (by decide +kernel)) ggX8_phrases_X4_phraseCount
theorem dX8_phrases_0 : decode cX8_phrases 0 = .ok (.aload_n 0, 1) := by decide +kernel
theorem dX8_phrases_1 : decode cX8_phrases 1 = .ok (.iload_n 1, 1) := by decide +kernel
theorem dX8_phrases_2 : decode cX8_phrases 2 = .ok (.invokevirtual 144, 3) := by decide +kernel
theorem dX8_phrases_5 : decode cX8_phrases 5 = .ok (.aload_n 0, 1) := by decide +kernel
theorem dX8_phrases_6 : decode cX8_phrases 6 = .ok (.iload_n 1, 1) := by decide +kernel
theorem dX8_phrases_7 : decode cX8_phrases 7 = .ok (.invokevirtual 151, 3) := by decide +kernel
theorem dX8_phrases_10 : decode cX8_phrases 10 = .ok (.invokevirtual 200, 3) := by decide +kernel
theorem dX8_phrases_13 : decode cX8_phrases 13 = .ok (.ireturn, 1) := by decide +kernel
set_option maxRecDepth 20000 in
theorem ggX8_phraseOf_X8_checkTable : GoodIn wsX8_phraseOf wsX8_checkTable := goodIn_ca (goodIn_r _ [9, 10, 11, 12, 13, 8, 14] (by decide +kernel) (by decide +kernel)) (goodIn_sub (fun _ h => List.mem_cons_of_mem _ (List.mem_append_left _ (List.mem_append_right _ h))) (by decide +kernel))
set_option maxRecDepth 20000 in
theorem gX8_phraseOf_X8_checkTable : GoodIn wsX8_phraseOf (wsV RX8 144 RX8 yX8_checkTable wsX8_checkTable) := goodIn_app (goodIn_of _ (by decide +kernel)) ggX8_phraseOf_X8_checkTable
set_option maxRecDepth 20000 in
theorem ggX8_phraseOf_X8_heard : GoodIn wsX8_phraseOf wsX8_heard := goodIn_ca (goodIn_r _ [18, 19, 20, 21, 22, 23, 24, 25, 26, 27, 28, 29, 30, 31, 32, 33, 34, 35, 36, 37, 38, 39, 40, 41, 42, 43, 44, 45, 46, 47, 48, 49, 50, 51, 52, 53, 54, 55, 56, 57, 58, 59, 60, 61, 62, 63, 118, 119, 120, 121, 122, 123, 124, 125, 126, 127, 128, 129, 130, 131, 132, 133, 134, 135, 136, 137] (by decide +kernel) (by decide +kernel)) (goodIn_sub (fun _ h => List.mem_cons_of_mem _ (List.mem_append_right _ h)) (by decide +kernel))
set_option maxRecDepth 20000 in
theorem gX8_phraseOf_X8_heard : GoodIn wsX8_phraseOf (wsV RX8 151 RX8 yX8_heard wsX8_heard) := goodIn_app (goodIn_of _ (by decide +kernel)) ggX8_phraseOf_X8_heard
set_option maxRecDepth 20000 in
theorem ggX8_phraseOf_X4_phraseCount : GoodIn wsX8_phraseOf wsX4_phraseCount := goodIn_ca (goodIn_r _ [67, 68, 69, 70, 24, 71, 26, 72, 73, 74, 75, 28, 76, 77, 78, 79, 80, 81, 82, 83, 84, 85, 130, 131, 132, 133, 134, 135, 136] (by decide +kernel) (by decide +kernel)) (goodIn_sub (fun _ h => List.mem_cons_of_mem _ (List.mem_append_right _ h)) (by decide +kernel))
set_option maxRecDepth 20000 in
theorem gX8_phraseOf_X4_phraseCount : GoodIn wsX8_phraseOf (wsV RX8 200 RX4 yX4_phraseCount wsX4_phraseCount) := goodIn_app (goodIn_of _ (by decide +kernel)) ggX8_phraseOf_X4_phraseCount
set_option maxRecDepth 20000 in
theorem ggX8_phraseOf_X4_startOf : GoodIn wsX8_phraseOf wsX4_startOf := goodIn_ca (goodIn_r _ [89, 26, 90, 91, 92, 24, 93, 72, 73, 74, 75, 28, 130, 131, 132, 133, 134, 135, 136] (by decide +kernel) (by decide +kernel)) (goodIn_sub (fun _ h => List.mem_cons_of_mem _ (List.mem_append_right _ h)) (by decide +kernel))
set_option maxRecDepth 20000 in
theorem gX8_phraseOf_X4_startOf : GoodIn wsX8_phraseOf (wsV RX8 205 RX4 yX4_startOf wsX4_startOf) := goodIn_app (goodIn_of _ (by decide +kernel)) ggX8_phraseOf_X4_startOf
set_option maxRecDepth 20000 in
theorem ggX8_phraseOf_X4_moodFrom : GoodIn wsX8_phraseOf wsX4_moodFrom := goodIn_ca (goodIn_r _ [97, 26, 72, 73, 74, 24, 75, 28, 130, 131, 132, 133, 134, 135, 136] (by decide +kernel) (by decide +kernel)) (goodIn_sub (fun _ h => List.mem_cons_of_mem _ (List.mem_append_right _ h)) (by decide +kernel))
set_option maxRecDepth 20000 in
theorem gX8_phraseOf_X4_moodFrom : GoodIn wsX8_phraseOf (wsV RX8 208 RX4 yX4_moodFrom wsX4_moodFrom) := goodIn_app (goodIn_of _ (by decide +kernel)) ggX8_phraseOf_X4_moodFrom
set_option maxRecDepth 20000 in
theorem ggX8_phraseOf_X4_napkinAt : GoodIn wsX8_phraseOf wsX4_napkinAt := goodIn_ca (goodIn_r _ [101, 27, 102, 103, 104, 24, 105, 26, 130, 131, 132, 133, 134, 135, 136] (by decide +kernel) (by decide +kernel)) (goodIn_sub (fun _ h => List.mem_cons_of_mem _ (List.mem_append_right _ h)) (by decide +kernel))
set_option maxRecDepth 20000 in
theorem gX8_phraseOf_X4_napkinAt : GoodIn wsX8_phraseOf (wsV RX8 185 RX4 yX4_napkinAt wsX4_napkinAt) := goodIn_app (goodIn_of _ (by decide +kernel)) ggX8_phraseOf_X4_napkinAt
set_option maxRecDepth 20000 in
theorem ggX8_phraseOf_X4_isBoatAt : GoodIn wsX8_phraseOf wsX4_isBoatAt := goodIn_ca (goodIn_r _ [109, 72, 73, 74, 24, 75, 26, 28, 130, 131, 132, 133, 134, 135, 136] (by decide +kernel) (by decide +kernel)) (goodIn_sub (fun _ h => List.mem_cons_of_mem _ (List.mem_append_right _ h)) (by decide +kernel))
set_option maxRecDepth 20000 in
theorem gX8_phraseOf_X4_isBoatAt : GoodIn wsX8_phraseOf (wsV RX8 211 RX4 yX4_isBoatAt wsX4_isBoatAt) := goodIn_app (goodIn_of _ (by decide +kernel)) ggX8_phraseOf_X4_isBoatAt
set_option maxRecDepth 20000 in
theorem ggX8_phraseOf_X4_isAgreed : GoodIn wsX8_phraseOf wsX4_isAgreed := goodIn_ca (goodIn_r _ [113, 114, 115, 116, 24, 117, 29, 102, 103, 104, 105, 26, 130, 131, 132, 133, 134, 135, 136] (by decide +kernel) (by decide +kernel)) (goodIn_sub (fun _ h => List.mem_cons_of_mem _ (List.mem_append_right _ h)) (by decide +kernel))
set_option maxRecDepth 20000 in
theorem gX8_phraseOf_X4_isAgreed : GoodIn wsX8_phraseOf (wsV RX8 214 RX4 yX4_isAgreed wsX4_isAgreed) := goodIn_app (goodIn_of _ (by decide +kernel)) ggX8_phraseOf_X4_isAgreed
theorem dX8_phraseOf_0 : decode cX8_phraseOf 0 = .ok (.aload_n 0, 1) := by decide +kernel
theorem dX8_phraseOf_1 : decode cX8_phraseOf 1 = .ok (.iload_n 1, 1) := by decide +kernel
theorem dX8_phraseOf_2 : decode cX8_phraseOf 2 = .ok (.invokevirtual 144, 3) := by decide +kernel
theorem dX8_phraseOf_5 : decode cX8_phraseOf 5 = .ok (.aload_n 0, 1) := by decide +kernel
theorem dX8_phraseOf_6 : decode cX8_phraseOf 6 = .ok (.iload_n 1, 1) := by decide +kernel
theorem dX8_phraseOf_7 : decode cX8_phraseOf 7 = .ok (.invokevirtual 151, 3) := by decide +kernel
theorem dX8_phraseOf_10 : decode cX8_phraseOf 10 = .ok (.astore 4, 2) := by decide +kernel
theorem dX8_phraseOf_12 : decode cX8_phraseOf 12 = .ok (.iload_n 2, 1) := by decide +kernel
theorem dX8_phraseOf_13 : decode cX8_phraseOf 13 = .ok (.ifCond .lt 12, 3) := by decide +kernel
theorem dX8_phraseOf_16 : decode cX8_phraseOf 16 = .ok (.iload_n 2, 1) := by decide +kernel
theorem dX8_phraseOf_17 : decode cX8_phraseOf 17 = .ok (.aload 4, 2) := by decide +kernel
theorem dX8_phraseOf_19 : decode cX8_phraseOf 19 = .ok (.invokevirtual 200, 3) := by decide +kernel
theorem dX8_phraseOf_22 : decode cX8_phraseOf 22 = .ok (.if_icmp .lt 13, 3) := by decide +kernel
theorem dX8_phraseOf_25 : decode cX8_phraseOf 25 = .ok (.new 176, 3) := by decide +kernel
theorem dX8_phraseOf_28 : decode cX8_phraseOf 28 = .ok (.dup, 1) := by decide +kernel
theorem dX8_phraseOf_29 : decode cX8_phraseOf 29 = .ok (.ldc 203, 2) := by decide +kernel
theorem dX8_phraseOf_31 : decode cX8_phraseOf 31 = .ok (.invokespecial 180, 3) := by decide +kernel
theorem dX8_phraseOf_34 : decode cX8_phraseOf 34 = .ok (.athrow, 1) := by decide +kernel
theorem dX8_phraseOf_35 : decode cX8_phraseOf 35 = .ok (.aload 4, 2) := by decide +kernel
