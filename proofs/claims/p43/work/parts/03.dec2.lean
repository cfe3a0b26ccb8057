set_option maxRecDepth 20000 in
theorem gX5_judgeRead_X8_isTable_n124 : GoodIn wsX5_judgeRead (wsX8_isTable) := ggX5_judgeRead_X8_isTable
set_option maxRecDepth 20000 in
theorem ggX5_judgeRead_X4_hear : GoodIn wsX5_judgeRead wsX4_hear := goodIn_ca (goodIn_r _ [10, 11, 12, 13, 14, 15, 16, 17, 18, 19, 20, 21, 22, 23, 24, 25, 26, 27, 28, 29, 30, 31, 32, 33, 34, 35, 36, 37, 38, 39, 40, 41, 42, 43, 44, 45, 46, 47, 48, 58, 59, 60, 61, 62, 63, 64, 65] (by decide +kernel) (by decide +kernel)) (goodIn_sub (fun _ h => List.mem_cons_of_mem _ (List.mem_append_right _ h)) (by decide +kernel))
set_option maxRecDepth 20000 in
theorem gX5_judgeRead_X4_hear : GoodIn wsX5_judgeRead (wsV RX5 97 RX4 yX4_hear wsX4_hear) := goodIn_app (goodIn_of _ (by decide +kernel)) ggX5_judgeRead_X4_hear
set_option maxRecDepth 20000 in
theorem ggX5_judgeRead_X4_size : GoodIn wsX5_judgeRead wsX4_size := goodIn_r _ [52, 11, 58, 59, 60, 61, 62, 63, 64] (by decide +kernel) (by decide +kernel)
set_option maxRecDepth 20000 in
theorem gX5_judgeRead_X4_size : GoodIn wsX5_judgeRead (wsV RX5 140 RX4 yX4_size wsX4_size) := goodIn_app (goodIn_of _ (by decide +kernel)) ggX5_judgeRead_X4_size
set_option maxRecDepth 20000 in
theorem ggX5_judgeRead_X6_laidOn : GoodIn wsX5_judgeRead wsX6_laidOn := goodIn_ca (goodIn_r _ [20, 21, 22, 23, 19, 24, 25, 65] (by decide +kernel) (by decide +kernel)) (goodIn_sub (fun _ h => List.mem_cons_of_mem _ (List.mem_append_right _ h)) (by decide +kernel))
set_option maxRecDepth 20000 in
theorem gX5_judgeRead_X6_laidOn : GoodIn wsX5_judgeRead (wsV RX5 130 RX6 yX6_laidOn wsX6_laidOn) := goodIn_app (goodIn_of _ (by decide +kernel)) ggX5_judgeRead_X6_laidOn
set_option maxRecDepth 20000 in
theorem ggX5_judgeRead_X8_refusedFor : GoodIn wsX5_judgeRead wsX8_refusedFor := goodIn_r _ [55] (by decide +kernel) (by decide +kernel)
set_option maxRecDepth 20000 in
theorem gX5_judgeRead_X8_refusedFor_n111 : GoodIn wsX5_judgeRead (wsX8_refusedFor) := ggX5_judgeRead_X8_refusedFor
theorem dX5_judgeRead_0 : decode cX5_judgeRead 0 = .ok (.iload_n 1, 1) := by decide +kernel
theorem dX5_judgeRead_1 : decode cX5_judgeRead 1 = .ok (.invokestatic 124, 3) := by decide +kernel
theorem dX5_judgeRead_4 : decode cX5_judgeRead 4 = .ok (.ifCond .ne 5, 3) := by decide +kernel
theorem dX5_judgeRead_7 : decode cX5_judgeRead 7 = .ok (.iconst (-1), 1) := by decide +kernel
theorem dX5_judgeRead_8 : decode cX5_judgeRead 8 = .ok (.ireturn, 1) := by decide +kernel
theorem dX5_judgeRead_9 : decode cX5_judgeRead 9 = .ok (.aload_n 0, 1) := by decide +kernel
theorem dX5_judgeRead_10 : decode cX5_judgeRead 10 = .ok (.getfield 21, 3) := by decide +kernel
theorem dX5_judgeRead_13 : decode cX5_judgeRead 13 = .ok (.aload_n 0, 1) := by decide +kernel
theorem dX5_judgeRead_14 : decode cX5_judgeRead 14 = .ok (.getfield 12, 3) := by decide +kernel
theorem dX5_judgeRead_17 : decode cX5_judgeRead 17 = .ok (.iload_n 1, 1) := by decide +kernel
theorem dX5_judgeRead_18 : decode cX5_judgeRead 18 = .ok (.invokevirtual 97, 3) := by decide +kernel
theorem dX5_judgeRead_21 : decode cX5_judgeRead 21 = .ok (.aload_n 0, 1) := by decide +kernel
theorem dX5_judgeRead_22 : decode cX5_judgeRead 22 = .ok (.getfield 21, 3) := by decide +kernel
theorem dX5_judgeRead_25 : decode cX5_judgeRead 25 = .ok (.invokevirtual 140, 3) := by decide +kernel
theorem dX5_judgeRead_28 : decode cX5_judgeRead 28 = .ok (.ifCond .le 7, 3) := by decide +kernel
theorem dX5_judgeRead_31 : decode cX5_judgeRead 31 = .ok (.iconst 0, 1) := by decide +kernel
theorem dX5_judgeRead_32 : decode cX5_judgeRead 32 = .ok (.goto 16, 3) := by decide +kernel
theorem dX5_judgeRead_35 : decode cX5_judgeRead 35 = .ok (.bipush 8, 2) := by decide +kernel
theorem dX5_judgeRead_37 : decode cX5_judgeRead 37 = .ok (.aload_n 0, 1) := by decide +kernel
theorem dX5_judgeRead_38 : decode cX5_judgeRead 38 = .ok (.getfield 12, 3) := by decide +kernel
theorem dX5_judgeRead_41 : decode cX5_judgeRead 41 = .ok (.iload_n 1, 1) := by decide +kernel
theorem dX5_judgeRead_42 : decode cX5_judgeRead 42 = .ok (.invokevirtual 130, 3) := by decide +kernel
theorem dX5_judgeRead_45 : decode cX5_judgeRead 45 = .ok (.invokestatic 111, 3) := by decide +kernel
theorem dX5_judgeRead_48 : decode cX5_judgeRead 48 = .ok (.ireturn, 1) := by decide +kernel
theorem dX5_creasesFor_0 : decode cX5_creasesFor 0 = .ok (.iload_n 0, 1) := by decide +kernel
theorem dX5_creasesFor_1 : decode cX5_creasesFor 1 = .ok (.ifCond .lt 19, 3) := by decide +kernel
theorem dX5_creasesFor_4 : decode cX5_creasesFor 4 = .ok (.iload_n 0, 1) := by decide +kernel
theorem dX5_creasesFor_5 : decode cX5_creasesFor 5 = .ok (.getstatic 143, 3) := by decide +kernel
theorem dX5_creasesFor_8 : decode cX5_creasesFor 8 = .ok (.arraylength, 1) := by decide +kernel
theorem dX5_creasesFor_9 : decode cX5_creasesFor 9 = .ok (.if_icmp .ge 11, 3) := by decide +kernel
theorem dX5_creasesFor_12 : decode cX5_creasesFor 12 = .ok (.getstatic 143, 3) := by decide +kernel
theorem dX5_creasesFor_15 : decode cX5_creasesFor 15 = .ok (.iload_n 0, 1) := by decide +kernel
theorem dX5_creasesFor_16 : decode cX5_creasesFor 16 = .ok (.iaload, 1) := by decide +kernel
theorem dX5_creasesFor_17 : decode cX5_creasesFor 17 = .ok (.goto 4, 3) := by decide +kernel
theorem dX5_creasesFor_20 : decode cX5_creasesFor 20 = .ok (.iconst 0, 1) := by decide +kernel
theorem dX5_creasesFor_21 : decode cX5_creasesFor 21 = .ok (.ireturn, 1) := by decide +kernel
theorem dX6_init_0 : decode cX6_init 0 = .ok (.aload_n 0, 1) := by decide +kernel
theorem dX6_init_1 : decode cX6_init 1 = .ok (.invokespecial 5, 3) := by decide +kernel
theorem dX6_init_4 : decode cX6_init 4 = .ok (.aload_n 0, 1) := by decide +kernel
theorem dX6_init_5 : decode cX6_init 5 = .ok (.bipush 80, 2) := by decide +kernel
theorem dX6_init_7 : decode cX6_init 7 = .ok (.newarray .int, 2) := by decide +kernel
theorem dX6_init_9 : decode cX6_init 9 = .ok (.putfield 11, 3) := by decide +kernel
theorem dX6_init_12 : decode cX6_init 12 = .ok (.return_, 1) := by decide +kernel
theorem dX6_copyTo_0 : decode cX6_copyTo 0 = .ok (.aload_n 1, 1) := by decide +kernel
theorem dX6_copyTo_1 : decode cX6_copyTo 1 = .ok (.arraylength, 1) := by decide +kernel
theorem dX6_copyTo_2 : decode cX6_copyTo 2 = .ok (.bipush 80, 2) := by decide +kernel
theorem dX6_copyTo_4 : decode cX6_copyTo 4 = .ok (.if_icmp .ne 15, 3) := by decide +kernel
theorem dX6_copyTo_7 : decode cX6_copyTo 7 = .ok (.aload_n 0, 1) := by decide +kernel
theorem dX6_copyTo_8 : decode cX6_copyTo 8 = .ok (.getfield 11, 3) := by decide +kernel
theorem dX6_copyTo_11 : decode cX6_copyTo 11 = .ok (.iconst 0, 1) := by decide +kernel
theorem dX6_copyTo_12 : decode cX6_copyTo 12 = .ok (.aload_n 1, 1) := by decide +kernel
theorem dX6_copyTo_13 : decode cX6_copyTo 13 = .ok (.iconst 0, 1) := by decide +kernel
theorem dX6_copyTo_14 : decode cX6_copyTo 14 = .ok (.bipush 80, 2) := by decide +kernel
theorem dX6_copyTo_16 : decode cX6_copyTo 16 = .ok (.invokestatic 15, 3) := by decide +kernel
theorem dX6_copyTo_19 : decode cX6_copyTo 19 = .ok (.return_, 1) := by decide +kernel
theorem dX6_copyFrom_0 : decode cX6_copyFrom 0 = .ok (.aload_n 1, 1) := by decide +kernel
theorem dX6_copyFrom_1 : decode cX6_copyFrom 1 = .ok (.arraylength, 1) := by decide +kernel
theorem dX6_copyFrom_2 : decode cX6_copyFrom 2 = .ok (.bipush 80, 2) := by decide +kernel
theorem dX6_copyFrom_4 : decode cX6_copyFrom 4 = .ok (.if_icmp .ne 15, 3) := by decide +kernel
theorem dX6_copyFrom_7 : decode cX6_copyFrom 7 = .ok (.aload_n 1, 1) := by decide +kernel
theorem dX6_copyFrom_8 : decode cX6_copyFrom 8 = .ok (.iconst 0, 1) := by decide +kernel
theorem dX6_copyFrom_9 : decode cX6_copyFrom 9 = .ok (.aload_n 0, 1) := by decide +kernel
theorem dX6_copyFrom_10 : decode cX6_copyFrom 10 = .ok (.getfield 11, 3) := by decide +kernel
theorem dX6_copyFrom_13 : decode cX6_copyFrom 13 = .ok (.iconst 0, 1) := by decide +kernel
theorem dX6_copyFrom_14 : decode cX6_copyFrom 14 = .ok (.bipush 80, 2) := by decide +kernel
theorem dX6_copyFrom_16 : decode cX6_copyFrom 16 = .ok (.invokestatic 15, 3) := by decide +kernel
theorem dX6_copyFrom_19 : decode cX6_copyFrom 19 = .ok (.return_, 1) := by decide +kernel
theorem dX6_napkins_0 : decode cX6_napkins 0 = .ok (.aload_n 0, 1) := by decide +kernel
theorem dX6_napkins_1 : decode cX6_napkins 1 = .ok (.getfield 11, 3) := by decide +kernel
theorem dX6_napkins_4 : decode cX6_napkins 4 = .ok (.bipush 77, 2) := by decide +kernel
theorem dX6_napkins_6 : decode cX6_napkins 6 = .ok (.iaload, 1) := by decide +kernel
theorem dX6_napkins_7 : decode cX6_napkins 7 = .ok (.ireturn, 1) := by decide +kernel
theorem dX6_understood_0 : decode cX6_understood 0 = .ok (.aload_n 0, 1) := by decide +kernel
theorem dX6_understood_1 : decode cX6_understood 1 = .ok (.getfield 11, 3) := by decide +kernel
theorem dX6_understood_4 : decode cX6_understood 4 = .ok (.bipush 78, 2) := by decide +kernel
theorem dX6_understood_6 : decode cX6_understood 6 = .ok (.iaload, 1) := by decide +kernel
theorem dX6_understood_7 : decode cX6_understood 7 = .ok (.ireturn, 1) := by decide +kernel
theorem dX6_washedAway_0 : decode cX6_washedAway 0 = .ok (.aload_n 0, 1) := by decide +kernel
theorem dX6_washedAway_1 : decode cX6_washedAway 1 = .ok (.getfield 11, 3) := by decide +kernel
theorem dX6_washedAway_4 : decode cX6_washedAway 4 = .ok (.bipush 79, 2) := by decide +kernel
theorem dX6_washedAway_6 : decode cX6_washedAway 6 = .ok (.iaload, 1) := by decide +kernel
theorem dX6_washedAway_7 : decode cX6_washedAway 7 = .ok (.ireturn, 1) := by decide +kernel
theorem dX6_hasNapkin_0 : decode cX6_hasNapkin 0 = .ok (.iload_n 1, 1) := by decide +kernel
theorem dX6_hasNapkin_1 : decode cX6_hasNapkin 1 = .ok (.ifCond .lt 18, 3) := by decide +kernel
theorem dX6_hasNapkin_4 : decode cX6_hasNapkin 4 = .ok (.iload_n 1, 1) := by decide +kernel
theorem dX6_hasNapkin_5 : decode cX6_hasNapkin 5 = .ok (.aload_n 0, 1) := by decide +kernel
theorem dX6_hasNapkin_6 : decode cX6_hasNapkin 6 = .ok (.getfield 11, 3) := by decide +kernel
theorem dX6_hasNapkin_9 : decode cX6_hasNapkin 9 = .ok (.bipush 77, 2) := by decide +kernel
theorem dX6_hasNapkin_11 : decode cX6_hasNapkin 11 = .ok (.iaload, 1) := by decide +kernel
theorem dX6_hasNapkin_12 : decode cX6_hasNapkin 12 = .ok (.if_icmp .ge 7, 3) := by decide +kernel
theorem dX6_hasNapkin_15 : decode cX6_hasNapkin 15 = .ok (.iconst 1, 1) := by decide +kernel
theorem dX6_hasNapkin_16 : decode cX6_hasNapkin 16 = .ok (.goto 4, 3) := by decide +kernel
theorem dX6_hasNapkin_19 : decode cX6_hasNapkin 19 = .ok (.iconst 0, 1) := by decide +kernel
theorem dX6_hasNapkin_20 : decode cX6_hasNapkin 20 = .ok (.ireturn, 1) := by decide +kernel
set_option maxRecDepth 20000 in
theorem ggX6_hasPlace_X6_laidOn : GoodIn wsX6_hasPlace wsX6_laidOn := goodIn_ca (goodIn_r _ [5, 6, 7, 8, 4, 9, 10, 11] (by decide +kernel) (by decide +kernel)) (goodIn_sub (fun _ h => List.mem_cons_of_mem _ (List.mem_append_right _ h)) (by decide +kernel))
set_option maxRecDepth 20000 in
theorem gX6_hasPlace_X6_laidOn : GoodIn wsX6_hasPlace (wsV RX6 21 RX6 yX6_laidOn wsX6_laidOn) := goodIn_app (goodIn_of _ (by decide +kernel)) ggX6_hasPlace_X6_laidOn
theorem dX6_hasPlace_0 : decode cX6_hasPlace 0 = .ok (.iload_n 2, 1) := by decide +kernel
theorem dX6_hasPlace_1 : decode cX6_hasPlace 1 = .ok (.ifCond .lt 16, 3) := by decide +kernel
theorem dX6_hasPlace_4 : decode cX6_hasPlace 4 = .ok (.iload_n 2, 1) := by decide +kernel
theorem dX6_hasPlace_5 : decode cX6_hasPlace 5 = .ok (.aload_n 0, 1) := by decide +kernel
theorem dX6_hasPlace_6 : decode cX6_hasPlace 6 = .ok (.iload_n 1, 1) := by decide +kernel
theorem dX6_hasPlace_7 : decode cX6_hasPlace 7 = .ok (.invokevirtual 21, 3) := by decide +kernel
theorem dX6_hasPlace_10 : decode cX6_hasPlace 10 = .ok (.if_icmp .ge 7, 3) := by decide +kernel
theorem dX6_hasPlace_13 : decode cX6_hasPlace 13 = .ok (.iconst 1, 1) := by decide +kernel
theorem dX6_hasPlace_14 : decode cX6_hasPlace 14 = .ok (.goto 4, 3) := by decide +kernel
theorem dX6_hasPlace_17 : decode cX6_hasPlace 17 = .ok (.iconst 0, 1) := by decide +kernel
theorem dX6_hasPlace_18 : decode cX6_hasPlace 18 = .ok (.ireturn, 1) := by decide +kernel
set_option maxRecDepth 20000 in
theorem ggX6_colourOf_X6_ofNapkin : GoodIn wsX6_colourOf wsX6_ofNapkin := goodIn_ca (goodIn_r _ [5, 6, 7] (by decide +kernel) (by decide +kernel)) (goodIn_sub (fun _ h => List.mem_cons_of_mem _ (List.mem_append_right _ h)) (by decide +kernel))
set_option maxRecDepth 20000 in
theorem gX6_colourOf_X6_ofNapkin : GoodIn wsX6_colourOf (wsV RX6 25 RX6 yX6_ofNapkin wsX6_ofNapkin) := goodIn_app (goodIn_of _ (by decide +kernel)) ggX6_colourOf_X6_ofNapkin
theorem dX6_colourOf_0 : decode cX6_colourOf 0 = .ok (.aload_n 0, 1) := by decide +kernel
theorem dX6_colourOf_1 : decode cX6_colourOf 1 = .ok (.iconst 0, 1) := by decide +kernel
theorem dX6_colourOf_2 : decode cX6_colourOf 2 = .ok (.iload_n 1, 1) := by decide +kernel
theorem dX6_colourOf_3 : decode cX6_colourOf 3 = .ok (.invokevirtual 25, 3) := by decide +kernel
theorem dX6_colourOf_6 : decode cX6_colourOf 6 = .ok (.ireturn, 1) := by decide +kernel
set_option maxRecDepth 20000 in
theorem ggX6_foldOf_X6_ofNapkin : GoodIn wsX6_foldOf wsX6_ofNapkin := goodIn_ca (goodIn_r _ [5, 6, 7] (by decide +kernel) (by decide +kernel)) (goodIn_sub (fun _ h => List.mem_cons_of_mem _ (List.mem_append_right _ h)) (by decide +kernel))
set_option maxRecDepth 20000 in
theorem gX6_foldOf_X6_ofNapkin : GoodIn wsX6_foldOf (wsV RX6 25 RX6 yX6_ofNapkin wsX6_ofNapkin) := goodIn_app (goodIn_of _ (by decide +kernel)) ggX6_foldOf_X6_ofNapkin
theorem dX6_foldOf_0 : decode cX6_foldOf 0 = .ok (.aload_n 0, 1) := by decide +kernel
theorem dX6_foldOf_1 : decode cX6_foldOf 1 = .ok (.bipush 10, 2) := by decide +kernel
theorem dX6_foldOf_3 : decode cX6_foldOf 3 = .ok (.iload_n 1, 1) := by decide +kernel
theorem dX6_foldOf_4 : decode cX6_foldOf 4 = .ok (.invokevirtual 25, 3) := by decide +kernel
theorem dX6_foldOf_7 : decode cX6_foldOf 7 = .ok (.ireturn, 1) := by decide +kernel
set_option maxRecDepth 20000 in
theorem ggX6_creasesOf_X6_ofNapkin : GoodIn wsX6_creasesOf wsX6_ofNapkin := goodIn_ca (goodIn_r _ [5, 6, 7] (by decide +kernel) (by decide +kernel)) (goodIn_sub (fun _ h => List.mem_cons_of_mem _ (List.mem_append_right _ h)) (by decide +kernel))
set_option maxRecDepth 20000 in
theorem gX6_creasesOf_X6_ofNapkin : GoodIn wsX6_creasesOf (wsV RX6 25 RX6 yX6_ofNapkin wsX6_ofNapkin) := goodIn_app (goodIn_of _ (by decide +kernel)) ggX6_creasesOf_X6_ofNapkin
theorem dX6_creasesOf_0 : decode cX6_creasesOf 0 = .ok (.aload_n 0, 1) := by decide +kernel
theorem dX6_creasesOf_1 : decode cX6_creasesOf 1 = .ok (.bipush 20, 2) := by decide +kernel
theorem dX6_creasesOf_3 : decode cX6_creasesOf 3 = .ok (.iload_n 1, 1) := by decide +kernel
theorem dX6_creasesOf_4 : decode cX6_creasesOf 4 = .ok (.invokevirtual 25, 3) := by decide +kernel
theorem dX6_creasesOf_7 : decode cX6_creasesOf 7 = .ok (.ireturn, 1) := by decide +kernel
set_option maxRecDepth 20000 in
theorem ggX6_stainsOf_X6_ofNapkin : GoodIn wsX6_stainsOf wsX6_ofNapkin := goodIn_ca (goodIn_r _ [5, 6, 7] (by decide +kernel) (by decide +kernel)) (goodIn_sub (fun _ h => List.mem_cons_of_mem _ (List.mem_append_right _ h)) (by decide +kernel))
set_option maxRecDepth 20000 in
theorem gX6_stainsOf_X6_ofNapkin : GoodIn wsX6_stainsOf (wsV RX6 25 RX6 yX6_ofNapkin wsX6_ofNapkin) := goodIn_app (goodIn_of _ (by decide +kernel)) ggX6_stainsOf_X6_ofNapkin
theorem dX6_stainsOf_0 : decode cX6_stainsOf 0 = .ok (.aload_n 0, 1) := by decide +kernel
theorem dX6_stainsOf_1 : decode cX6_stainsOf 1 = .ok (.bipush 30, 2) := by decide +kernel
theorem dX6_stainsOf_3 : decode cX6_stainsOf 3 = .ok (.iload_n 1, 1) := by decide +kernel
theorem dX6_stainsOf_4 : decode cX6_stainsOf 4 = .ok (.invokevirtual 25, 3) := by decide +kernel
theorem dX6_stainsOf_7 : decode cX6_stainsOf 7 = .ok (.ireturn, 1) := by decide +kernel
set_option maxRecDepth 20000 in
theorem ggX6_foldingsOf_X6_ofNapkin : GoodIn wsX6_foldingsOf wsX6_ofNapkin := goodIn_ca (goodIn_r _ [5, 6, 7] (by decide +kernel) (by decide +kernel)) (goodIn_sub (fun _ h => List.mem_cons_of_mem _ (List.mem_append_right _ h)) (by decide +kernel))
set_option maxRecDepth 20000 in
theorem gX6_foldingsOf_X6_ofNapkin : GoodIn wsX6_foldingsOf (wsV RX6 25 RX6 yX6_ofNapkin wsX6_ofNapkin) := goodIn_app (goodIn_of _ (by decide +kernel)) ggX6_foldingsOf_X6_ofNapkin
theorem dX6_foldingsOf_0 : decode cX6_foldingsOf 0 = .ok (.aload_n 0, 1) := by decide +kernel
theorem dX6_foldingsOf_1 : decode cX6_foldingsOf 1 = .ok (.bipush 40, 2) := by decide +kernel
theorem dX6_foldingsOf_3 : decode cX6_foldingsOf 3 = .ok (.iload_n 1, 1) := by decide +kernel
theorem dX6_foldingsOf_4 : decode cX6_foldingsOf 4 = .ok (.invokevirtual 25, 3) := by decide +kernel
theorem dX6_foldingsOf_7 : decode cX6_foldingsOf 7 = .ok (.ireturn, 1) := by decide +kernel
set_option maxRecDepth 20000 in
theorem ggX6_laidOn_X6_ofTable : GoodIn wsX6_laidOn wsX6_ofTable := goodIn_ca (goodIn_r _ [5, 6, 7] (by decide +kernel) (by decide +kernel)) (goodIn_sub (fun _ h => List.mem_cons_of_mem _ (List.mem_append_right _ h)) (by decide +kernel))
set_option maxRecDepth 20000 in
theorem gX6_laidOn_X6_ofTable : GoodIn wsX6_laidOn (wsV RX6 29 RX6 yX6_ofTable wsX6_ofTable) := goodIn_app (goodIn_of _ (by decide +kernel)) ggX6_laidOn_X6_ofTable
theorem dX6_laidOn_0 : decode cX6_laidOn 0 = .ok (.aload_n 0, 1) := by decide +kernel
theorem dX6_laidOn_1 : decode cX6_laidOn 1 = .ok (.bipush 68, 2) := by decide +kernel
theorem dX6_laidOn_3 : decode cX6_laidOn 3 = .ok (.iload_n 1, 1) := by decide +kernel
theorem dX6_laidOn_4 : decode cX6_laidOn 4 = .ok (.invokevirtual 29, 3) := by decide +kernel
theorem dX6_laidOn_7 : decode cX6_laidOn 7 = .ok (.ireturn, 1) := by decide +kernel
set_option maxRecDepth 20000 in
theorem ggX6_readingsOf_X6_ofTable : GoodIn wsX6_readingsOf wsX6_ofTable := goodIn_ca (goodIn_r _ [5, 6, 7] (by decide +kernel) (by decide +kernel)) (goodIn_sub (fun _ h => List.mem_cons_of_mem _ (List.mem_append_right _ h)) (by decide +kernel))
set_option maxRecDepth 20000 in
theorem gX6_readingsOf_X6_ofTable : GoodIn wsX6_readingsOf (wsV RX6 29 RX6 yX6_ofTable wsX6_ofTable) := goodIn_app (goodIn_of _ (by decide +kernel)) ggX6_readingsOf_X6_ofTable
theorem dX6_readingsOf_0 : decode cX6_readingsOf 0 = .ok (.aload_n 0, 1) := by decide +kernel
theorem dX6_readingsOf_1 : decode cX6_readingsOf 1 = .ok (.bipush 71, 2) := by decide +kernel
theorem dX6_readingsOf_3 : decode cX6_readingsOf 3 = .ok (.iload_n 1, 1) := by decide +kernel
theorem dX6_readingsOf_4 : decode cX6_readingsOf 4 = .ok (.invokevirtual 29, 3) := by decide +kernel
theorem dX6_readingsOf_7 : decode cX6_readingsOf 7 = .ok (.ireturn, 1) := by decide +kernel
set_option maxRecDepth 20000 in
theorem ggX6_puzzlesOf_X6_ofTable : GoodIn wsX6_puzzlesOf wsX6_ofTable := goodIn_ca (goodIn_r _ [5, 6, 7] (by decide +kernel) (by decide +kernel)) (goodIn_sub (fun _ h => List.mem_cons_of_mem _ (List.mem_append_right _ h)) (by decide +kernel))
set_option maxRecDepth 20000 in
theorem gX6_puzzlesOf_X6_ofTable : GoodIn wsX6_puzzlesOf (wsV RX6 29 RX6 yX6_ofTable wsX6_ofTable) := goodIn_app (goodIn_of _ (by decide +kernel)) ggX6_puzzlesOf_X6_ofTable
theorem dX6_puzzlesOf_0 : decode cX6_puzzlesOf 0 = .ok (.aload_n 0, 1) := by decide +kernel
theorem dX6_puzzlesOf_1 : decode cX6_puzzlesOf 1 = .ok (.bipush 74, 2) := by decide +kernel
theorem dX6_puzzlesOf_3 : decode cX6_puzzlesOf 3 = .ok (.iload_n 1, 1) := by decide +kernel
theorem dX6_puzzlesOf_4 : decode cX6_puzzlesOf 4 = .ok (.invokevirtual 29, 3) := by decide +kernel
theorem dX6_puzzlesOf_7 : decode cX6_puzzlesOf 7 = .ok (.ireturn, 1) := by decide +kernel
set_option maxRecDepth 20000 in
theorem ggX6_seatedAt_X6_isSeat : GoodIn wsX6_seatedAt wsX6_isSeat := goodIn_r _ [5] (by decide +kernel) (by decide +kernel)
set_option maxRecDepth 20000 in
theorem gX6_seatedAt_X6_isSeat : GoodIn wsX6_seatedAt (va_wsS RX6 32 yX6_isSeat wsX6_isSeat) := goodIn_app (goodIn_of _ (by decide +kernel)) ggX6_seatedAt_X6_isSeat
theorem dX6_seatedAt_0 : decode cX6_seatedAt 0 = .ok (.iload_n 1, 1) := by decide +kernel
theorem dX6_seatedAt_1 : decode cX6_seatedAt 1 = .ok (.iload_n 2, 1) := by decide +kernel
theorem dX6_seatedAt_2 : decode cX6_seatedAt 2 = .ok (.invokestatic 32, 3) := by decide +kernel
theorem dX6_seatedAt_5 : decode cX6_seatedAt 5 = .ok (.ifCond .eq 20, 3) := by decide +kernel
theorem dX6_seatedAt_8 : decode cX6_seatedAt 8 = .ok (.aload_n 0, 1) := by decide +kernel
theorem dX6_seatedAt_9 : decode cX6_seatedAt 9 = .ok (.getfield 11, 3) := by decide +kernel
theorem dX6_seatedAt_12 : decode cX6_seatedAt 12 = .ok (.bipush 50, 2) := by decide +kernel
theorem dX6_seatedAt_14 : decode cX6_seatedAt 14 = .ok (.iload_n 1, 1) := by decide +kernel
theorem dX6_seatedAt_15 : decode cX6_seatedAt 15 = .ok (.bipush 6, 2) := by decide +kernel
theorem dX6_seatedAt_17 : decode cX6_seatedAt 17 = .ok (.imul, 1) := by decide +kernel
theorem dX6_seatedAt_18 : decode cX6_seatedAt 18 = .ok (.iadd, 1) := by decide +kernel
theorem dX6_seatedAt_19 : decode cX6_seatedAt 19 = .ok (.iload_n 2, 1) := by decide +kernel
theorem dX6_seatedAt_20 : decode cX6_seatedAt 20 = .ok (.iadd, 1) := by decide +kernel
theorem dX6_seatedAt_21 : decode cX6_seatedAt 21 = .ok (.iaload, 1) := by decide +kernel
theorem dX6_seatedAt_22 : decode cX6_seatedAt 22 = .ok (.goto 4, 3) := by decide +kernel
theorem dX6_seatedAt_25 : decode cX6_seatedAt 25 = .ok (.iconst (-1), 1) := by decide +kernel
theorem dX6_seatedAt_26 : decode cX6_seatedAt 26 = .ok (.ireturn, 1) := by decide +kernel
set_option maxRecDepth 20000 in
theorem ggX6_tableUnder_X6_seatUnder : GoodIn wsX6_tableUnder wsX6_seatUnder := goodIn_ca (goodIn_r _ [5, 6, 7] (by decide +kernel) (by decide +kernel)) (goodIn_sub (fun _ h => List.mem_cons_of_mem _ (List.mem_append_right _ h)) (by decide +kernel))
set_option maxRecDepth 20000 in
theorem gX6_tableUnder_X6_seatUnder : GoodIn wsX6_tableUnder (wsV RX6 36 RX6 yX6_seatUnder wsX6_seatUnder) := goodIn_app (goodIn_of _ (by decide +kernel)) ggX6_tableUnder_X6_seatUnder
theorem dX6_tableUnder_0 : decode cX6_tableUnder 0 = .ok (.aload_n 0, 1) := by decide +kernel
theorem dX6_tableUnder_1 : decode cX6_tableUnder 1 = .ok (.iload_n 1, 1) := by decide +kernel
theorem dX6_tableUnder_2 : decode cX6_tableUnder 2 = .ok (.invokevirtual 36, 3) := by decide +kernel
theorem dX6_tableUnder_5 : decode cX6_tableUnder 5 = .ok (.istore_n 2, 1) := by decide +kernel
theorem dX6_tableUnder_6 : decode cX6_tableUnder 6 = .ok (.iload_n 2, 1) := by decide +kernel
theorem dX6_tableUnder_7 : decode cX6_tableUnder 7 = .ok (.iconst (-1), 1) := by decide +kernel
theorem dX6_tableUnder_8 : decode cX6_tableUnder 8 = .ok (.if_icmp .eq 10, 3) := by decide +kernel
theorem dX6_tableUnder_11 : decode cX6_tableUnder 11 = .ok (.iload_n 2, 1) := by decide +kernel
theorem dX6_tableUnder_12 : decode cX6_tableUnder 12 = .ok (.bipush 6, 2) := by decide +kernel
theorem dX6_tableUnder_14 : decode cX6_tableUnder 14 = .ok (.idiv, 1) := by decide +kernel
theorem dX6_tableUnder_15 : decode cX6_tableUnder 15 = .ok (.goto 4, 3) := by decide +kernel
theorem dX6_tableUnder_18 : decode cX6_tableUnder 18 = .ok (.iconst (-1), 1) := by decide +kernel
theorem dX6_tableUnder_19 : decode cX6_tableUnder 19 = .ok (.ireturn, 1) := by decide +kernel
set_option maxRecDepth 20000 in
theorem ggX6_placeUnder_X6_seatUnder : GoodIn wsX6_placeUnder wsX6_seatUnder := goodIn_ca (goodIn_r _ [5, 6, 7] (by decide +kernel) (by decide +kernel)) (goodIn_sub (fun _ h => List.mem_cons_of_mem _ (List.mem_append_right _ h)) (by decide +kernel))
set_option maxRecDepth 20000 in
theorem gX6_placeUnder_X6_seatUnder : GoodIn wsX6_placeUnder (wsV RX6 36 RX6 yX6_seatUnder wsX6_seatUnder) := goodIn_app (goodIn_of _ (by decide +kernel)) ggX6_placeUnder_X6_seatUnder
theorem dX6_placeUnder_0 : decode cX6_placeUnder 0 = .ok (.aload_n 0, 1) := by decide +kernel
theorem dX6_placeUnder_1 : decode cX6_placeUnder 1 = .ok (.iload_n 1, 1) := by decide +kernel
theorem dX6_placeUnder_2 : decode cX6_placeUnder 2 = .ok (.invokevirtual 36, 3) := by decide +kernel
theorem dX6_placeUnder_5 : decode cX6_placeUnder 5 = .ok (.istore_n 2, 1) := by decide +kernel
theorem dX6_placeUnder_6 : decode cX6_placeUnder 6 = .ok (.iload_n 2, 1) := by decide +kernel
theorem dX6_placeUnder_7 : decode cX6_placeUnder 7 = .ok (.iconst (-1), 1) := by decide +kernel
theorem dX6_placeUnder_8 : decode cX6_placeUnder 8 = .ok (.if_icmp .eq 10, 3) := by decide +kernel
theorem dX6_placeUnder_11 : decode cX6_placeUnder 11 = .ok (.iload_n 2, 1) := by decide +kernel
theorem dX6_placeUnder_12 : decode cX6_placeUnder 12 = .ok (.bipush 6, 2) := by decide +kernel
theorem dX6_placeUnder_14 : decode cX6_placeUnder 14 = .ok (.irem, 1) := by decide +kernel
theorem dX6_placeUnder_15 : decode cX6_placeUnder 15 = .ok (.goto 4, 3) := by decide +kernel
theorem dX6_placeUnder_18 : decode cX6_placeUnder 18 = .ok (.iconst (-1), 1) := by decide +kernel
theorem dX6_placeUnder_19 : decode cX6_placeUnder 19 = .ok (.ireturn, 1) := by decide +kernel
set_option maxRecDepth 20000 in
theorem ggX6_placesUnder_X6_laidOn : GoodIn wsX6_placesUnder wsX6_laidOn := goodIn_ca (goodIn_r _ [5, 6, 7, 8, 4, 9, 10, 18] (by decide +kernel) (by decide +kernel)) (goodIn_sub (fun _ h => List.mem_cons_of_mem _ (List.mem_append_right _ h)) (by decide +kernel))
set_option maxRecDepth 20000 in
theorem gX6_placesUnder_X6_laidOn : GoodIn wsX6_placesUnder (wsV RX6 21 RX6 yX6_laidOn wsX6_laidOn) := goodIn_app (goodIn_of _ (by decide +kernel)) ggX6_placesUnder_X6_laidOn
set_option maxRecDepth 20000 in
theorem ggX6_placesUnder_X6_seatedAt : GoodIn wsX6_placesUnder wsX6_seatedAt := goodIn_ca (goodIn_r _ [14, 10, 15, 16, 4, 17, 18] (by decide +kernel) (by decide +kernel)) (goodIn_sub (fun _ h => List.mem_cons_of_mem _ (List.mem_append_right _ h)) (by decide +kernel))
set_option maxRecDepth 20000 in
theorem gX6_placesUnder_X6_seatedAt : GoodIn wsX6_placesUnder (wsV RX6 39 RX6 yX6_seatedAt wsX6_seatedAt) := goodIn_app (goodIn_of _ (by decide +kernel)) ggX6_placesUnder_X6_seatedAt
theorem dX6_placesUnder_0 : decode cX6_placesUnder 0 = .ok (.iconst 0, 1) := by decide +kernel
theorem dX6_placesUnder_1 : decode cX6_placesUnder 1 = .ok (.istore_n 2, 1) := by decide +kernel
theorem dX6_placesUnder_2 : decode cX6_placesUnder 2 = .ok (.iconst 0, 1) := by decide +kernel
theorem dX6_placesUnder_3 : decode cX6_placesUnder 3 = .ok (.istore_n 3, 1) := by decide +kernel
theorem dX6_placesUnder_4 : decode cX6_placesUnder 4 = .ok (.iload_n 3, 1) := by decide +kernel
theorem dX6_placesUnder_5 : decode cX6_placesUnder 5 = .ok (.iconst 3, 1) := by decide +kernel
theorem dX6_placesUnder_6 : decode cX6_placesUnder 6 = .ok (.if_icmp .ge 42, 3) := by decide +kernel
theorem dX6_placesUnder_9 : decode cX6_placesUnder 9 = .ok (.iconst 0, 1) := by decide +kernel
theorem dX6_placesUnder_10 : decode cX6_placesUnder 10 = .ok (.istore 4, 2) := by decide +kernel
theorem dX6_placesUnder_12 : decode cX6_placesUnder 12 = .ok (.iload 4, 2) := by decide +kernel
theorem dX6_placesUnder_14 : decode cX6_placesUnder 14 = .ok (.aload_n 0, 1) := by decide +kernel
theorem dX6_placesUnder_15 : decode cX6_placesUnder 15 = .ok (.iload_n 3, 1) := by decide +kernel
theorem dX6_placesUnder_16 : decode cX6_placesUnder 16 = .ok (.invokevirtual 21, 3) := by decide +kernel
theorem dX6_placesUnder_19 : decode cX6_placesUnder 19 = .ok (.if_icmp .ge 23, 3) := by decide +kernel
theorem dX6_placesUnder_22 : decode cX6_placesUnder 22 = .ok (.aload_n 0, 1) := by decide +kernel
theorem dX6_placesUnder_23 : decode cX6_placesUnder 23 = .ok (.iload_n 3, 1) := by decide +kernel
theorem dX6_placesUnder_24 : decode cX6_placesUnder 24 = .ok (.iload 4, 2) := by decide +kernel
theorem dX6_placesUnder_26 : decode cX6_placesUnder 26 = .ok (.invokevirtual 39, 3) := by decide +kernel
theorem dX6_placesUnder_29 : decode cX6_placesUnder 29 = .ok (.iload_n 1, 1) := by decide +kernel
theorem dX6_placesUnder_30 : decode cX6_placesUnder 30 = .ok (.if_icmp .ne 6, 3) := by decide +kernel
theorem dX6_placesUnder_33 : decode cX6_placesUnder 33 = .ok (.iinc 2 1, 3) := by decide +kernel
theorem dX6_placesUnder_36 : decode cX6_placesUnder 36 = .ok (.iinc 4 1, 3) := by decide +kernel
theorem dX6_placesUnder_39 : decode cX6_placesUnder 39 = .ok (.goto (-27), 3) := by decide +kernel
theorem dX6_placesUnder_42 : decode cX6_placesUnder 42 = .ok (.iinc 3 1, 3) := by decide +kernel
theorem dX6_placesUnder_45 : decode cX6_placesUnder 45 = .ok (.goto (-41), 3) := by decide +kernel
theorem dX6_placesUnder_48 : decode cX6_placesUnder 48 = .ok (.iload_n 2, 1) := by decide +kernel
theorem dX6_placesUnder_49 : decode cX6_placesUnder 49 = .ok (.ireturn, 1) := by decide +kernel
set_option maxRecDepth 20000 in
theorem ggX6_foldedCount_X6_napkins : GoodIn wsX6_foldedCount wsX6_napkins := goodIn_ca (goodIn_r _ [5, 6, 15] (by decide +kernel) (by decide +kernel)) (goodIn_sub (fun _ h => List.mem_cons_of_mem _ (List.mem_append_right _ h)) (by decide +kernel))
set_option maxRecDepth 20000 in
theorem gX6_foldedCount_X6_napkins : GoodIn wsX6_foldedCount (wsV RX6 42 RX6 yX6_napkins wsX6_napkins) := goodIn_app (goodIn_of _ (by decide +kernel)) ggX6_foldedCount_X6_napkins
set_option maxRecDepth 20000 in
theorem ggX6_foldedCount_X6_foldOf : GoodIn wsX6_foldedCount wsX6_foldOf := goodIn_ca (goodIn_r _ [10, 11, 12, 13, 4, 14, 6, 15] (by decide +kernel) (by decide +kernel)) (goodIn_sub (fun _ h => List.mem_cons_of_mem _ (List.mem_append_right _ h)) (by decide +kernel))
set_option maxRecDepth 20000 in
theorem gX6_foldedCount_X6_foldOf : GoodIn wsX6_foldedCount (wsV RX6 46 RX6 yX6_foldOf wsX6_foldOf) := goodIn_app (goodIn_of _ (by decide +kernel)) ggX6_foldedCount_X6_foldOf
theorem dX6_foldedCount_0 : decode cX6_foldedCount 0 = .ok (.iconst 0, 1) := by decide +kernel
theorem dX6_foldedCount_1 : decode cX6_foldedCount 1 = .ok (.istore_n 1, 1) := by decide +kernel
theorem dX6_foldedCount_2 : decode cX6_foldedCount 2 = .ok (.iconst 0, 1) := by decide +kernel
theorem dX6_foldedCount_3 : decode cX6_foldedCount 3 = .ok (.istore_n 2, 1) := by decide +kernel
theorem dX6_foldedCount_4 : decode cX6_foldedCount 4 = .ok (.iload_n 2, 1) := by decide +kernel
theorem dX6_foldedCount_5 : decode cX6_foldedCount 5 = .ok (.aload_n 0, 1) := by decide +kernel
theorem dX6_foldedCount_6 : decode cX6_foldedCount 6 = .ok (.invokevirtual 42, 3) := by decide +kernel
theorem dX6_foldedCount_9 : decode cX6_foldedCount 9 = .ok (.if_icmp .ge 20, 3) := by decide +kernel
theorem dX6_foldedCount_12 : decode cX6_foldedCount 12 = .ok (.aload_n 0, 1) := by decide +kernel
theorem dX6_foldedCount_13 : decode cX6_foldedCount 13 = .ok (.iload_n 2, 1) := by decide +kernel
theorem dX6_foldedCount_14 : decode cX6_foldedCount 14 = .ok (.invokevirtual 46, 3) := by decide +kernel
theorem dX6_foldedCount_17 : decode cX6_foldedCount 17 = .ok (.ifCond .eq 6, 3) := by decide +kernel
theorem dX6_foldedCount_20 : decode cX6_foldedCount 20 = .ok (.iinc 1 1, 3) := by decide +kernel
theorem dX6_foldedCount_23 : decode cX6_foldedCount 23 = .ok (.iinc 2 1, 3) := by decide +kernel
theorem dX6_foldedCount_26 : decode cX6_foldedCount 26 = .ok (.goto (-22), 3) := by decide +kernel
theorem dX6_foldedCount_29 : decode cX6_foldedCount 29 = .ok (.iload_n 1, 1) := by decide +kernel
theorem dX6_foldedCount_30 : decode cX6_foldedCount 30 = .ok (.ireturn, 1) := by decide +kernel
set_option maxRecDepth 20000 in
theorem ggX6_laidCount_X6_sumOf : GoodIn wsX6_laidCount wsX6_sumOf := goodIn_ca (goodIn_r _ [5, 6, 7] (by decide +kernel) (by decide +kernel)) (goodIn_sub (fun _ h => List.mem_cons_of_mem _ (List.mem_append_right _ h)) (by decide +kernel))
set_option maxRecDepth 20000 in
theorem gX6_laidCount_X6_sumOf : GoodIn wsX6_laidCount (wsV RX6 49 RX6 yX6_sumOf wsX6_sumOf) := goodIn_app (goodIn_of _ (by decide +kernel)) ggX6_laidCount_X6_sumOf
theorem dX6_laidCount_0 : decode cX6_laidCount 0 = .ok (.aload_n 0, 1) := by decide +kernel
theorem dX6_laidCount_1 : decode cX6_laidCount 1 = .ok (.bipush 68, 2) := by decide +kernel
theorem dX6_laidCount_3 : decode cX6_laidCount 3 = .ok (.iconst 3, 1) := by decide +kernel
theorem dX6_laidCount_4 : decode cX6_laidCount 4 = .ok (.invokevirtual 49, 3) := by decide +kernel
theorem dX6_laidCount_7 : decode cX6_laidCount 7 = .ok (.ireturn, 1) := by decide +kernel
set_option maxRecDepth 20000 in
theorem ggX6_creasesSum_X6_sumOf : GoodIn wsX6_creasesSum wsX6_sumOf := goodIn_ca (goodIn_r _ [5, 6, 7] (by decide +kernel) (by decide +kernel)) (goodIn_sub (fun _ h => List.mem_cons_of_mem _ (List.mem_append_right _ h)) (by decide +kernel))
set_option maxRecDepth 20000 in
theorem gX6_creasesSum_X6_sumOf : GoodIn wsX6_creasesSum (wsV RX6 49 RX6 yX6_sumOf wsX6_sumOf) := goodIn_app (goodIn_of _ (by decide +kernel)) ggX6_creasesSum_X6_sumOf
theorem dX6_creasesSum_0 : decode cX6_creasesSum 0 = .ok (.aload_n 0, 1) := by decide +kernel
theorem dX6_creasesSum_1 : decode cX6_creasesSum 1 = .ok (.bipush 20, 2) := by decide +kernel
theorem dX6_creasesSum_3 : decode cX6_creasesSum 3 = .ok (.bipush 10, 2) := by decide +kernel
theorem dX6_creasesSum_5 : decode cX6_creasesSum 5 = .ok (.invokevirtual 49, 3) := by decide +kernel
theorem dX6_creasesSum_8 : decode cX6_creasesSum 8 = .ok (.ireturn, 1) := by decide +kernel
set_option maxRecDepth 20000 in
theorem ggX6_stainsSum_X6_sumOf : GoodIn wsX6_stainsSum wsX6_sumOf := goodIn_ca (goodIn_r _ [5, 6, 7] (by decide +kernel) (by decide +kernel)) (goodIn_sub (fun _ h => List.mem_cons_of_mem _ (List.mem_append_right _ h)) (by decide +kernel))
set_option maxRecDepth 20000 in
theorem gX6_stainsSum_X6_sumOf : GoodIn wsX6_stainsSum (wsV RX6 49 RX6 yX6_sumOf wsX6_sumOf) := goodIn_app (goodIn_of _ (by decide +kernel)) ggX6_stainsSum_X6_sumOf
theorem dX6_stainsSum_0 : decode cX6_stainsSum 0 = .ok (.aload_n 0, 1) := by decide +kernel
theorem dX6_stainsSum_1 : decode cX6_stainsSum 1 = .ok (.bipush 30, 2) := by decide +kernel
theorem dX6_stainsSum_3 : decode cX6_stainsSum 3 = .ok (.bipush 10, 2) := by decide +kernel
theorem dX6_stainsSum_5 : decode cX6_stainsSum 5 = .ok (.invokevirtual 49, 3) := by decide +kernel
theorem dX6_stainsSum_8 : decode cX6_stainsSum 8 = .ok (.ireturn, 1) := by decide +kernel
set_option maxRecDepth 20000 in
theorem ggX6_foldingsSum_X6_sumOf : GoodIn wsX6_foldingsSum wsX6_sumOf := goodIn_ca (goodIn_r _ [5, 6, 7] (by decide +kernel) (by decide +kernel)) (goodIn_sub (fun _ h => List.mem_cons_of_mem _ (List.mem_append_right _ h)) (by decide +kernel))
set_option maxRecDepth 20000 in
theorem gX6_foldingsSum_X6_sumOf : GoodIn wsX6_foldingsSum (wsV RX6 49 RX6 yX6_sumOf wsX6_sumOf) := goodIn_app (goodIn_of _ (by decide +kernel)) ggX6_foldingsSum_X6_sumOf
theorem dX6_foldingsSum_0 : decode cX6_foldingsSum 0 = .ok (.aload_n 0, 1) := by decide +kernel
theorem dX6_foldingsSum_1 : decode cX6_foldingsSum 1 = .ok (.bipush 40, 2) := by decide +kernel
theorem dX6_foldingsSum_3 : decode cX6_foldingsSum 3 = .ok (.bipush 10, 2) := by decide +kernel
theorem dX6_foldingsSum_5 : decode cX6_foldingsSum 5 = .ok (.invokevirtual 49, 3) := by decide +kernel
theorem dX6_foldingsSum_8 : decode cX6_foldingsSum 8 = .ok (.ireturn, 1) := by decide +kernel
set_option maxRecDepth 20000 in
theorem ggX6_puzzlesSum_X6_sumOf : GoodIn wsX6_puzzlesSum wsX6_sumOf := goodIn_ca (goodIn_r _ [5, 6, 7] (by decide +kernel) (by decide +kernel)) (goodIn_sub (fun _ h => List.mem_cons_of_mem _ (List.mem_append_right _ h)) (by decide +kernel))
set_option maxRecDepth 20000 in
theorem gX6_puzzlesSum_X6_sumOf : GoodIn wsX6_puzzlesSum (wsV RX6 49 RX6 yX6_sumOf wsX6_sumOf) := goodIn_app (goodIn_of _ (by decide +kernel)) ggX6_puzzlesSum_X6_sumOf
theorem dX6_puzzlesSum_0 : decode cX6_puzzlesSum 0 = .ok (.aload_n 0, 1) := by decide +kernel
theorem dX6_puzzlesSum_1 : decode cX6_puzzlesSum 1 = .ok (.bipush 74, 2) := by decide +kernel
theorem dX6_puzzlesSum_3 : decode cX6_puzzlesSum 3 = .ok (.iconst 3, 1) := by decide +kernel
theorem dX6_puzzlesSum_4 : decode cX6_puzzlesSum 4 = .ok (.invokevirtual 49, 3) := by decide +kernel
theorem dX6_puzzlesSum_7 : decode cX6_puzzlesSum 7 = .ok (.ireturn, 1) := by decide +kernel
set_option maxRecDepth 20000 in
theorem ggX6_addNapkin_X6_napkins : GoodIn wsX6_addNapkin wsX6_napkins := goodIn_ca (goodIn_r _ [6, 1, 11] (by decide +kernel) (by decide +kernel)) (goodIn_sub (fun _ h => List.mem_cons_of_mem _ (List.mem_append_right _ h)) (by decide +kernel))
set_option maxRecDepth 20000 in
theorem gX6_addNapkin_X6_napkins : GoodIn wsX6_addNapkin (wsV RX6 42 RX6 yX6_napkins wsX6_napkins) := goodIn_app (goodIn_of _ (by decide +kernel)) ggX6_addNapkin_X6_napkins
set_option maxRecDepth 20000 in
theorem ggX6_addNapkin_X6_setOfNapkin : GoodIn wsX6_addNapkin wsX6_setOfNapkin := goodIn_ca (goodIn_r _ [10, 1, 11] (by decide +kernel) (by decide +kernel)) (goodIn_sub (fun _ h => List.mem_cons_of_mem _ (List.mem_append_right _ h)) (by decide +kernel))
set_option maxRecDepth 20000 in
theorem gX6_addNapkin_X6_setOfNapkin : GoodIn wsX6_addNapkin (wsV RX6 52 RX6 yX6_setOfNapkin wsX6_setOfNapkin) := goodIn_app (goodIn_of _ (by decide +kernel)) ggX6_addNapkin_X6_setOfNapkin
theorem dX6_addNapkin_0 : decode cX6_addNapkin 0 = .ok (.aload_n 0, 1) := by decide +kernel
theorem dX6_addNapkin_1 : decode cX6_addNapkin 1 = .ok (.invokevirtual 42, 3) := by decide +kernel
theorem dX6_addNapkin_4 : decode cX6_addNapkin 4 = .ok (.istore_n 2, 1) := by decide +kernel
theorem dX6_addNapkin_5 : decode cX6_addNapkin 5 = .ok (.iload_n 2, 1) := by decide +kernel
theorem dX6_addNapkin_6 : decode cX6_addNapkin 6 = .ok (.bipush 10, 2) := by decide +kernel
theorem dX6_addNapkin_8 : decode cX6_addNapkin 8 = .ok (.if_icmp .ge 20, 3) := by decide +kernel
theorem dX6_addNapkin_11 : decode cX6_addNapkin 11 = .ok (.aload_n 0, 1) := by decide +kernel
theorem dX6_addNapkin_12 : decode cX6_addNapkin 12 = .ok (.getfield 11, 3) := by decide +kernel
theorem dX6_addNapkin_15 : decode cX6_addNapkin 15 = .ok (.bipush 77, 2) := by decide +kernel
theorem dX6_addNapkin_17 : decode cX6_addNapkin 17 = .ok (.iload_n 2, 1) := by decide +kernel
theorem dX6_addNapkin_18 : decode cX6_addNapkin 18 = .ok (.iconst 1, 1) := by decide +kernel
theorem dX6_addNapkin_19 : decode cX6_addNapkin 19 = .ok (.iadd, 1) := by decide +kernel
theorem dX6_addNapkin_20 : decode cX6_addNapkin 20 = .ok (.iastore, 1) := by decide +kernel
theorem dX6_addNapkin_21 : decode cX6_addNapkin 21 = .ok (.aload_n 0, 1) := by decide +kernel
theorem dX6_addNapkin_22 : decode cX6_addNapkin 22 = .ok (.iconst 0, 1) := by decide +kernel
theorem dX6_addNapkin_23 : decode cX6_addNapkin 23 = .ok (.iload_n 2, 1) := by decide +kernel
theorem dX6_addNapkin_24 : decode cX6_addNapkin 24 = .ok (.iload_n 1, 1) := by decide +kernel
theorem dX6_addNapkin_25 : decode cX6_addNapkin 25 = .ok (.invokevirtual 52, 3) := by decide +kernel
theorem dX6_addNapkin_28 : decode cX6_addNapkin 28 = .ok (.iload_n 2, 1) := by decide +kernel
theorem dX6_addNapkin_29 : decode cX6_addNapkin 29 = .ok (.ireturn, 1) := by decide +kernel
set_option maxRecDepth 20000 in
theorem ggX6_foldTo_X6_creasesOf : GoodIn wsX6_foldTo wsX6_creasesOf := goodIn_ca (goodIn_r _ [5, 6, 7, 8, 4, 9, 10, 19] (by decide +kernel) (by decide +kernel)) (goodIn_sub (fun _ h => List.mem_cons_of_mem _ (List.mem_append_right _ h)) (by decide +kernel))
set_option maxRecDepth 20000 in
theorem gX6_foldTo_X6_creasesOf : GoodIn wsX6_foldTo (wsV RX6 56 RX6 yX6_creasesOf wsX6_creasesOf) := goodIn_app (goodIn_of _ (by decide +kernel)) ggX6_foldTo_X6_creasesOf
set_option maxRecDepth 20000 in
theorem ggX6_foldTo_X6_setOfNapkin : GoodIn wsX6_foldTo wsX6_setOfNapkin := goodIn_ca (goodIn_r _ [14, 10, 19] (by decide +kernel) (by decide +kernel)) (goodIn_sub (fun _ h => List.mem_cons_of_mem _ (List.mem_append_right _ h)) (by decide +kernel))
set_option maxRecDepth 20000 in
theorem gX6_foldTo_X6_setOfNapkin : GoodIn wsX6_foldTo (wsV RX6 52 RX6 yX6_setOfNapkin wsX6_setOfNapkin) := goodIn_app (goodIn_of _ (by decide +kernel)) ggX6_foldTo_X6_setOfNapkin
set_option maxRecDepth 20000 in
theorem ggX6_foldTo_X6_foldingsOf : GoodIn wsX6_foldTo wsX6_foldingsOf := goodIn_ca (goodIn_r _ [18, 6, 7, 8, 4, 9, 10, 19] (by decide +kernel) (by decide +kernel)) (goodIn_sub (fun _ h => List.mem_cons_of_mem _ (List.mem_append_right _ h)) (by decide +kernel))
set_option maxRecDepth 20000 in
theorem gX6_foldTo_X6_foldingsOf : GoodIn wsX6_foldTo (wsV RX6 59 RX6 yX6_foldingsOf wsX6_foldingsOf) := goodIn_app (goodIn_of _ (by decide +kernel)) ggX6_foldTo_X6_foldingsOf
theorem dX6_foldTo_0 : decode cX6_foldTo 0 = .ok (.aload_n 0, 1) := by decide +kernel
theorem dX6_foldTo_1 : decode cX6_foldTo 1 = .ok (.iload_n 1, 1) := by decide +kernel
theorem dX6_foldTo_2 : decode cX6_foldTo 2 = .ok (.invokevirtual 56, 3) := by decide +kernel
theorem dX6_foldTo_5 : decode cX6_foldTo 5 = .ok (.iload_n 3, 1) := by decide +kernel
theorem dX6_foldTo_6 : decode cX6_foldTo 6 = .ok (.iadd, 1) := by decide +kernel
theorem dX6_foldTo_7 : decode cX6_foldTo 7 = .ok (.istore 4, 2) := by decide +kernel
theorem dX6_foldTo_9 : decode cX6_foldTo 9 = .ok (.aload_n 0, 1) := by decide +kernel
theorem dX6_foldTo_10 : decode cX6_foldTo 10 = .ok (.bipush 10, 2) := by decide +kernel
theorem dX6_foldTo_12 : decode cX6_foldTo 12 = .ok (.iload_n 1, 1) := by decide +kernel
theorem dX6_foldTo_13 : decode cX6_foldTo 13 = .ok (.iload_n 2, 1) := by decide +kernel
theorem dX6_foldTo_14 : decode cX6_foldTo 14 = .ok (.invokevirtual 52, 3) := by decide +kernel
theorem dX6_foldTo_17 : decode cX6_foldTo 17 = .ok (.aload_n 0, 1) := by decide +kernel
theorem dX6_foldTo_18 : decode cX6_foldTo 18 = .ok (.bipush 20, 2) := by decide +kernel
theorem dX6_foldTo_20 : decode cX6_foldTo 20 = .ok (.iload_n 1, 1) := by decide +kernel
theorem dX6_foldTo_21 : decode cX6_foldTo 21 = .ok (.iload 4, 2) := by decide +kernel
theorem dX6_foldTo_23 : decode cX6_foldTo 23 = .ok (.invokevirtual 52, 3) := by decide +kernel
theorem dX6_foldTo_26 : decode cX6_foldTo 26 = .ok (.aload_n 0, 1) := by decide +kernel
theorem dX6_foldTo_27 : decode cX6_foldTo 27 = .ok (.bipush 40, 2) := by decide +kernel
theorem dX6_foldTo_29 : decode cX6_foldTo 29 = .ok (.iload_n 1, 1) := by decide +kernel
theorem dX6_foldTo_30 : decode cX6_foldTo 30 = .ok (.aload_n 0, 1) := by decide +kernel
theorem dX6_foldTo_31 : decode cX6_foldTo 31 = .ok (.iload_n 1, 1) := by decide +kernel
theorem dX6_foldTo_32 : decode cX6_foldTo 32 = .ok (.invokevirtual 59, 3) := by decide +kernel
theorem dX6_foldTo_35 : decode cX6_foldTo 35 = .ok (.iconst 1, 1) := by decide +kernel
theorem dX6_foldTo_36 : decode cX6_foldTo 36 = .ok (.iadd, 1) := by decide +kernel
theorem dX6_foldTo_37 : decode cX6_foldTo 37 = .ok (.invokevirtual 52, 3) := by decide +kernel
theorem dX6_foldTo_40 : decode cX6_foldTo 40 = .ok (.iload 4, 2) := by decide +kernel
theorem dX6_foldTo_42 : decode cX6_foldTo 42 = .ok (.ireturn, 1) := by decide +kernel
set_option maxRecDepth 20000 in
theorem ggX6_open_X6_foldOf : GoodIn wsX6_open wsX6_foldOf := goodIn_ca (goodIn_r _ [5, 6, 7, 8, 4, 9, 10, 15] (by decide +kernel) (by decide +kernel)) (goodIn_sub (fun _ h => List.mem_cons_of_mem _ (List.mem_append_right _ h)) (by decide +kernel))
set_option maxRecDepth 20000 in
theorem gX6_open_X6_foldOf : GoodIn wsX6_open (wsV RX6 46 RX6 yX6_foldOf wsX6_foldOf) := goodIn_app (goodIn_of _ (by decide +kernel)) ggX6_open_X6_foldOf
set_option maxRecDepth 20000 in
theorem ggX6_open_X6_setOfNapkin : GoodIn wsX6_open wsX6_setOfNapkin := goodIn_ca (goodIn_r _ [14, 10, 15] (by decide +kernel) (by decide +kernel)) (goodIn_sub (fun _ h => List.mem_cons_of_mem _ (List.mem_append_right _ h)) (by decide +kernel))
set_option maxRecDepth 20000 in
theorem gX6_open_X6_setOfNapkin : GoodIn wsX6_open (wsV RX6 52 RX6 yX6_setOfNapkin wsX6_setOfNapkin) := goodIn_app (goodIn_of _ (by decide +kernel)) ggX6_open_X6_setOfNapkin
theorem dX6_open_0 : decode cX6_open 0 = .ok (.aload_n 0, 1) := by decide +kernel
theorem dX6_open_1 : decode cX6_open 1 = .ok (.iload_n 1, 1) := by decide +kernel
theorem dX6_open_2 : decode cX6_open 2 = .ok (.invokevirtual 46, 3) := by decide +kernel
theorem dX6_open_5 : decode cX6_open 5 = .ok (.istore_n 2, 1) := by decide +kernel
theorem dX6_open_6 : decode cX6_open 6 = .ok (.aload_n 0, 1) := by decide +kernel
theorem dX6_open_7 : decode cX6_open 7 = .ok (.bipush 10, 2) := by decide +kernel
theorem dX6_open_9 : decode cX6_open 9 = .ok (.iload_n 1, 1) := by decide +kernel
theorem dX6_open_10 : decode cX6_open 10 = .ok (.iconst 0, 1) := by decide +kernel
theorem dX6_open_11 : decode cX6_open 11 = .ok (.invokevirtual 52, 3) := by decide +kernel
theorem dX6_open_14 : decode cX6_open 14 = .ok (.iload_n 2, 1) := by decide +kernel
theorem dX6_open_15 : decode cX6_open 15 = .ok (.ireturn, 1) := by decide +kernel
set_option maxRecDepth 20000 in
theorem ggX6_addStains_X6_stainsOf : GoodIn wsX6_addStains wsX6_stainsOf := goodIn_ca (goodIn_r _ [5, 6, 7, 8, 4, 9, 10, 15] (by decide +kernel) (by decide +kernel)) (goodIn_sub (fun _ h => List.mem_cons_of_mem _ (List.mem_append_right _ h)) (by decide +kernel))
set_option maxRecDepth 20000 in
theorem gX6_addStains_X6_stainsOf : GoodIn wsX6_addStains (wsV RX6 62 RX6 yX6_stainsOf wsX6_stainsOf) := goodIn_app (goodIn_of _ (by decide +kernel)) ggX6_addStains_X6_stainsOf
set_option maxRecDepth 20000 in
theorem ggX6_addStains_X6_setOfNapkin : GoodIn wsX6_addStains wsX6_setOfNapkin := goodIn_ca (goodIn_r _ [14, 10, 15] (by decide +kernel) (by decide +kernel)) (goodIn_sub (fun _ h => List.mem_cons_of_mem _ (List.mem_append_right _ h)) (by decide +kernel))
set_option maxRecDepth 20000 in
theorem gX6_addStains_X6_setOfNapkin : GoodIn wsX6_addStains (wsV RX6 52 RX6 yX6_setOfNapkin wsX6_setOfNapkin) := goodIn_app (goodIn_of _ (by decide +kernel)) ggX6_addStains_X6_setOfNapkin
theorem dX6_addStains_0 : decode cX6_addStains 0 = .ok (.aload_n 0, 1) := by decide +kernel
theorem dX6_addStains_1 : decode cX6_addStains 1 = .ok (.iload_n 1, 1) := by decide +kernel
theorem dX6_addStains_2 : decode cX6_addStains 2 = .ok (.invokevirtual 62, 3) := by decide +kernel
theorem dX6_addStains_5 : decode cX6_addStains 5 = .ok (.iload_n 2, 1) := by decide +kernel
theorem dX6_addStains_6 : decode cX6_addStains 6 = .ok (.iadd, 1) := by decide +kernel
theorem dX6_addStains_7 : decode cX6_addStains 7 = .ok (.istore_n 3, 1) := by decide +kernel
theorem dX6_addStains_8 : decode cX6_addStains 8 = .ok (.aload_n 0, 1) := by decide +kernel
theorem dX6_addStains_9 : decode cX6_addStains 9 = .ok (.bipush 30, 2) := by decide +kernel
theorem dX6_addStains_11 : decode cX6_addStains 11 = .ok (.iload_n 1, 1) := by decide +kernel
theorem dX6_addStains_12 : decode cX6_addStains 12 = .ok (.iload_n 3, 1) := by decide +kernel
theorem dX6_addStains_13 : decode cX6_addStains 13 = .ok (.invokevirtual 52, 3) := by decide +kernel
theorem dX6_addStains_16 : decode cX6_addStains 16 = .ok (.iload_n 3, 1) := by decide +kernel
theorem dX6_addStains_17 : decode cX6_addStains 17 = .ok (.ireturn, 1) := by decide +kernel
set_option maxRecDepth 20000 in
theorem ggX6_clean_X6_stainsOf : GoodIn wsX6_clean wsX6_stainsOf := goodIn_ca (goodIn_r _ [6, 7, 8, 9, 5, 10, 1, 15] (by decide +kernel) (by decide +kernel)) (goodIn_sub (fun _ h => List.mem_cons_of_mem _ (List.mem_append_right _ h)) (by decide +kernel))
set_option maxRecDepth 20000 in
theorem gX6_clean_X6_stainsOf : GoodIn wsX6_clean (wsV RX6 62 RX6 yX6_stainsOf wsX6_stainsOf) := goodIn_app (goodIn_of _ (by decide +kernel)) ggX6_clean_X6_stainsOf
set_option maxRecDepth 20000 in
theorem ggX6_clean_X6_setOfNapkin : GoodIn wsX6_clean wsX6_setOfNapkin := goodIn_ca (goodIn_r _ [14, 1, 15] (by decide +kernel) (by decide +kernel)) (goodIn_sub (fun _ h => List.mem_cons_of_mem _ (List.mem_append_right _ h)) (by decide +kernel))
set_option maxRecDepth 20000 in
theorem gX6_clean_X6_setOfNapkin : GoodIn wsX6_clean (wsV RX6 52 RX6 yX6_setOfNapkin wsX6_setOfNapkin) := goodIn_app (goodIn_of _ (by decide +kernel)) ggX6_clean_X6_setOfNapkin
theorem dX6_clean_0 : decode cX6_clean 0 = .ok (.aload_n 0, 1) := by decide +kernel
theorem dX6_clean_1 : decode cX6_clean 1 = .ok (.iload_n 1, 1) := by decide +kernel
theorem dX6_clean_2 : decode cX6_clean 2 = .ok (.invokevirtual 62, 3) := by decide +kernel
theorem dX6_clean_5 : decode cX6_clean 5 = .ok (.istore_n 2, 1) := by decide +kernel
theorem dX6_clean_6 : decode cX6_clean 6 = .ok (.aload_n 0, 1) := by decide +kernel
theorem dX6_clean_7 : decode cX6_clean 7 = .ok (.bipush 30, 2) := by decide +kernel
theorem dX6_clean_9 : decode cX6_clean 9 = .ok (.iload_n 1, 1) := by decide +kernel
theorem dX6_clean_10 : decode cX6_clean 10 = .ok (.iconst 0, 1) := by decide +kernel
theorem dX6_clean_11 : decode cX6_clean 11 = .ok (.invokevirtual 52, 3) := by decide +kernel
theorem dX6_clean_14 : decode cX6_clean 14 = .ok (.aload_n 0, 1) := by decide +kernel
theorem dX6_clean_15 : decode cX6_clean 15 = .ok (.bipush 10, 2) := by decide +kernel
theorem dX6_clean_17 : decode cX6_clean 17 = .ok (.iload_n 1, 1) := by decide +kernel
theorem dX6_clean_18 : decode cX6_clean 18 = .ok (.iconst 0, 1) := by decide +kernel
theorem dX6_clean_19 : decode cX6_clean 19 = .ok (.invokevirtual 52, 3) := by decide +kernel
theorem dX6_clean_22 : decode cX6_clean 22 = .ok (.aload_n 0, 1) := by decide +kernel
theorem dX6_clean_23 : decode cX6_clean 23 = .ok (.getfield 11, 3) := by decide +kernel
theorem dX6_clean_26 : decode cX6_clean 26 = .ok (.bipush 79, 2) := by decide +kernel
theorem dX6_clean_28 : decode cX6_clean 28 = .ok (.dup2, 1) := by decide +kernel
theorem dX6_clean_29 : decode cX6_clean 29 = .ok (.iaload, 1) := by decide +kernel
theorem dX6_clean_30 : decode cX6_clean 30 = .ok (.iload_n 2, 1) := by decide +kernel
theorem dX6_clean_31 : decode cX6_clean 31 = .ok (.iadd, 1) := by decide +kernel
theorem dX6_clean_32 : decode cX6_clean 32 = .ok (.iastore, 1) := by decide +kernel
theorem dX6_clean_33 : decode cX6_clean 33 = .ok (.iload_n 2, 1) := by decide +kernel
theorem dX6_clean_34 : decode cX6_clean 34 = .ok (.ireturn, 1) := by decide +kernel
set_option maxRecDepth 20000 in
theorem ggX6_addLast_X6_laidOn : GoodIn wsX6_addLast wsX6_laidOn := goodIn_ca (goodIn_r _ [5, 6, 7, 8, 4, 9, 10, 30] (by decide +kernel) (by decide +kernel)) (goodIn_sub (fun _ h => List.mem_cons_of_mem _ (List.mem_append_right _ h)) (by decide +kernel))
set_option maxRecDepth 20000 in
theorem gX6_addLast_X6_laidOn : GoodIn wsX6_addLast (wsV RX6 21 RX6 yX6_laidOn wsX6_laidOn) := goodIn_app (goodIn_of _ (by decide +kernel)) ggX6_addLast_X6_laidOn
set_option maxRecDepth 20000 in
theorem ggX6_addLast_X6_insert : GoodIn wsX6_addLast wsX6_insert := goodIn_ca (goodIn_r _ [14, 1, 2, 3, 4, 5, 6, 7, 8, 9, 10, 15, 16, 17, 18, 19, 20, 21, 22, 23, 24, 25, 26, 27, 28, 29, 30] (by decide +kernel) (by decide +kernel)) (goodIn_sub (fun _ h => List.mem_cons_of_mem _ (List.mem_append_right _ h)) (by decide +kernel))
set_option maxRecDepth 20000 in
theorem gX6_addLast_X6_insert : GoodIn wsX6_addLast (wsV RX6 65 RX6 yX6_insert wsX6_insert) := goodIn_app (goodIn_of _ (by decide +kernel)) ggX6_addLast_X6_insert
theorem dX6_addLast_0 : decode cX6_addLast 0 = .ok (.aload_n 0, 1) := by decide +kernel
theorem dX6_addLast_1 : decode cX6_addLast 1 = .ok (.iload_n 2, 1) := by decide +kernel
theorem dX6_addLast_2 : decode cX6_addLast 2 = .ok (.invokevirtual 21, 3) := by decide +kernel
theorem dX6_addLast_5 : decode cX6_addLast 5 = .ok (.istore_n 3, 1) := by decide +kernel
theorem dX6_addLast_6 : decode cX6_addLast 6 = .ok (.aload_n 0, 1) := by decide +kernel
theorem dX6_addLast_7 : decode cX6_addLast 7 = .ok (.iload_n 2, 1) := by decide +kernel
theorem dX6_addLast_8 : decode cX6_addLast 8 = .ok (.iload_n 3, 1) := by decide +kernel
theorem dX6_addLast_9 : decode cX6_addLast 9 = .ok (.iload_n 1, 1) := by decide +kernel
theorem dX6_addLast_10 : decode cX6_addLast 10 = .ok (.invokevirtual 65, 3) := by decide +kernel
theorem dX6_addLast_13 : decode cX6_addLast 13 = .ok (.iload_n 3, 1) := by decide +kernel
theorem dX6_addLast_14 : decode cX6_addLast 14 = .ok (.ireturn, 1) := by decide +kernel
set_option maxRecDepth 20000 in
theorem ggX6_remove_X6_placeUnder : GoodIn wsX6_remove wsX6_placeUnder := goodIn_ca (goodIn_r _ [5, 6, 7, 8, 4, 9, 10, 42] (by decide +kernel) (by decide +kernel)) (goodIn_sub (fun _ h => List.mem_cons_of_mem _ (List.mem_append_right _ h)) (by decide +kernel))
set_option maxRecDepth 20000 in
theorem gX6_remove_X6_placeUnder : GoodIn wsX6_remove (wsV RX6 68 RX6 yX6_placeUnder wsX6_placeUnder) := goodIn_app (goodIn_of _ (by decide +kernel)) ggX6_remove_X6_placeUnder
set_option maxRecDepth 20000 in
theorem ggX6_remove_X6_tableUnder : GoodIn wsX6_remove wsX6_tableUnder := goodIn_ca (goodIn_r _ [14, 6, 7, 8, 4, 9, 10, 42] (by decide +kernel) (by decide +kernel)) (goodIn_sub (fun _ h => List.mem_cons_of_mem _ (List.mem_append_right _ h)) (by decide +kernel))
set_option maxRecDepth 20000 in
theorem gX6_remove_X6_tableUnder : GoodIn wsX6_remove (wsV RX6 71 RX6 yX6_tableUnder wsX6_tableUnder) := goodIn_app (goodIn_of _ (by decide +kernel)) ggX6_remove_X6_tableUnder
set_option maxRecDepth 20000 in
theorem ggX6_remove_X6_removeAt : GoodIn wsX6_remove wsX6_removeAt := goodIn_ca (goodIn_r _ [18, 19, 20, 21, 4, 22, 23, 24, 25, 26, 10, 27, 28, 29, 30, 31, 32, 33, 34, 35, 36, 37, 38, 39, 40, 41, 42] (by decide +kernel) (by decide +kernel)) (goodIn_sub (fun _ h => List.mem_cons_of_mem _ (List.mem_append_right _ h)) (by decide +kernel))
set_option maxRecDepth 20000 in
theorem gX6_remove_X6_removeAt : GoodIn wsX6_remove (wsV RX6 74 RX6 yX6_removeAt wsX6_removeAt) := goodIn_app (goodIn_of _ (by decide +kernel)) ggX6_remove_X6_removeAt
theorem dX6_remove_0 : decode cX6_remove 0 = .ok (.aload_n 0, 1) := by decide +kernel
theorem dX6_remove_1 : decode cX6_remove 1 = .ok (.iload_n 1, 1) := by decide +kernel
theorem dX6_remove_2 : decode cX6_remove 2 = .ok (.invokevirtual 68, 3) := by decide +kernel
theorem dX6_remove_5 : decode cX6_remove 5 = .ok (.istore_n 2, 1) := by decide +kernel
theorem dX6_remove_6 : decode cX6_remove 6 = .ok (.aload_n 0, 1) := by decide +kernel
theorem dX6_remove_7 : decode cX6_remove 7 = .ok (.aload_n 0, 1) := by decide +kernel
theorem dX6_remove_8 : decode cX6_remove 8 = .ok (.iload_n 1, 1) := by decide +kernel
theorem dX6_remove_9 : decode cX6_remove 9 = .ok (.invokevirtual 71, 3) := by decide +kernel
theorem dX6_remove_12 : decode cX6_remove 12 = .ok (.iload_n 2, 1) := by decide +kernel
theorem dX6_remove_13 : decode cX6_remove 13 = .ok (.invokevirtual 74, 3) := by decide +kernel
theorem dX6_remove_16 : decode cX6_remove 16 = .ok (.iload_n 2, 1) := by decide +kernel
theorem dX6_remove_17 : decode cX6_remove 17 = .ok (.ireturn, 1) := by decide +kernel
set_option maxRecDepth 20000 in
theorem ggX6_shift_X6_seatedAt : GoodIn wsX6_shift wsX6_seatedAt := goodIn_ca (goodIn_r _ [5, 6, 7, 8, 4, 9, 34] (by decide +kernel) (by decide +kernel)) (goodIn_sub (fun _ h => List.mem_cons_of_mem _ (List.mem_append_right _ h)) (by decide +kernel))
set_option maxRecDepth 20000 in
theorem gX6_shift_X6_seatedAt : GoodIn wsX6_shift (wsV RX6 39 RX6 yX6_seatedAt wsX6_seatedAt) := goodIn_app (goodIn_of _ (by decide +kernel)) ggX6_shift_X6_seatedAt
set_option maxRecDepth 20000 in
theorem ggX6_shift_X6_removeAt : GoodIn wsX6_shift wsX6_removeAt := goodIn_ca (goodIn_r _ [13, 14, 15, 16, 4, 17, 18, 19, 20, 21, 6, 1, 2, 3, 5, 7, 8, 9, 22, 23, 24, 25, 26, 27, 28, 29, 34] (by decide +kernel) (by decide +kernel)) (goodIn_sub (fun _ h => List.mem_cons_of_mem _ (List.mem_append_right _ h)) (by decide +kernel))
set_option maxRecDepth 20000 in
theorem gX6_shift_X6_removeAt : GoodIn wsX6_shift (wsV RX6 74 RX6 yX6_removeAt wsX6_removeAt) := goodIn_app (goodIn_of _ (by decide +kernel)) ggX6_shift_X6_removeAt
set_option maxRecDepth 20000 in
theorem ggX6_shift_X6_insert : GoodIn wsX6_shift wsX6_insert := goodIn_ca (goodIn_r _ [33, 14, 15, 16, 4, 17, 18, 19, 20, 21, 6, 1, 2, 3, 5, 7, 8, 9, 22, 23, 24, 25, 26, 27, 28, 29, 34] (by decide +kernel) (by decide +kernel)) (goodIn_sub (fun _ h => List.mem_cons_of_mem _ (List.mem_append_right _ h)) (by decide +kernel))
set_option maxRecDepth 20000 in
theorem gX6_shift_X6_insert : GoodIn wsX6_shift (wsV RX6 65 RX6 yX6_insert wsX6_insert) := goodIn_app (goodIn_of _ (by decide +kernel)) ggX6_shift_X6_insert
theorem dX6_shift_0 : decode cX6_shift 0 = .ok (.aload_n 0, 1) := by decide +kernel
theorem dX6_shift_1 : decode cX6_shift 1 = .ok (.iload_n 1, 1) := by decide +kernel
theorem dX6_shift_2 : decode cX6_shift 2 = .ok (.iload_n 2, 1) := by decide +kernel
theorem dX6_shift_3 : decode cX6_shift 3 = .ok (.invokevirtual 39, 3) := by decide +kernel
theorem dX6_shift_6 : decode cX6_shift 6 = .ok (.istore 4, 2) := by decide +kernel
theorem dX6_shift_8 : decode cX6_shift 8 = .ok (.aload_n 0, 1) := by decide +kernel
theorem dX6_shift_9 : decode cX6_shift 9 = .ok (.iload_n 1, 1) := by decide +kernel
theorem dX6_shift_10 : decode cX6_shift 10 = .ok (.iload_n 2, 1) := by decide +kernel
theorem dX6_shift_11 : decode cX6_shift 11 = .ok (.invokevirtual 74, 3) := by decide +kernel
theorem dX6_shift_14 : decode cX6_shift 14 = .ok (.aload_n 0, 1) := by decide +kernel
theorem dX6_shift_15 : decode cX6_shift 15 = .ok (.iload_n 1, 1) := by decide +kernel
theorem dX6_shift_16 : decode cX6_shift 16 = .ok (.iload_n 3, 1) := by decide +kernel
theorem dX6_shift_17 : decode cX6_shift 17 = .ok (.iload 4, 2) := by decide +kernel
theorem dX6_shift_19 : decode cX6_shift 19 = .ok (.invokevirtual 65, 3) := by decide +kernel
theorem dX6_shift_22 : decode cX6_shift 22 = .ok (.iload 4, 2) := by decide +kernel
theorem dX6_shift_24 : decode cX6_shift 24 = .ok (.ireturn, 1) := by decide +kernel
set_option maxRecDepth 20000 in
theorem ggX6_noteReading_X6_readingsOf : GoodIn wsX6_noteReading wsX6_readingsOf := goodIn_ca (goodIn_r _ [6, 7, 8, 9, 5, 10, 1, 19] (by decide +kernel) (by decide +kernel)) (goodIn_sub (fun _ h => List.mem_cons_of_mem _ (List.mem_append_right _ h)) (by decide +kernel))
set_option maxRecDepth 20000 in
theorem gX6_noteReading_X6_readingsOf : GoodIn wsX6_noteReading (wsV RX6 78 RX6 yX6_readingsOf wsX6_readingsOf) := goodIn_app (goodIn_of _ (by decide +kernel)) ggX6_noteReading_X6_readingsOf
set_option maxRecDepth 20000 in
theorem ggX6_noteReading_X6_setOfTable : GoodIn wsX6_noteReading wsX6_setOfTable := goodIn_ca (goodIn_r _ [14, 1, 19] (by decide +kernel) (by decide +kernel)) (goodIn_sub (fun _ h => List.mem_cons_of_mem _ (List.mem_append_right _ h)) (by decide +kernel))
set_option maxRecDepth 20000 in
theorem gX6_noteReading_X6_setOfTable : GoodIn wsX6_noteReading (wsV RX6 81 RX6 yX6_setOfTable wsX6_setOfTable) := goodIn_app (goodIn_of _ (by decide +kernel)) ggX6_noteReading_X6_setOfTable
set_option maxRecDepth 20000 in
theorem ggX6_noteReading_X6_puzzlesOf : GoodIn wsX6_noteReading wsX6_puzzlesOf := goodIn_ca (goodIn_r _ [18, 7, 8, 9, 5, 10, 1, 19] (by decide +kernel) (by decide +kernel)) (goodIn_sub (fun _ h => List.mem_cons_of_mem _ (List.mem_append_right _ h)) (by decide +kernel))
set_option maxRecDepth 20000 in
theorem gX6_noteReading_X6_puzzlesOf : GoodIn wsX6_noteReading (wsV RX6 84 RX6 yX6_puzzlesOf wsX6_puzzlesOf) := goodIn_app (goodIn_of _ (by decide +kernel)) ggX6_noteReading_X6_puzzlesOf
theorem dX6_noteReading_0 : decode cX6_noteReading 0 = .ok (.aload_n 0, 1) := by decide +kernel
theorem dX6_noteReading_1 : decode cX6_noteReading 1 = .ok (.bipush 71, 2) := by decide +kernel
theorem dX6_noteReading_3 : decode cX6_noteReading 3 = .ok (.iload_n 1, 1) := by decide +kernel
theorem dX6_noteReading_4 : decode cX6_noteReading 4 = .ok (.aload_n 0, 1) := by decide +kernel
theorem dX6_noteReading_5 : decode cX6_noteReading 5 = .ok (.iload_n 1, 1) := by decide +kernel
theorem dX6_noteReading_6 : decode cX6_noteReading 6 = .ok (.invokevirtual 78, 3) := by decide +kernel
theorem dX6_noteReading_9 : decode cX6_noteReading 9 = .ok (.iconst 1, 1) := by decide +kernel
theorem dX6_noteReading_10 : decode cX6_noteReading 10 = .ok (.iadd, 1) := by decide +kernel
theorem dX6_noteReading_11 : decode cX6_noteReading 11 = .ok (.invokevirtual 81, 3) := by decide +kernel
theorem dX6_noteReading_14 : decode cX6_noteReading 14 = .ok (.iload_n 2, 1) := by decide +kernel
theorem dX6_noteReading_15 : decode cX6_noteReading 15 = .ok (.ifCond .ne 17, 3) := by decide +kernel
theorem dX6_noteReading_18 : decode cX6_noteReading 18 = .ok (.aload_n 0, 1) := by decide +kernel
theorem dX6_noteReading_19 : decode cX6_noteReading 19 = .ok (.bipush 74, 2) := by decide +kernel
theorem dX6_noteReading_21 : decode cX6_noteReading 21 = .ok (.iload_n 1, 1) := by decide +kernel
theorem dX6_noteReading_22 : decode cX6_noteReading 22 = .ok (.aload_n 0, 1) := by decide +kernel
theorem dX6_noteReading_23 : decode cX6_noteReading 23 = .ok (.iload_n 1, 1) := by decide +kernel
theorem dX6_noteReading_24 : decode cX6_noteReading 24 = .ok (.invokevirtual 84, 3) := by decide +kernel
theorem dX6_noteReading_27 : decode cX6_noteReading 27 = .ok (.iconst 1, 1) := by decide +kernel
theorem dX6_noteReading_28 : decode cX6_noteReading 28 = .ok (.iadd, 1) := by decide +kernel
theorem dX6_noteReading_29 : decode cX6_noteReading 29 = .ok (.invokevirtual 81, 3) := by decide +kernel
theorem dX6_noteReading_32 : decode cX6_noteReading 32 = .ok (.aload_n 0, 1) := by decide +kernel
theorem dX6_noteReading_33 : decode cX6_noteReading 33 = .ok (.getfield 11, 3) := by decide +kernel
theorem dX6_noteReading_36 : decode cX6_noteReading 36 = .ok (.bipush 78, 2) := by decide +kernel
theorem dX6_noteReading_38 : decode cX6_noteReading 38 = .ok (.dup2, 1) := by decide +kernel
theorem dX6_noteReading_39 : decode cX6_noteReading 39 = .ok (.iaload, 1) := by decide +kernel
theorem dX6_noteReading_40 : decode cX6_noteReading 40 = .ok (.iload_n 2, 1) := by decide +kernel
theorem dX6_noteReading_41 : decode cX6_noteReading 41 = .ok (.iadd, 1) := by decide +kernel
theorem dX6_noteReading_42 : decode cX6_noteReading 42 = .ok (.iastore, 1) := by decide +kernel
theorem dX6_noteReading_43 : decode cX6_noteReading 43 = .ok (.return_, 1) := by decide +kernel
set_option maxRecDepth 20000 in
theorem ggX6_insert_X6_laidOn : GoodIn wsX6_insert wsX6_laidOn := goodIn_ca (goodIn_r _ [5, 6, 7, 8, 4, 9, 10, 26] (by decide +kernel) (by decide +kernel)) (goodIn_sub (fun _ h => List.mem_cons_of_mem _ (List.mem_append_right _ h)) (by decide +kernel))
set_option maxRecDepth 20000 in
theorem gX6_insert_X6_laidOn : GoodIn wsX6_insert (wsV RX6 21 RX6 yX6_laidOn wsX6_laidOn) := goodIn_app (goodIn_of _ (by decide +kernel)) ggX6_insert_X6_laidOn
set_option maxRecDepth 20000 in
theorem ggX6_insert_X6_seatedAt : GoodIn wsX6_insert wsX6_seatedAt := goodIn_ca (goodIn_r _ [14, 10, 15, 16, 4, 17, 26] (by decide +kernel) (by decide +kernel)) (goodIn_sub (fun _ h => List.mem_cons_of_mem _ (List.mem_append_right _ h)) (by decide +kernel))
set_option maxRecDepth 20000 in
theorem gX6_insert_X6_seatedAt : GoodIn wsX6_insert (wsV RX6 39 RX6 yX6_seatedAt wsX6_seatedAt) := goodIn_app (goodIn_of _ (by decide +kernel)) ggX6_insert_X6_seatedAt
set_option maxRecDepth 20000 in
theorem ggX6_insert_X6_setSeat : GoodIn wsX6_insert wsX6_setSeat := goodIn_ca (goodIn_r _ [21, 10, 15, 16, 4, 17, 26] (by decide +kernel) (by decide +kernel)) (goodIn_sub (fun _ h => List.mem_cons_of_mem _ (List.mem_append_right _ h)) (by decide +kernel))
set_option maxRecDepth 20000 in
theorem gX6_insert_X6_setSeat : GoodIn wsX6_insert (wsV RX6 87 RX6 yX6_setSeat wsX6_setSeat) := goodIn_app (goodIn_of _ (by decide +kernel)) ggX6_insert_X6_setSeat
set_option maxRecDepth 20000 in
theorem ggX6_insert_X6_setOfTable : GoodIn wsX6_insert wsX6_setOfTable := goodIn_ca (goodIn_r _ [25, 10, 26] (by decide +kernel) (by decide +kernel)) (goodIn_sub (fun _ h => List.mem_cons_of_mem _ (List.mem_append_right _ h)) (by decide +kernel))
set_option maxRecDepth 20000 in
theorem gX6_insert_X6_setOfTable : GoodIn wsX6_insert (wsV RX6 81 RX6 yX6_setOfTable wsX6_setOfTable) := goodIn_app (goodIn_of _ (by decide +kernel)) ggX6_insert_X6_setOfTable
theorem dX6_insert_0 : decode cX6_insert 0 = .ok (.aload_n 0, 1) := by decide +kernel
theorem dX6_insert_1 : decode cX6_insert 1 = .ok (.iload_n 1, 1) := by decide +kernel
theorem dX6_insert_2 : decode cX6_insert 2 = .ok (.invokevirtual 21, 3) := by decide +kernel
theorem dX6_insert_5 : decode cX6_insert 5 = .ok (.istore 4, 2) := by decide +kernel
theorem dX6_insert_7 : decode cX6_insert 7 = .ok (.iload 4, 2) := by decide +kernel
theorem dX6_insert_9 : decode cX6_insert 9 = .ok (.istore 5, 2) := by decide +kernel
theorem dX6_insert_11 : decode cX6_insert 11 = .ok (.iload 5, 2) := by decide +kernel
theorem dX6_insert_13 : decode cX6_insert 13 = .ok (.iload_n 2, 1) := by decide +kernel
theorem dX6_insert_14 : decode cX6_insert 14 = .ok (.if_icmp .le 25, 3) := by decide +kernel
theorem dX6_insert_17 : decode cX6_insert 17 = .ok (.aload_n 0, 1) := by decide +kernel
theorem dX6_insert_18 : decode cX6_insert 18 = .ok (.iload_n 1, 1) := by decide +kernel
theorem dX6_insert_19 : decode cX6_insert 19 = .ok (.iload 5, 2) := by decide +kernel
theorem dX6_insert_21 : decode cX6_insert 21 = .ok (.aload_n 0, 1) := by decide +kernel
theorem dX6_insert_22 : decode cX6_insert 22 = .ok (.iload_n 1, 1) := by decide +kernel
theorem dX6_insert_23 : decode cX6_insert 23 = .ok (.iload 5, 2) := by decide +kernel
theorem dX6_insert_25 : decode cX6_insert 25 = .ok (.iconst 1, 1) := by decide +kernel
theorem dX6_insert_26 : decode cX6_insert 26 = .ok (.isub, 1) := by decide +kernel
theorem dX6_insert_27 : decode cX6_insert 27 = .ok (.invokevirtual 39, 3) := by decide +kernel
theorem dX6_insert_30 : decode cX6_insert 30 = .ok (.invokevirtual 87, 3) := by decide +kernel
theorem dX6_insert_33 : decode cX6_insert 33 = .ok (.iinc 5 (-1), 3) := by decide +kernel
theorem dX6_insert_36 : decode cX6_insert 36 = .ok (.goto (-25), 3) := by decide +kernel
theorem dX6_insert_39 : decode cX6_insert 39 = .ok (.aload_n 0, 1) := by decide +kernel
theorem dX6_insert_40 : decode cX6_insert 40 = .ok (.iload_n 1, 1) := by decide +kernel
theorem dX6_insert_41 : decode cX6_insert 41 = .ok (.iload_n 2, 1) := by decide +kernel
theorem dX6_insert_42 : decode cX6_insert 42 = .ok (.iload_n 3, 1) := by decide +kernel
theorem dX6_insert_43 : decode cX6_insert 43 = .ok (.invokevirtual 87, 3) := by decide +kernel
theorem dX6_insert_46 : decode cX6_insert 46 = .ok (.aload_n 0, 1) := by decide +kernel
theorem dX6_insert_47 : decode cX6_insert 47 = .ok (.bipush 68, 2) := by decide +kernel
theorem dX6_insert_49 : decode cX6_insert 49 = .ok (.iload_n 1, 1) := by decide +kernel
theorem dX6_insert_50 : decode cX6_insert 50 = .ok (.iload 4, 2) := by decide +kernel
theorem dX6_insert_52 : decode cX6_insert 52 = .ok (.iconst 1, 1) := by decide +kernel
theorem dX6_insert_53 : decode cX6_insert 53 = .ok (.iadd, 1) := by decide +kernel
theorem dX6_insert_54 : decode cX6_insert 54 = .ok (.invokevirtual 81, 3) := by decide +kernel
theorem dX6_insert_57 : decode cX6_insert 57 = .ok (.return_, 1) := by decide +kernel
set_option maxRecDepth 20000 in
theorem ggX6_removeAt_X6_laidOn : GoodIn wsX6_removeAt wsX6_laidOn := goodIn_ca (goodIn_r _ [5, 6, 7, 8, 4, 9, 10, 26] (by decide +kernel) (by decide +kernel)) (goodIn_sub (fun _ h => List.mem_cons_of_mem _ (List.mem_append_right _ h)) (by decide +kernel))
set_option maxRecDepth 20000 in
theorem gX6_removeAt_X6_laidOn : GoodIn wsX6_removeAt (wsV RX6 21 RX6 yX6_laidOn wsX6_laidOn) := goodIn_app (goodIn_of _ (by decide +kernel)) ggX6_removeAt_X6_laidOn
set_option maxRecDepth 20000 in
theorem ggX6_removeAt_X6_seatedAt : GoodIn wsX6_removeAt wsX6_seatedAt := goodIn_ca (goodIn_r _ [14, 10, 15, 16, 4, 17, 26] (by decide +kernel) (by decide +kernel)) (goodIn_sub (fun _ h => List.mem_cons_of_mem _ (List.mem_append_right _ h)) (by decide +kernel))
set_option maxRecDepth 20000 in
theorem gX6_removeAt_X6_seatedAt : GoodIn wsX6_removeAt (wsV RX6 39 RX6 yX6_seatedAt wsX6_seatedAt) := goodIn_app (goodIn_of _ (by decide +kernel)) ggX6_removeAt_X6_seatedAt
set_option maxRecDepth 20000 in
theorem ggX6_removeAt_X6_setSeat : GoodIn wsX6_removeAt wsX6_setSeat := goodIn_ca (goodIn_r _ [21, 10, 15, 16, 4, 17, 26] (by decide +kernel) (by decide +kernel)) (goodIn_sub (fun _ h => List.mem_cons_of_mem _ (List.mem_append_right _ h)) (by decide +kernel))
set_option maxRecDepth 20000 in
theorem gX6_removeAt_X6_setSeat : GoodIn wsX6_removeAt (wsV RX6 87 RX6 yX6_setSeat wsX6_setSeat) := goodIn_app (goodIn_of _ (by decide +kernel)) ggX6_removeAt_X6_setSeat
set_option maxRecDepth 20000 in
theorem ggX6_removeAt_X6_setOfTable : GoodIn wsX6_removeAt wsX6_setOfTable := goodIn_ca (goodIn_r _ [25, 10, 26] (by decide +kernel) (by decide +kernel)) (goodIn_sub (fun _ h => List.mem_cons_of_mem _ (List.mem_append_right _ h)) (by decide +kernel))
set_option maxRecDepth 20000 in
theorem gX6_removeAt_X6_setOfTable : GoodIn wsX6_removeAt (wsV RX6 81 RX6 yX6_setOfTable wsX6_setOfTable) := goodIn_app (goodIn_of _ (by decide +kernel)) ggX6_removeAt_X6_setOfTable
theorem dX6_removeAt_0 : decode cX6_removeAt 0 = .ok (.aload_n 0, 1) := by decide +kernel
theorem dX6_removeAt_1 : decode cX6_removeAt 1 = .ok (.iload_n 1, 1) := by decide +kernel
theorem dX6_removeAt_2 : decode cX6_removeAt 2 = .ok (.invokevirtual 21, 3) := by decide +kernel
theorem dX6_removeAt_5 : decode cX6_removeAt 5 = .ok (.istore_n 3, 1) := by decide +kernel
theorem dX6_removeAt_6 : decode cX6_removeAt 6 = .ok (.iload_n 2, 1) := by decide +kernel
theorem dX6_removeAt_7 : decode cX6_removeAt 7 = .ok (.iconst 1, 1) := by decide +kernel
theorem dX6_removeAt_8 : decode cX6_removeAt 8 = .ok (.iadd, 1) := by decide +kernel
theorem dX6_removeAt_9 : decode cX6_removeAt 9 = .ok (.istore 4, 2) := by decide +kernel
theorem dX6_removeAt_11 : decode cX6_removeAt 11 = .ok (.iload 4, 2) := by decide +kernel
theorem dX6_removeAt_13 : decode cX6_removeAt 13 = .ok (.iload_n 3, 1) := by decide +kernel
theorem dX6_removeAt_14 : decode cX6_removeAt 14 = .ok (.if_icmp .ge 25, 3) := by decide +kernel
theorem dX6_removeAt_17 : decode cX6_removeAt 17 = .ok (.aload_n 0, 1) := by decide +kernel
theorem dX6_removeAt_18 : decode cX6_removeAt 18 = .ok (.iload_n 1, 1) := by decide +kernel
theorem dX6_removeAt_19 : decode cX6_removeAt 19 = .ok (.iload 4, 2) := by decide +kernel
theorem dX6_removeAt_21 : decode cX6_removeAt 21 = .ok (.iconst 1, 1) := by decide +kernel
theorem dX6_removeAt_22 : decode cX6_removeAt 22 = .ok (.isub, 1) := by decide +kernel
theorem dX6_removeAt_23 : decode cX6_removeAt 23 = .ok (.aload_n 0, 1) := by decide +kernel
theorem dX6_removeAt_24 : decode cX6_removeAt 24 = .ok (.iload_n 1, 1) := by decide +kernel
theorem dX6_removeAt_25 : decode cX6_removeAt 25 = .ok (.iload 4, 2) := by decide +kernel
theorem dX6_removeAt_27 : decode cX6_removeAt 27 = .ok (.invokevirtual 39, 3) := by decide +kernel
theorem dX6_removeAt_30 : decode cX6_removeAt 30 = .ok (.invokevirtual 87, 3) := by decide +kernel
theorem dX6_removeAt_33 : decode cX6_removeAt 33 = .ok (.iinc 4 1, 3) := by decide +kernel
theorem dX6_removeAt_36 : decode cX6_removeAt 36 = .ok (.goto (-25), 3) := by decide +kernel
theorem dX6_removeAt_39 : decode cX6_removeAt 39 = .ok (.aload_n 0, 1) := by decide +kernel
theorem dX6_removeAt_40 : decode cX6_removeAt 40 = .ok (.bipush 68, 2) := by decide +kernel
theorem dX6_removeAt_42 : decode cX6_removeAt 42 = .ok (.iload_n 1, 1) := by decide +kernel
theorem dX6_removeAt_43 : decode cX6_removeAt 43 = .ok (.iload_n 3, 1) := by decide +kernel
theorem dX6_removeAt_44 : decode cX6_removeAt 44 = .ok (.iconst 1, 1) := by decide +kernel
theorem dX6_removeAt_45 : decode cX6_removeAt 45 = .ok (.isub, 1) := by decide +kernel
theorem dX6_removeAt_46 : decode cX6_removeAt 46 = .ok (.invokevirtual 81, 3) := by decide +kernel
theorem dX6_removeAt_49 : decode cX6_removeAt 49 = .ok (.return_, 1) := by decide +kernel
theorem dX6_seatUnder_0 : decode cX6_seatUnder 0 = .ok (.iconst 0, 1) := by decide +kernel
theorem dX6_seatUnder_1 : decode cX6_seatUnder 1 = .ok (.istore_n 2, 1) := by decide +kernel
theorem dX6_seatUnder_2 : decode cX6_seatUnder 2 = .ok (.iload_n 2, 1) := by decide +kernel
theorem dX6_seatUnder_3 : decode cX6_seatUnder 3 = .ok (.bipush 18, 2) := by decide +kernel
theorem dX6_seatUnder_5 : decode cX6_seatUnder 5 = .ok (.if_icmp .ge 43, 3) := by decide +kernel
theorem dX6_seatUnder_8 : decode cX6_seatUnder 8 = .ok (.iload_n 2, 1) := by decide +kernel
theorem dX6_seatUnder_9 : decode cX6_seatUnder 9 = .ok (.bipush 6, 2) := by decide +kernel
theorem dX6_seatUnder_11 : decode cX6_seatUnder 11 = .ok (.irem, 1) := by decide +kernel
theorem dX6_seatUnder_12 : decode cX6_seatUnder 12 = .ok (.aload_n 0, 1) := by decide +kernel
theorem dX6_seatUnder_13 : decode cX6_seatUnder 13 = .ok (.getfield 11, 3) := by decide +kernel
theorem dX6_seatUnder_16 : decode cX6_seatUnder 16 = .ok (.bipush 68, 2) := by decide +kernel
theorem dX6_seatUnder_18 : decode cX6_seatUnder 18 = .ok (.iload_n 2, 1) := by decide +kernel
theorem dX6_seatUnder_19 : decode cX6_seatUnder 19 = .ok (.bipush 6, 2) := by decide +kernel
theorem dX6_seatUnder_21 : decode cX6_seatUnder 21 = .ok (.idiv, 1) := by decide +kernel
theorem dX6_seatUnder_22 : decode cX6_seatUnder 22 = .ok (.iadd, 1) := by decide +kernel
theorem dX6_seatUnder_23 : decode cX6_seatUnder 23 = .ok (.iaload, 1) := by decide +kernel
theorem dX6_seatUnder_24 : decode cX6_seatUnder 24 = .ok (.if_icmp .ge 18, 3) := by decide +kernel
theorem dX6_seatUnder_27 : decode cX6_seatUnder 27 = .ok (.aload_n 0, 1) := by decide +kernel
theorem dX6_seatUnder_28 : decode cX6_seatUnder 28 = .ok (.getfield 11, 3) := by decide +kernel
theorem dX6_seatUnder_31 : decode cX6_seatUnder 31 = .ok (.bipush 50, 2) := by decide +kernel
theorem dX6_seatUnder_33 : decode cX6_seatUnder 33 = .ok (.iload_n 2, 1) := by decide +kernel
theorem dX6_seatUnder_34 : decode cX6_seatUnder 34 = .ok (.iadd, 1) := by decide +kernel
theorem dX6_seatUnder_35 : decode cX6_seatUnder 35 = .ok (.iaload, 1) := by decide +kernel
theorem dX6_seatUnder_36 : decode cX6_seatUnder 36 = .ok (.iload_n 1, 1) := by decide +kernel
theorem dX6_seatUnder_37 : decode cX6_seatUnder 37 = .ok (.if_icmp .ne 5, 3) := by decide +kernel
theorem dX6_seatUnder_40 : decode cX6_seatUnder 40 = .ok (.iload_n 2, 1) := by decide +kernel
theorem dX6_seatUnder_41 : decode cX6_seatUnder 41 = .ok (.ireturn, 1) := by decide +kernel
theorem dX6_seatUnder_42 : decode cX6_seatUnder 42 = .ok (.iinc 2 1, 3) := by decide +kernel
theorem dX6_seatUnder_45 : decode cX6_seatUnder 45 = .ok (.goto (-43), 3) := by decide +kernel
theorem dX6_seatUnder_48 : decode cX6_seatUnder 48 = .ok (.iconst (-1), 1) := by decide +kernel
theorem dX6_seatUnder_49 : decode cX6_seatUnder 49 = .ok (.ireturn, 1) := by decide +kernel
theorem dX6_sumOf_0 : decode cX6_sumOf 0 = .ok (.iconst 0, 1) := by decide +kernel
theorem dX6_sumOf_1 : decode cX6_sumOf 1 = .ok (.istore_n 3, 1) := by decide +kernel
theorem dX6_sumOf_2 : decode cX6_sumOf 2 = .ok (.iload_n 1, 1) := by decide +kernel
theorem dX6_sumOf_3 : decode cX6_sumOf 3 = .ok (.istore 4, 2) := by decide +kernel
theorem dX6_sumOf_5 : decode cX6_sumOf 5 = .ok (.iload 4, 2) := by decide +kernel
theorem dX6_sumOf_7 : decode cX6_sumOf 7 = .ok (.iload_n 1, 1) := by decide +kernel
theorem dX6_sumOf_8 : decode cX6_sumOf 8 = .ok (.iload_n 2, 1) := by decide +kernel
theorem dX6_sumOf_9 : decode cX6_sumOf 9 = .ok (.iadd, 1) := by decide +kernel
theorem dX6_sumOf_10 : decode cX6_sumOf 10 = .ok (.if_icmp .ge 26, 3) := by decide +kernel
theorem dX6_sumOf_13 : decode cX6_sumOf 13 = .ok (.iload 4, 2) := by decide +kernel
theorem dX6_sumOf_15 : decode cX6_sumOf 15 = .ok (.bipush 80, 2) := by decide +kernel
theorem dX6_sumOf_17 : decode cX6_sumOf 17 = .ok (.if_icmp .ge 19, 3) := by decide +kernel
theorem dX6_sumOf_20 : decode cX6_sumOf 20 = .ok (.iload_n 3, 1) := by decide +kernel
theorem dX6_sumOf_21 : decode cX6_sumOf 21 = .ok (.aload_n 0, 1) := by decide +kernel
theorem dX6_sumOf_22 : decode cX6_sumOf 22 = .ok (.getfield 11, 3) := by decide +kernel
theorem dX6_sumOf_25 : decode cX6_sumOf 25 = .ok (.iload 4, 2) := by decide +kernel
theorem dX6_sumOf_27 : decode cX6_sumOf 27 = .ok (.iaload, 1) := by decide +kernel
theorem dX6_sumOf_28 : decode cX6_sumOf 28 = .ok (.iadd, 1) := by decide +kernel
theorem dX6_sumOf_29 : decode cX6_sumOf 29 = .ok (.istore_n 3, 1) := by decide +kernel
theorem dX6_sumOf_30 : decode cX6_sumOf 30 = .ok (.iinc 4 1, 3) := by decide +kernel
theorem dX6_sumOf_33 : decode cX6_sumOf 33 = .ok (.goto (-28), 3) := by decide +kernel
theorem dX6_sumOf_36 : decode cX6_sumOf 36 = .ok (.iload_n 3, 1) := by decide +kernel
theorem dX6_sumOf_37 : decode cX6_sumOf 37 = .ok (.ireturn, 1) := by decide +kernel
theorem dX6_ofNapkin_0 : decode cX6_ofNapkin 0 = .ok (.iload_n 2, 1) := by decide +kernel
theorem dX6_ofNapkin_1 : decode cX6_ofNapkin 1 = .ok (.ifCond .lt 20, 3) := by decide +kernel
theorem dX6_ofNapkin_4 : decode cX6_ofNapkin 4 = .ok (.iload_n 2, 1) := by decide +kernel
theorem dX6_ofNapkin_5 : decode cX6_ofNapkin 5 = .ok (.bipush 10, 2) := by decide +kernel
theorem dX6_ofNapkin_7 : decode cX6_ofNapkin 7 = .ok (.if_icmp .ge 14, 3) := by decide +kernel
theorem dX6_ofNapkin_10 : decode cX6_ofNapkin 10 = .ok (.aload_n 0, 1) := by decide +kernel
theorem dX6_ofNapkin_11 : decode cX6_ofNapkin 11 = .ok (.getfield 11, 3) := by decide +kernel
theorem dX6_ofNapkin_14 : decode cX6_ofNapkin 14 = .ok (.iload_n 1, 1) := by decide +kernel
theorem dX6_ofNapkin_15 : decode cX6_ofNapkin 15 = .ok (.iload_n 2, 1) := by decide +kernel
theorem dX6_ofNapkin_16 : decode cX6_ofNapkin 16 = .ok (.iadd, 1) := by decide +kernel
theorem dX6_ofNapkin_17 : decode cX6_ofNapkin 17 = .ok (.iaload, 1) := by decide +kernel
theorem dX6_ofNapkin_18 : decode cX6_ofNapkin 18 = .ok (.goto 4, 3) := by decide +kernel
theorem dX6_ofNapkin_21 : decode cX6_ofNapkin 21 = .ok (.iconst 0, 1) := by decide +kernel
theorem dX6_ofNapkin_22 : decode cX6_ofNapkin 22 = .ok (.ireturn, 1) := by decide +kernel
theorem dX6_setOfNapkin_0 : decode cX6_setOfNapkin 0 = .ok (.iload_n 2, 1) := by decide +kernel
theorem dX6_setOfNapkin_1 : decode cX6_setOfNapkin 1 = .ok (.ifCond .lt 18, 3) := by decide +kernel
theorem dX6_setOfNapkin_4 : decode cX6_setOfNapkin 4 = .ok (.iload_n 2, 1) := by decide +kernel
theorem dX6_setOfNapkin_5 : decode cX6_setOfNapkin 5 = .ok (.bipush 10, 2) := by decide +kernel
theorem dX6_setOfNapkin_7 : decode cX6_setOfNapkin 7 = .ok (.if_icmp .ge 12, 3) := by decide +kernel
theorem dX6_setOfNapkin_10 : decode cX6_setOfNapkin 10 = .ok (.aload_n 0, 1) := by decide +kernel
theorem dX6_setOfNapkin_11 : decode cX6_setOfNapkin 11 = .ok (.getfield 11, 3) := by decide +kernel
theorem dX6_setOfNapkin_14 : decode cX6_setOfNapkin 14 = .ok (.iload_n 1, 1) := by decide +kernel
theorem dX6_setOfNapkin_15 : decode cX6_setOfNapkin 15 = .ok (.iload_n 2, 1) := by decide +kernel
theorem dX6_setOfNapkin_16 : decode cX6_setOfNapkin 16 = .ok (.iadd, 1) := by decide +kernel
theorem dX6_setOfNapkin_17 : decode cX6_setOfNapkin 17 = .ok (.iload_n 3, 1) := by decide +kernel
theorem dX6_setOfNapkin_18 : decode cX6_setOfNapkin 18 = .ok (.iastore, 1) := by decide +kernel
theorem dX6_setOfNapkin_19 : decode cX6_setOfNapkin 19 = .ok (.return_, 1) := by decide +kernel
theorem dX6_ofTable_0 : decode cX6_ofTable 0 = .ok (.iload_n 2, 1) := by decide +kernel
theorem dX6_ofTable_1 : decode cX6_ofTable 1 = .ok (.ifCond .lt 19, 3) := by decide +kernel
theorem dX6_ofTable_4 : decode cX6_ofTable 4 = .ok (.iload_n 2, 1) := by decide +kernel
theorem dX6_ofTable_5 : decode cX6_ofTable 5 = .ok (.iconst 3, 1) := by decide +kernel
theorem dX6_ofTable_6 : decode cX6_ofTable 6 = .ok (.if_icmp .ge 14, 3) := by decide +kernel
theorem dX6_ofTable_9 : decode cX6_ofTable 9 = .ok (.aload_n 0, 1) := by decide +kernel
theorem dX6_ofTable_10 : decode cX6_ofTable 10 = .ok (.getfield 11, 3) := by decide +kernel
theorem dX6_ofTable_13 : decode cX6_ofTable 13 = .ok (.iload_n 1, 1) := by decide +kernel
theorem dX6_ofTable_14 : decode cX6_ofTable 14 = .ok (.iload_n 2, 1) := by decide +kernel
theorem dX6_ofTable_15 : decode cX6_ofTable 15 = .ok (.iadd, 1) := by decide +kernel
theorem dX6_ofTable_16 : decode cX6_ofTable 16 = .ok (.iaload, 1) := by decide +kernel
theorem dX6_ofTable_17 : decode cX6_ofTable 17 = .ok (.goto 4, 3) := by decide +kernel
theorem dX6_ofTable_20 : decode cX6_ofTable 20 = .ok (.iconst 0, 1) := by decide +kernel
theorem dX6_ofTable_21 : decode cX6_ofTable 21 = .ok (.ireturn, 1) := by decide +kernel
theorem dX6_setOfTable_0 : decode cX6_setOfTable 0 = .ok (.iload_n 2, 1) := by decide +kernel
theorem dX6_setOfTable_1 : decode cX6_setOfTable 1 = .ok (.ifCond .lt 17, 3) := by decide +kernel
theorem dX6_setOfTable_4 : decode cX6_setOfTable 4 = .ok (.iload_n 2, 1) := by decide +kernel
theorem dX6_setOfTable_5 : decode cX6_setOfTable 5 = .ok (.iconst 3, 1) := by decide +kernel
theorem dX6_setOfTable_6 : decode cX6_setOfTable 6 = .ok (.if_icmp .ge 12, 3) := by decide +kernel
theorem dX6_setOfTable_9 : decode cX6_setOfTable 9 = .ok (.aload_n 0, 1) := by decide +kernel
theorem dX6_setOfTable_10 : decode cX6_setOfTable 10 = .ok (.getfield 11, 3) := by decide +kernel
theorem dX6_setOfTable_13 : decode cX6_setOfTable 13 = .ok (.iload_n 1, 1) := by decide +kernel
theorem dX6_setOfTable_14 : decode cX6_setOfTable 14 = .ok (.iload_n 2, 1) := by decide +kernel
