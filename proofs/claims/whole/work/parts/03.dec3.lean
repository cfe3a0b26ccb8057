set_option maxRecDepth 20000 in
theorem ggX8_isTableAhead_X4_doubtByNapkins : GoodIn wsX8_isTableAhead wsX4_doubtByNapkins := goodIn_ca (goodIn_r _ [76, 13, 77, 78, 79, 11, 80, 17, 81, 82, 83, 84, 97, 98, 99, 100, 101, 102, 103] (by decide +kernel) (by decide +kernel)) (goodIn_sub (fun _ h => List.mem_cons_of_mem _ (List.mem_append_right _ h)) (by decide +kernel))
set_option maxRecDepth 20000 in
theorem gX8_isTableAhead_X4_doubtByNapkins : GoodIn wsX8_isTableAhead (wsV RX8 230 RX4 yX4_doubtByNapkins wsX4_doubtByNapkins) := goodIn_app (goodIn_of _ (by decide +kernel)) ggX8_isTableAhead_X4_doubtByNapkins
theorem dX8_isTableAhead_0 : decode cX8_isTableAhead 0 = .ok (.aload_n 0, 1) := by decide +kernel
theorem dX8_isTableAhead_1 : decode cX8_isTableAhead 1 = .ok (.iload_n 1, 1) := by decide +kernel
theorem dX8_isTableAhead_2 : decode cX8_isTableAhead 2 = .ok (.invokevirtual 151, 3) := by decide +kernel
theorem dX8_isTableAhead_5 : decode cX8_isTableAhead 5 = .ok (.invokevirtual 200, 3) := by decide +kernel
theorem dX8_isTableAhead_8 : decode cX8_isTableAhead 8 = .ok (.istore_n 3, 1) := by decide +kernel
theorem dX8_isTableAhead_9 : decode cX8_isTableAhead 9 = .ok (.aload_n 0, 1) := by decide +kernel
theorem dX8_isTableAhead_10 : decode cX8_isTableAhead 10 = .ok (.iload_n 2, 1) := by decide +kernel
theorem dX8_isTableAhead_11 : decode cX8_isTableAhead 11 = .ok (.invokevirtual 151, 3) := by decide +kernel
theorem dX8_isTableAhead_14 : decode cX8_isTableAhead 14 = .ok (.invokevirtual 200, 3) := by decide +kernel
theorem dX8_isTableAhead_17 : decode cX8_isTableAhead 17 = .ok (.istore 4, 2) := by decide +kernel
theorem dX8_isTableAhead_19 : decode cX8_isTableAhead 19 = .ok (.iload_n 3, 1) := by decide +kernel
theorem dX8_isTableAhead_20 : decode cX8_isTableAhead 20 = .ok (.iload 4, 2) := by decide +kernel
theorem dX8_isTableAhead_22 : decode cX8_isTableAhead 22 = .ok (.if_icmp .eq 15, 3) := by decide +kernel
theorem dX8_isTableAhead_25 : decode cX8_isTableAhead 25 = .ok (.iload_n 3, 1) := by decide +kernel
theorem dX8_isTableAhead_26 : decode cX8_isTableAhead 26 = .ok (.iload 4, 2) := by decide +kernel
theorem dX8_isTableAhead_28 : decode cX8_isTableAhead 28 = .ok (.if_icmp .le 7, 3) := by decide +kernel
theorem dX8_isTableAhead_31 : decode cX8_isTableAhead 31 = .ok (.iconst 1, 1) := by decide +kernel
theorem dX8_isTableAhead_32 : decode cX8_isTableAhead 32 = .ok (.goto 4, 3) := by decide +kernel
theorem dX8_isTableAhead_35 : decode cX8_isTableAhead 35 = .ok (.iconst 0, 1) := by decide +kernel
theorem dX8_isTableAhead_36 : decode cX8_isTableAhead 36 = .ok (.ireturn, 1) := by decide +kernel
theorem dX8_isTableAhead_37 : decode cX8_isTableAhead 37 = .ok (.aload_n 0, 1) := by decide +kernel
theorem dX8_isTableAhead_38 : decode cX8_isTableAhead 38 = .ok (.iload_n 1, 1) := by decide +kernel
theorem dX8_isTableAhead_39 : decode cX8_isTableAhead 39 = .ok (.invokevirtual 151, 3) := by decide +kernel
theorem dX8_isTableAhead_42 : decode cX8_isTableAhead 42 = .ok (.invokevirtual 230, 3) := by decide +kernel
theorem dX8_isTableAhead_45 : decode cX8_isTableAhead 45 = .ok (.istore 5, 2) := by decide +kernel
theorem dX8_isTableAhead_47 : decode cX8_isTableAhead 47 = .ok (.aload_n 0, 1) := by decide +kernel
theorem dX8_isTableAhead_48 : decode cX8_isTableAhead 48 = .ok (.iload_n 2, 1) := by decide +kernel
theorem dX8_isTableAhead_49 : decode cX8_isTableAhead 49 = .ok (.invokevirtual 151, 3) := by decide +kernel
theorem dX8_isTableAhead_52 : decode cX8_isTableAhead 52 = .ok (.invokevirtual 230, 3) := by decide +kernel
theorem dX8_isTableAhead_55 : decode cX8_isTableAhead 55 = .ok (.istore 6, 2) := by decide +kernel
theorem dX8_isTableAhead_57 : decode cX8_isTableAhead 57 = .ok (.iload 5, 2) := by decide +kernel
theorem dX8_isTableAhead_59 : decode cX8_isTableAhead 59 = .ok (.iload 6, 2) := by decide +kernel
theorem dX8_isTableAhead_61 : decode cX8_isTableAhead 61 = .ok (.if_icmp .eq 16, 3) := by decide +kernel
theorem dX8_isTableAhead_64 : decode cX8_isTableAhead 64 = .ok (.iload 5, 2) := by decide +kernel
theorem dX8_isTableAhead_66 : decode cX8_isTableAhead 66 = .ok (.iload 6, 2) := by decide +kernel
theorem dX8_isTableAhead_68 : decode cX8_isTableAhead 68 = .ok (.if_icmp .ge 7, 3) := by decide +kernel
theorem dX8_isTableAhead_71 : decode cX8_isTableAhead 71 = .ok (.iconst 1, 1) := by decide +kernel
theorem dX8_isTableAhead_72 : decode cX8_isTableAhead 72 = .ok (.goto 4, 3) := by decide +kernel
theorem dX8_isTableAhead_75 : decode cX8_isTableAhead 75 = .ok (.iconst 0, 1) := by decide +kernel
theorem dX8_isTableAhead_76 : decode cX8_isTableAhead 76 = .ok (.ireturn, 1) := by decide +kernel
theorem dX8_isTableAhead_77 : decode cX8_isTableAhead 77 = .ok (.iload_n 1, 1) := by decide +kernel
theorem dX8_isTableAhead_78 : decode cX8_isTableAhead 78 = .ok (.iload_n 2, 1) := by decide +kernel
theorem dX8_isTableAhead_79 : decode cX8_isTableAhead 79 = .ok (.if_icmp .ge 7, 3) := by decide +kernel
theorem dX8_isTableAhead_82 : decode cX8_isTableAhead 82 = .ok (.iconst 1, 1) := by decide +kernel
theorem dX8_isTableAhead_83 : decode cX8_isTableAhead 83 = .ok (.goto 4, 3) := by decide +kernel
theorem dX8_isTableAhead_86 : decode cX8_isTableAhead 86 = .ok (.iconst 0, 1) := by decide +kernel
theorem dX8_isTableAhead_87 : decode cX8_isTableAhead 87 = .ok (.ireturn, 1) := by decide +kernel
set_option maxRecDepth 20000 in
theorem ggX8_napkinsAheadOf_X6_napkins : GoodIn wsX8_napkinsAheadOf wsX6_napkins := goodIn_ca (goodIn_r _ [6, 7, 37] (by decide +kernel) (by decide +kernel)) (goodIn_sub (fun _ h => List.mem_cons_of_mem _ (List.mem_append_right _ h)) (by decide +kernel))
set_option maxRecDepth 20000 in
theorem gX8_napkinsAheadOf_X6_napkins : GoodIn wsX8_napkinsAheadOf (wsV RX8 246 RX6 yX6_napkins wsX6_napkins) := goodIn_app (goodIn_of _ (by decide +kernel)) ggX8_napkinsAheadOf_X6_napkins
set_option maxRecDepth 20000 in
theorem ggX8_napkinsAheadOf_X8_isNapkinAhead : GoodIn wsX8_napkinsAheadOf wsX8_isNapkinAhead := goodIn_ca (goodIn_r _ [12, 1, 13, 14, 15, 5, 16, 17, 18, 19, 20, 7, 21, 22, 23, 24, 25, 26, 27, 28, 29, 30, 31, 32, 33, 34, 35, 36, 37] (by decide +kernel) (by decide +kernel)) (goodIn_sub (fun _ h => List.mem_cons_of_mem _ (List.mem_append_right _ h)) (by decide +kernel))
set_option maxRecDepth 20000 in
theorem gX8_napkinsAheadOf_X8_isNapkinAhead : GoodIn wsX8_napkinsAheadOf (wsV RX8 410 RX8 yX8_isNapkinAhead wsX8_isNapkinAhead) := goodIn_app (goodIn_of _ (by decide +kernel)) ggX8_napkinsAheadOf_X8_isNapkinAhead
theorem dX8_napkinsAheadOf_0 : decode cX8_napkinsAheadOf 0 = .ok (.iconst 0, 1) := by decide +kernel
theorem dX8_napkinsAheadOf_1 : decode cX8_napkinsAheadOf 1 = .ok (.istore_n 2, 1) := by decide +kernel
theorem dX8_napkinsAheadOf_2 : decode cX8_napkinsAheadOf 2 = .ok (.iconst 0, 1) := by decide +kernel
theorem dX8_napkinsAheadOf_3 : decode cX8_napkinsAheadOf 3 = .ok (.istore_n 3, 1) := by decide +kernel
theorem dX8_napkinsAheadOf_4 : decode cX8_napkinsAheadOf 4 = .ok (.iload_n 3, 1) := by decide +kernel
theorem dX8_napkinsAheadOf_5 : decode cX8_napkinsAheadOf 5 = .ok (.aload_n 0, 1) := by decide +kernel
theorem dX8_napkinsAheadOf_6 : decode cX8_napkinsAheadOf 6 = .ok (.getfield 20, 3) := by decide +kernel
theorem dX8_napkinsAheadOf_9 : decode cX8_napkinsAheadOf 9 = .ok (.invokevirtual 246, 3) := by decide +kernel
theorem dX8_napkinsAheadOf_12 : decode cX8_napkinsAheadOf 12 = .ok (.if_icmp .ge 21, 3) := by decide +kernel
theorem dX8_napkinsAheadOf_15 : decode cX8_napkinsAheadOf 15 = .ok (.aload_n 0, 1) := by decide +kernel
theorem dX8_napkinsAheadOf_16 : decode cX8_napkinsAheadOf 16 = .ok (.iload_n 3, 1) := by decide +kernel
theorem dX8_napkinsAheadOf_17 : decode cX8_napkinsAheadOf 17 = .ok (.iload_n 1, 1) := by decide +kernel
theorem dX8_napkinsAheadOf_18 : decode cX8_napkinsAheadOf 18 = .ok (.invokevirtual 410, 3) := by decide +kernel
theorem dX8_napkinsAheadOf_21 : decode cX8_napkinsAheadOf 21 = .ok (.ifCond .eq 6, 3) := by decide +kernel
theorem dX8_napkinsAheadOf_24 : decode cX8_napkinsAheadOf 24 = .ok (.iinc 2 1, 3) := by decide +kernel
theorem dX8_napkinsAheadOf_27 : decode cX8_napkinsAheadOf 27 = .ok (.iinc 3 1, 3) := by decide +kernel
theorem dX8_napkinsAheadOf_30 : decode cX8_napkinsAheadOf 30 = .ok (.goto (-26), 3) := by decide +kernel
theorem dX8_napkinsAheadOf_33 : decode cX8_napkinsAheadOf 33 = .ok (.iload_n 2, 1) := by decide +kernel
theorem dX8_napkinsAheadOf_34 : decode cX8_napkinsAheadOf 34 = .ok (.ireturn, 1) := by decide +kernel
set_option maxRecDepth 20000 in
theorem ggX8_isNapkinAhead_X6_creasesOf : GoodIn wsX8_isNapkinAhead wsX6_creasesOf := goodIn_ca (goodIn_r _ [6, 7, 8, 9, 5, 10, 11, 28] (by decide +kernel) (by decide +kernel)) (goodIn_sub (fun _ h => List.mem_cons_of_mem _ (List.mem_append_right _ h)) (by decide +kernel))
set_option maxRecDepth 20000 in
theorem gX8_isNapkinAhead_X6_creasesOf : GoodIn wsX8_isNapkinAhead (wsV RX8 124 RX6 yX6_creasesOf wsX6_creasesOf) := goodIn_app (goodIn_of _ (by decide +kernel)) ggX8_isNapkinAhead_X6_creasesOf
set_option maxRecDepth 20000 in
theorem ggX8_isNapkinAhead_X6_stainsOf : GoodIn wsX8_isNapkinAhead wsX6_stainsOf := goodIn_ca (goodIn_r _ [15, 7, 8, 9, 5, 10, 11, 28] (by decide +kernel) (by decide +kernel)) (goodIn_sub (fun _ h => List.mem_cons_of_mem _ (List.mem_append_right _ h)) (by decide +kernel))
set_option maxRecDepth 20000 in
theorem gX8_isNapkinAhead_X6_stainsOf : GoodIn wsX8_isNapkinAhead (wsV RX8 127 RX6 yX6_stainsOf wsX6_stainsOf) := goodIn_app (goodIn_of _ (by decide +kernel)) ggX8_isNapkinAhead_X6_stainsOf
theorem dX8_isNapkinAhead_0 : decode cX8_isNapkinAhead 0 = .ok (.aload_n 0, 1) := by decide +kernel
theorem dX8_isNapkinAhead_1 : decode cX8_isNapkinAhead 1 = .ok (.getfield 20, 3) := by decide +kernel
theorem dX8_isNapkinAhead_4 : decode cX8_isNapkinAhead 4 = .ok (.iload_n 1, 1) := by decide +kernel
theorem dX8_isNapkinAhead_5 : decode cX8_isNapkinAhead 5 = .ok (.invokevirtual 124, 3) := by decide +kernel
theorem dX8_isNapkinAhead_8 : decode cX8_isNapkinAhead 8 = .ok (.aload_n 0, 1) := by decide +kernel
theorem dX8_isNapkinAhead_9 : decode cX8_isNapkinAhead 9 = .ok (.getfield 20, 3) := by decide +kernel
theorem dX8_isNapkinAhead_12 : decode cX8_isNapkinAhead 12 = .ok (.iload_n 2, 1) := by decide +kernel
theorem dX8_isNapkinAhead_13 : decode cX8_isNapkinAhead 13 = .ok (.invokevirtual 124, 3) := by decide +kernel
theorem dX8_isNapkinAhead_16 : decode cX8_isNapkinAhead 16 = .ok (.if_icmp .eq 28, 3) := by decide +kernel
theorem dX8_isNapkinAhead_19 : decode cX8_isNapkinAhead 19 = .ok (.aload_n 0, 1) := by decide +kernel
theorem dX8_isNapkinAhead_20 : decode cX8_isNapkinAhead 20 = .ok (.getfield 20, 3) := by decide +kernel
theorem dX8_isNapkinAhead_23 : decode cX8_isNapkinAhead 23 = .ok (.iload_n 1, 1) := by decide +kernel
theorem dX8_isNapkinAhead_24 : decode cX8_isNapkinAhead 24 = .ok (.invokevirtual 124, 3) := by decide +kernel
theorem dX8_isNapkinAhead_27 : decode cX8_isNapkinAhead 27 = .ok (.aload_n 0, 1) := by decide +kernel
theorem dX8_isNapkinAhead_28 : decode cX8_isNapkinAhead 28 = .ok (.getfield 20, 3) := by decide +kernel
theorem dX8_isNapkinAhead_31 : decode cX8_isNapkinAhead 31 = .ok (.iload_n 2, 1) := by decide +kernel
theorem dX8_isNapkinAhead_32 : decode cX8_isNapkinAhead 32 = .ok (.invokevirtual 124, 3) := by decide +kernel
theorem dX8_isNapkinAhead_35 : decode cX8_isNapkinAhead 35 = .ok (.if_icmp .le 7, 3) := by decide +kernel
theorem dX8_isNapkinAhead_38 : decode cX8_isNapkinAhead 38 = .ok (.iconst 1, 1) := by decide +kernel
theorem dX8_isNapkinAhead_39 : decode cX8_isNapkinAhead 39 = .ok (.goto 4, 3) := by decide +kernel
theorem dX8_isNapkinAhead_42 : decode cX8_isNapkinAhead 42 = .ok (.iconst 0, 1) := by decide +kernel
theorem dX8_isNapkinAhead_43 : decode cX8_isNapkinAhead 43 = .ok (.ireturn, 1) := by decide +kernel
theorem dX8_isNapkinAhead_44 : decode cX8_isNapkinAhead 44 = .ok (.aload_n 0, 1) := by decide +kernel
theorem dX8_isNapkinAhead_45 : decode cX8_isNapkinAhead 45 = .ok (.getfield 20, 3) := by decide +kernel
theorem dX8_isNapkinAhead_48 : decode cX8_isNapkinAhead 48 = .ok (.iload_n 1, 1) := by decide +kernel
theorem dX8_isNapkinAhead_49 : decode cX8_isNapkinAhead 49 = .ok (.invokevirtual 127, 3) := by decide +kernel
theorem dX8_isNapkinAhead_52 : decode cX8_isNapkinAhead 52 = .ok (.aload_n 0, 1) := by decide +kernel
theorem dX8_isNapkinAhead_53 : decode cX8_isNapkinAhead 53 = .ok (.getfield 20, 3) := by decide +kernel
theorem dX8_isNapkinAhead_56 : decode cX8_isNapkinAhead 56 = .ok (.iload_n 2, 1) := by decide +kernel
theorem dX8_isNapkinAhead_57 : decode cX8_isNapkinAhead 57 = .ok (.invokevirtual 127, 3) := by decide +kernel
theorem dX8_isNapkinAhead_60 : decode cX8_isNapkinAhead 60 = .ok (.if_icmp .eq 28, 3) := by decide +kernel
theorem dX8_isNapkinAhead_63 : decode cX8_isNapkinAhead 63 = .ok (.aload_n 0, 1) := by decide +kernel
theorem dX8_isNapkinAhead_64 : decode cX8_isNapkinAhead 64 = .ok (.getfield 20, 3) := by decide +kernel
theorem dX8_isNapkinAhead_67 : decode cX8_isNapkinAhead 67 = .ok (.iload_n 1, 1) := by decide +kernel
theorem dX8_isNapkinAhead_68 : decode cX8_isNapkinAhead 68 = .ok (.invokevirtual 127, 3) := by decide +kernel
theorem dX8_isNapkinAhead_71 : decode cX8_isNapkinAhead 71 = .ok (.aload_n 0, 1) := by decide +kernel
theorem dX8_isNapkinAhead_72 : decode cX8_isNapkinAhead 72 = .ok (.getfield 20, 3) := by decide +kernel
theorem dX8_isNapkinAhead_75 : decode cX8_isNapkinAhead 75 = .ok (.iload_n 2, 1) := by decide +kernel
theorem dX8_isNapkinAhead_76 : decode cX8_isNapkinAhead 76 = .ok (.invokevirtual 127, 3) := by decide +kernel
theorem dX8_isNapkinAhead_79 : decode cX8_isNapkinAhead 79 = .ok (.if_icmp .le 7, 3) := by decide +kernel
theorem dX8_isNapkinAhead_82 : decode cX8_isNapkinAhead 82 = .ok (.iconst 1, 1) := by decide +kernel
theorem dX8_isNapkinAhead_83 : decode cX8_isNapkinAhead 83 = .ok (.goto 4, 3) := by decide +kernel
theorem dX8_isNapkinAhead_86 : decode cX8_isNapkinAhead 86 = .ok (.iconst 0, 1) := by decide +kernel
theorem dX8_isNapkinAhead_87 : decode cX8_isNapkinAhead 87 = .ok (.ireturn, 1) := by decide +kernel
theorem dX8_isNapkinAhead_88 : decode cX8_isNapkinAhead 88 = .ok (.iload_n 1, 1) := by decide +kernel
theorem dX8_isNapkinAhead_89 : decode cX8_isNapkinAhead 89 = .ok (.iload_n 2, 1) := by decide +kernel
theorem dX8_isNapkinAhead_90 : decode cX8_isNapkinAhead 90 = .ok (.if_icmp .ge 7, 3) := by decide +kernel
theorem dX8_isNapkinAhead_93 : decode cX8_isNapkinAhead 93 = .ok (.iconst 1, 1) := by decide +kernel
theorem dX8_isNapkinAhead_94 : decode cX8_isNapkinAhead 94 = .ok (.goto 4, 3) := by decide +kernel
theorem dX8_isNapkinAhead_97 : decode cX8_isNapkinAhead 97 = .ok (.iconst 0, 1) := by decide +kernel
theorem dX8_isNapkinAhead_98 : decode cX8_isNapkinAhead 98 = .ok (.ireturn, 1) := by decide +kernel
theorem dX9_init_0 : decode cX9_init 0 = .ok (.aload_n 0, 1) := by decide +kernel
theorem dX9_init_1 : decode cX9_init 1 = .ok (.invokespecial 1, 3) := by decide +kernel
theorem dX9_init_4 : decode cX9_init 4 = .ok (.aload_n 0, 1) := by decide +kernel
theorem dX9_init_5 : decode cX9_init 5 = .ok (.bipush 82, 2) := by decide +kernel
theorem dX9_init_7 : decode cX9_init 7 = .ok (.newarray .int, 2) := by decide +kernel
theorem dX9_init_9 : decode cX9_init 9 = .ok (.putfield 7, 3) := by decide +kernel
theorem dX9_init_12 : decode cX9_init 12 = .ok (.aload_n 0, 1) := by decide +kernel
theorem dX9_init_13 : decode cX9_init 13 = .ok (.bipush 82, 2) := by decide +kernel
theorem dX9_init_15 : decode cX9_init 15 = .ok (.newarray .int, 2) := by decide +kernel
theorem dX9_init_17 : decode cX9_init 17 = .ok (.putfield 13, 3) := by decide +kernel
theorem dX9_init_20 : decode cX9_init 20 = .ok (.aload_n 0, 1) := by decide +kernel
theorem dX9_init_21 : decode cX9_init 21 = .ok (.sipush 656, 3) := by decide +kernel
theorem dX9_init_24 : decode cX9_init 24 = .ok (.newarray .int, 2) := by decide +kernel
theorem dX9_init_26 : decode cX9_init 26 = .ok (.putfield 16, 3) := by decide +kernel
theorem dX9_init_29 : decode cX9_init 29 = .ok (.aload_n 0, 1) := by decide +kernel
theorem dX9_init_30 : decode cX9_init 30 = .ok (.bipush 82, 2) := by decide +kernel
theorem dX9_init_32 : decode cX9_init 32 = .ok (.newarray .int, 2) := by decide +kernel
theorem dX9_init_34 : decode cX9_init 34 = .ok (.putfield 19, 3) := by decide +kernel
theorem dX9_init_37 : decode cX9_init 37 = .ok (.aload_n 0, 1) := by decide +kernel
theorem dX9_init_38 : decode cX9_init 38 = .ok (.bipush 60, 2) := by decide +kernel
theorem dX9_init_40 : decode cX9_init 40 = .ok (.newarray .char, 2) := by decide +kernel
theorem dX9_init_42 : decode cX9_init 42 = .ok (.putfield 22, 3) := by decide +kernel
theorem dX9_init_45 : decode cX9_init 45 = .ok (.aload_n 0, 1) := by decide +kernel
theorem dX9_init_46 : decode cX9_init 46 = .ok (.iconst (-1), 1) := by decide +kernel
theorem dX9_init_47 : decode cX9_init 47 = .ok (.putfield 26, 3) := by decide +kernel
theorem dX9_init_50 : decode cX9_init 50 = .ok (.aload_n 0, 1) := by decide +kernel
theorem dX9_init_51 : decode cX9_init 51 = .ok (.bipush 60, 2) := by decide +kernel
theorem dX9_init_53 : decode cX9_init 53 = .ok (.newarray .char, 2) := by decide +kernel
theorem dX9_init_55 : decode cX9_init 55 = .ok (.putfield 30, 3) := by decide +kernel
theorem dX9_init_58 : decode cX9_init 58 = .ok (.aload_n 0, 1) := by decide +kernel
theorem dX9_init_59 : decode cX9_init 59 = .ok (.sipush 240, 3) := by decide +kernel
theorem dX9_init_62 : decode cX9_init 62 = .ok (.newarray .int, 2) := by decide +kernel
theorem dX9_init_64 : decode cX9_init 64 = .ok (.putfield 33, 3) := by decide +kernel
theorem dX9_init_67 : decode cX9_init 67 = .ok (.return_, 1) := by decide +kernel
theorem dX9_thrown_0 : decode cX9_thrown 0 = .ok (.aload_n 0, 1) := by decide +kernel
theorem dX9_thrown_1 : decode cX9_thrown 1 = .ok (.getfield 36, 3) := by decide +kernel
theorem dX9_thrown_4 : decode cX9_thrown 4 = .ok (.ireturn, 1) := by decide +kernel
theorem dX9_in_0 : decode cX9_in 0 = .ok (.iload_n 0, 1) := by decide +kernel
theorem dX9_in_1 : decode cX9_in 1 = .ok (.iload_n 1, 1) := by decide +kernel
theorem dX9_in_2 : decode cX9_in 2 = .ok (.if_icmp .lt 12, 3) := by decide +kernel
theorem dX9_in_5 : decode cX9_in 5 = .ok (.iload_n 0, 1) := by decide +kernel
theorem dX9_in_6 : decode cX9_in 6 = .ok (.iload_n 2, 1) := by decide +kernel
theorem dX9_in_7 : decode cX9_in 7 = .ok (.if_icmp .gt 7, 3) := by decide +kernel
theorem dX9_in_10 : decode cX9_in 10 = .ok (.iconst 1, 1) := by decide +kernel
theorem dX9_in_11 : decode cX9_in 11 = .ok (.goto 4, 3) := by decide +kernel
theorem dX9_in_14 : decode cX9_in 14 = .ok (.iconst 0, 1) := by decide +kernel
theorem dX9_in_15 : decode cX9_in 15 = .ok (.ireturn, 1) := by decide +kernel
theorem dX9_done_0 : decode cX9_done 0 = .ok (.aload_n 0, 1) := by decide +kernel
theorem dX9_done_1 : decode cX9_done 1 = .ok (.iconst 0, 1) := by decide +kernel
theorem dX9_done_2 : decode cX9_done 2 = .ok (.putfield 36, 3) := by decide +kernel
theorem dX9_done_5 : decode cX9_done 5 = .ok (.iload_n 1, 1) := by decide +kernel
theorem dX9_done_6 : decode cX9_done 6 = .ok (.ireturn, 1) := by decide +kernel
theorem dX9_fails_0 : decode cX9_fails 0 = .ok (.aload_n 0, 1) := by decide +kernel
theorem dX9_fails_1 : decode cX9_fails 1 = .ok (.iload_n 1, 1) := by decide +kernel
theorem dX9_fails_2 : decode cX9_fails 2 = .ok (.putfield 36, 3) := by decide +kernel
theorem dX9_fails_5 : decode cX9_fails 5 = .ok (.aload_n 0, 1) := by decide +kernel
theorem dX9_fails_6 : decode cX9_fails 6 = .ok (.iconst 0, 1) := by decide +kernel
theorem dX9_fails_7 : decode cX9_fails 7 = .ok (.putfield 39, 3) := by decide +kernel
theorem dX9_fails_10 : decode cX9_fails 10 = .ok (.iconst 0, 1) := by decide +kernel
theorem dX9_fails_11 : decode cX9_fails 11 = .ok (.ireturn, 1) := by decide +kernel
theorem dX9_refused_0 : decode cX9_refused 0 = .ok (.aload_n 0, 1) := by decide +kernel
theorem dX9_refused_1 : decode cX9_refused 1 = .ok (.iload_n 1, 1) := by decide +kernel
theorem dX9_refused_2 : decode cX9_refused 2 = .ok (.putfield 43, 3) := by decide +kernel
theorem dX9_refused_5 : decode cX9_refused 5 = .ok (.aload_n 0, 1) := by decide +kernel
theorem dX9_refused_6 : decode cX9_refused 6 = .ok (.iload_n 2, 1) := by decide +kernel
theorem dX9_refused_7 : decode cX9_refused 7 = .ok (.putfield 46, 3) := by decide +kernel
theorem dX9_refused_10 : decode cX9_refused 10 = .ok (.aload_n 0, 1) := by decide +kernel
theorem dX9_refused_11 : decode cX9_refused 11 = .ok (.iconst 0, 1) := by decide +kernel
theorem dX9_refused_12 : decode cX9_refused 12 = .ok (.putfield 49, 3) := by decide +kernel
theorem dX9_refused_15 : decode cX9_refused 15 = .ok (.aload_n 0, 1) := by decide +kernel
theorem dX9_refused_16 : decode cX9_refused 16 = .ok (.iconst 0, 1) := by decide +kernel
theorem dX9_refused_17 : decode cX9_refused 17 = .ok (.putfield 52, 3) := by decide +kernel
theorem dX9_refused_20 : decode cX9_refused 20 = .ok (.aload_n 0, 1) := by decide +kernel
theorem dX9_refused_21 : decode cX9_refused 21 = .ok (.iload_n 3, 1) := by decide +kernel
theorem dX9_refused_22 : decode cX9_refused 22 = .ok (.putfield 36, 3) := by decide +kernel
theorem dX9_refused_25 : decode cX9_refused 25 = .ok (.aload_n 0, 1) := by decide +kernel
theorem dX9_refused_26 : decode cX9_refused 26 = .ok (.iconst 1, 1) := by decide +kernel
theorem dX9_refused_27 : decode cX9_refused 27 = .ok (.putfield 39, 3) := by decide +kernel
theorem dX9_refused_30 : decode cX9_refused 30 = .ok (.iconst 0, 1) := by decide +kernel
theorem dX9_refused_31 : decode cX9_refused 31 = .ok (.ireturn, 1) := by decide +kernel
theorem dX9_copy_0 : decode cX9_copy 0 = .ok (.iconst 0, 1) := by decide +kernel
theorem dX9_copy_1 : decode cX9_copy 1 = .ok (.istore 4, 2) := by decide +kernel
theorem dX9_copy_3 : decode cX9_copy 3 = .ok (.iload 4, 2) := by decide +kernel
theorem dX9_copy_5 : decode cX9_copy 5 = .ok (.bipush 82, 2) := by decide +kernel
theorem dX9_copy_7 : decode cX9_copy 7 = .ok (.if_icmp .ge 21, 3) := by decide +kernel
theorem dX9_copy_10 : decode cX9_copy 10 = .ok (.aload_n 2, 1) := by decide +kernel
theorem dX9_copy_11 : decode cX9_copy 11 = .ok (.iload_n 3, 1) := by decide +kernel
theorem dX9_copy_12 : decode cX9_copy 12 = .ok (.iload 4, 2) := by decide +kernel
theorem dX9_copy_14 : decode cX9_copy 14 = .ok (.iadd, 1) := by decide +kernel
theorem dX9_copy_15 : decode cX9_copy 15 = .ok (.aload_n 0, 1) := by decide +kernel
theorem dX9_copy_16 : decode cX9_copy 16 = .ok (.iload_n 1, 1) := by decide +kernel
theorem dX9_copy_17 : decode cX9_copy 17 = .ok (.iload 4, 2) := by decide +kernel
theorem dX9_copy_19 : decode cX9_copy 19 = .ok (.iadd, 1) := by decide +kernel
theorem dX9_copy_20 : decode cX9_copy 20 = .ok (.iaload, 1) := by decide +kernel
theorem dX9_copy_21 : decode cX9_copy 21 = .ok (.iastore, 1) := by decide +kernel
theorem dX9_copy_22 : decode cX9_copy 22 = .ok (.iinc 4 1, 3) := by decide +kernel
theorem dX9_copy_25 : decode cX9_copy 25 = .ok (.goto (-22), 3) := by decide +kernel
theorem dX9_copy_28 : decode cX9_copy 28 = .ok (.return_, 1) := by decide +kernel
set_option maxRecDepth 20000 in
theorem ggX9_looksBack_X9_copy : GoodIn wsX9_looksBack wsX9_copy := goodIn_ca (goodIn_r _ [6] (by decide +kernel) (by decide +kernel)) (goodIn_sub (fun _ h => List.mem_cons_of_mem _ (List.mem_append_right _ h)) (by decide +kernel))
set_option maxRecDepth 20000 in
theorem gX9_looksBack_X9_copy : GoodIn wsX9_looksBack (va_wsS RX9 55 yX9_copy wsX9_copy) := goodIn_app (goodIn_of _ (by decide +kernel)) ggX9_looksBack_X9_copy
theorem dX9_looksBack_0 : decode cX9_looksBack 0 = .ok (.aload_n 0, 1) := by decide +kernel
theorem dX9_looksBack_1 : decode cX9_looksBack 1 = .ok (.getfield 7, 3) := by decide +kernel
theorem dX9_looksBack_4 : decode cX9_looksBack 4 = .ok (.iconst 0, 1) := by decide +kernel
theorem dX9_looksBack_5 : decode cX9_looksBack 5 = .ok (.aload_n 0, 1) := by decide +kernel
theorem dX9_looksBack_6 : decode cX9_looksBack 6 = .ok (.getfield 13, 3) := by decide +kernel
theorem dX9_looksBack_9 : decode cX9_looksBack 9 = .ok (.iconst 0, 1) := by decide +kernel
theorem dX9_looksBack_10 : decode cX9_looksBack 10 = .ok (.invokestatic 55, 3) := by decide +kernel
theorem dX9_looksBack_13 : decode cX9_looksBack 13 = .ok (.return_, 1) := by decide +kernel
set_option maxRecDepth 20000 in
theorem ggX9_kept_X9_copy : GoodIn wsX9_kept wsX9_copy := goodIn_ca (goodIn_r _ [9] (by decide +kernel) (by decide +kernel)) (goodIn_sub (fun _ h => List.mem_cons_of_mem _ (List.mem_append_right _ h)) (by decide +kernel))
set_option maxRecDepth 20000 in
theorem gX9_kept_X9_copy : GoodIn wsX9_kept (va_wsS RX9 55 yX9_copy wsX9_copy) := goodIn_app (goodIn_of _ (by decide +kernel)) ggX9_kept_X9_copy
theorem dX9_kept_0 : decode cX9_kept 0 = .ok (.aload_n 0, 1) := by decide +kernel
theorem dX9_kept_1 : decode cX9_kept 1 = .ok (.getfield 36, 3) := by decide +kernel
theorem dX9_kept_4 : decode cX9_kept 4 = .ok (.ifCond .eq 18, 3) := by decide +kernel
theorem dX9_kept_7 : decode cX9_kept 7 = .ok (.aload_n 0, 1) := by decide +kernel
theorem dX9_kept_8 : decode cX9_kept 8 = .ok (.getfield 13, 3) := by decide +kernel
theorem dX9_kept_11 : decode cX9_kept 11 = .ok (.iconst 0, 1) := by decide +kernel
theorem dX9_kept_12 : decode cX9_kept 12 = .ok (.aload_n 0, 1) := by decide +kernel
theorem dX9_kept_13 : decode cX9_kept 13 = .ok (.getfield 7, 3) := by decide +kernel
theorem dX9_kept_16 : decode cX9_kept 16 = .ok (.iconst 0, 1) := by decide +kernel
theorem dX9_kept_17 : decode cX9_kept 17 = .ok (.invokestatic 55, 3) := by decide +kernel
theorem dX9_kept_20 : decode cX9_kept 20 = .ok (.iconst 0, 1) := by decide +kernel
theorem dX9_kept_21 : decode cX9_kept 21 = .ok (.ireturn, 1) := by decide +kernel
theorem dX9_kept_22 : decode cX9_kept 22 = .ok (.aload_n 0, 1) := by decide +kernel
theorem dX9_kept_23 : decode cX9_kept 23 = .ok (.getfield 59, 3) := by decide +kernel
theorem dX9_kept_26 : decode cX9_kept 26 = .ok (.bipush 8, 2) := by decide +kernel
theorem dX9_kept_28 : decode cX9_kept 28 = .ok (.if_icmp .ne 43, 3) := by decide +kernel
theorem dX9_kept_31 : decode cX9_kept 31 = .ok (.iconst 0, 1) := by decide +kernel
theorem dX9_kept_32 : decode cX9_kept 32 = .ok (.istore_n 2, 1) := by decide +kernel
theorem dX9_kept_33 : decode cX9_kept 33 = .ok (.iload_n 2, 1) := by decide +kernel
theorem dX9_kept_34 : decode cX9_kept 34 = .ok (.sipush 574, 3) := by decide +kernel
theorem dX9_kept_37 : decode cX9_kept 37 = .ok (.if_icmp .ge 24, 3) := by decide +kernel
theorem dX9_kept_40 : decode cX9_kept 40 = .ok (.aload_n 0, 1) := by decide +kernel
theorem dX9_kept_41 : decode cX9_kept 41 = .ok (.getfield 16, 3) := by decide +kernel
theorem dX9_kept_44 : decode cX9_kept 44 = .ok (.iload_n 2, 1) := by decide +kernel
theorem dX9_kept_45 : decode cX9_kept 45 = .ok (.aload_n 0, 1) := by decide +kernel
theorem dX9_kept_46 : decode cX9_kept 46 = .ok (.getfield 16, 3) := by decide +kernel
theorem dX9_kept_49 : decode cX9_kept 49 = .ok (.iload_n 2, 1) := by decide +kernel
theorem dX9_kept_50 : decode cX9_kept 50 = .ok (.bipush 82, 2) := by decide +kernel
theorem dX9_kept_52 : decode cX9_kept 52 = .ok (.iadd, 1) := by decide +kernel
theorem dX9_kept_53 : decode cX9_kept 53 = .ok (.iaload, 1) := by decide +kernel
theorem dX9_kept_54 : decode cX9_kept 54 = .ok (.iastore, 1) := by decide +kernel
theorem dX9_kept_55 : decode cX9_kept 55 = .ok (.iinc 2 1, 3) := by decide +kernel
theorem dX9_kept_58 : decode cX9_kept 58 = .ok (.goto (-25), 3) := by decide +kernel
theorem dX9_kept_61 : decode cX9_kept 61 = .ok (.aload_n 0, 1) := by decide +kernel
theorem dX9_kept_62 : decode cX9_kept 62 = .ok (.dup, 1) := by decide +kernel
theorem dX9_kept_63 : decode cX9_kept 63 = .ok (.getfield 59, 3) := by decide +kernel
theorem dX9_kept_66 : decode cX9_kept 66 = .ok (.iconst 1, 1) := by decide +kernel
theorem dX9_kept_67 : decode cX9_kept 67 = .ok (.isub, 1) := by decide +kernel
theorem dX9_kept_68 : decode cX9_kept 68 = .ok (.putfield 59, 3) := by decide +kernel
theorem dX9_kept_71 : decode cX9_kept 71 = .ok (.aload_n 0, 1) := by decide +kernel
theorem dX9_kept_72 : decode cX9_kept 72 = .ok (.getfield 13, 3) := by decide +kernel
theorem dX9_kept_75 : decode cX9_kept 75 = .ok (.iconst 0, 1) := by decide +kernel
theorem dX9_kept_76 : decode cX9_kept 76 = .ok (.aload_n 0, 1) := by decide +kernel
theorem dX9_kept_77 : decode cX9_kept 77 = .ok (.getfield 16, 3) := by decide +kernel
theorem dX9_kept_80 : decode cX9_kept 80 = .ok (.aload_n 0, 1) := by decide +kernel
theorem dX9_kept_81 : decode cX9_kept 81 = .ok (.getfield 59, 3) := by decide +kernel
theorem dX9_kept_84 : decode cX9_kept 84 = .ok (.bipush 82, 2) := by decide +kernel
theorem dX9_kept_86 : decode cX9_kept 86 = .ok (.imul, 1) := by decide +kernel
theorem dX9_kept_87 : decode cX9_kept 87 = .ok (.invokestatic 55, 3) := by decide +kernel
theorem dX9_kept_90 : decode cX9_kept 90 = .ok (.aload_n 0, 1) := by decide +kernel
theorem dX9_kept_91 : decode cX9_kept 91 = .ok (.dup, 1) := by decide +kernel
theorem dX9_kept_92 : decode cX9_kept 92 = .ok (.getfield 59, 3) := by decide +kernel
theorem dX9_kept_95 : decode cX9_kept 95 = .ok (.iconst 1, 1) := by decide +kernel
theorem dX9_kept_96 : decode cX9_kept 96 = .ok (.iadd, 1) := by decide +kernel
theorem dX9_kept_97 : decode cX9_kept 97 = .ok (.putfield 59, 3) := by decide +kernel
theorem dX9_kept_100 : decode cX9_kept 100 = .ok (.iload_n 1, 1) := by decide +kernel
theorem dX9_kept_101 : decode cX9_kept 101 = .ok (.ireturn, 1) := by decide +kernel
set_option maxRecDepth 20000 in
theorem ggX9_isNapkin_X9_in : GoodIn wsX9_isNapkin wsX9_in := goodIn_r _ [5] (by decide +kernel) (by decide +kernel)
set_option maxRecDepth 20000 in
theorem gX9_isNapkin_X9_in : GoodIn wsX9_isNapkin (va_wsS RX9 62 yX9_in wsX9_in) := goodIn_app (goodIn_of _ (by decide +kernel)) ggX9_isNapkin_X9_in
theorem dX9_isNapkin_0 : decode cX9_isNapkin 0 = .ok (.iload_n 1, 1) := by decide +kernel
theorem dX9_isNapkin_1 : decode cX9_isNapkin 1 = .ok (.iconst 0, 1) := by decide +kernel
theorem dX9_isNapkin_2 : decode cX9_isNapkin 2 = .ok (.aload_n 0, 1) := by decide +kernel
theorem dX9_isNapkin_3 : decode cX9_isNapkin 3 = .ok (.getfield 7, 3) := by decide +kernel
theorem dX9_isNapkin_6 : decode cX9_isNapkin 6 = .ok (.iconst 0, 1) := by decide +kernel
theorem dX9_isNapkin_7 : decode cX9_isNapkin 7 = .ok (.iaload, 1) := by decide +kernel
theorem dX9_isNapkin_8 : decode cX9_isNapkin 8 = .ok (.iconst 1, 1) := by decide +kernel
theorem dX9_isNapkin_9 : decode cX9_isNapkin 9 = .ok (.isub, 1) := by decide +kernel
theorem dX9_isNapkin_10 : decode cX9_isNapkin 10 = .ok (.invokestatic 62, 3) := by decide +kernel
theorem dX9_isNapkin_13 : decode cX9_isNapkin 13 = .ok (.ireturn, 1) := by decide +kernel
set_option maxRecDepth 20000 in
theorem ggX9_isTable_X9_in : GoodIn wsX9_isTable wsX9_in := goodIn_r _ [4] (by decide +kernel) (by decide +kernel)
set_option maxRecDepth 20000 in
theorem gX9_isTable_X9_in : GoodIn wsX9_isTable (va_wsS RX9 62 yX9_in wsX9_in) := goodIn_app (goodIn_of _ (by decide +kernel)) ggX9_isTable_X9_in
theorem dX9_isTable_0 : decode cX9_isTable 0 = .ok (.iload_n 0, 1) := by decide +kernel
theorem dX9_isTable_1 : decode cX9_isTable 1 = .ok (.iconst 0, 1) := by decide +kernel
theorem dX9_isTable_2 : decode cX9_isTable 2 = .ok (.iconst 2, 1) := by decide +kernel
theorem dX9_isTable_3 : decode cX9_isTable 3 = .ok (.invokestatic 62, 3) := by decide +kernel
theorem dX9_isTable_6 : decode cX9_isTable 6 = .ok (.ireturn, 1) := by decide +kernel
theorem dX9_at_0 : decode cX9_at 0 = .ok (.aload_n 0, 1) := by decide +kernel
theorem dX9_at_1 : decode cX9_at 1 = .ok (.getfield 7, 3) := by decide +kernel
theorem dX9_at_4 : decode cX9_at 4 = .ok (.bipush 64, 2) := by decide +kernel
theorem dX9_at_6 : decode cX9_at 6 = .ok (.bipush 6, 2) := by decide +kernel
theorem dX9_at_8 : decode cX9_at 8 = .ok (.iload_n 1, 1) := by decide +kernel
theorem dX9_at_9 : decode cX9_at 9 = .ok (.imul, 1) := by decide +kernel
theorem dX9_at_10 : decode cX9_at 10 = .ok (.iadd, 1) := by decide +kernel
theorem dX9_at_11 : decode cX9_at 11 = .ok (.iload_n 2, 1) := by decide +kernel
theorem dX9_at_12 : decode cX9_at 12 = .ok (.iadd, 1) := by decide +kernel
theorem dX9_at_13 : decode cX9_at 13 = .ok (.iaload, 1) := by decide +kernel
theorem dX9_at_14 : decode cX9_at 14 = .ok (.ireturn, 1) := by decide +kernel
set_option maxRecDepth 20000 in
theorem ggX9_seatOf_X9_at : GoodIn wsX9_seatOf wsX9_at := goodIn_ca (goodIn_r _ [6, 1, 7, 8, 9, 10, 11, 12, 13, 14, 15, 16, 17, 18, 19, 20, 21, 22, 23, 24, 25, 26] (by decide +kernel) (by decide +kernel)) (goodIn_sub (fun _ h => List.mem_cons_of_mem _ (List.mem_append_right _ h)) (by decide +kernel))
set_option maxRecDepth 20000 in
theorem gX9_seatOf_X9_at : GoodIn wsX9_seatOf (wsV RX9 66 RX9 yX9_at wsX9_at) := goodIn_app (goodIn_of _ (by decide +kernel)) ggX9_seatOf_X9_at
theorem dX9_seatOf_0 : decode cX9_seatOf 0 = .ok (.iconst 0, 1) := by decide +kernel
theorem dX9_seatOf_1 : decode cX9_seatOf 1 = .ok (.istore_n 2, 1) := by decide +kernel
theorem dX9_seatOf_2 : decode cX9_seatOf 2 = .ok (.iload_n 2, 1) := by decide +kernel
theorem dX9_seatOf_3 : decode cX9_seatOf 3 = .ok (.iconst 3, 1) := by decide +kernel
theorem dX9_seatOf_4 : decode cX9_seatOf 4 = .ok (.if_icmp .ge 47, 3) := by decide +kernel
theorem dX9_seatOf_7 : decode cX9_seatOf 7 = .ok (.iconst 0, 1) := by decide +kernel
theorem dX9_seatOf_8 : decode cX9_seatOf 8 = .ok (.istore_n 3, 1) := by decide +kernel
theorem dX9_seatOf_9 : decode cX9_seatOf 9 = .ok (.iload_n 3, 1) := by decide +kernel
theorem dX9_seatOf_10 : decode cX9_seatOf 10 = .ok (.aload_n 0, 1) := by decide +kernel
theorem dX9_seatOf_11 : decode cX9_seatOf 11 = .ok (.getfield 7, 3) := by decide +kernel
theorem dX9_seatOf_14 : decode cX9_seatOf 14 = .ok (.bipush 55, 2) := by decide +kernel
theorem dX9_seatOf_16 : decode cX9_seatOf 16 = .ok (.iload_n 2, 1) := by decide +kernel
theorem dX9_seatOf_17 : decode cX9_seatOf 17 = .ok (.iadd, 1) := by decide +kernel
theorem dX9_seatOf_18 : decode cX9_seatOf 18 = .ok (.iaload, 1) := by decide +kernel
theorem dX9_seatOf_19 : decode cX9_seatOf 19 = .ok (.if_icmp .ge 26, 3) := by decide +kernel
theorem dX9_seatOf_22 : decode cX9_seatOf 22 = .ok (.aload_n 0, 1) := by decide +kernel
theorem dX9_seatOf_23 : decode cX9_seatOf 23 = .ok (.iload_n 2, 1) := by decide +kernel
theorem dX9_seatOf_24 : decode cX9_seatOf 24 = .ok (.iload_n 3, 1) := by decide +kernel
theorem dX9_seatOf_25 : decode cX9_seatOf 25 = .ok (.invokevirtual 66, 3) := by decide +kernel
theorem dX9_seatOf_28 : decode cX9_seatOf 28 = .ok (.iload_n 1, 1) := by decide +kernel
theorem dX9_seatOf_29 : decode cX9_seatOf 29 = .ok (.if_icmp .ne 10, 3) := by decide +kernel
theorem dX9_seatOf_32 : decode cX9_seatOf 32 = .ok (.bipush 10, 2) := by decide +kernel
theorem dX9_seatOf_34 : decode cX9_seatOf 34 = .ok (.iload_n 2, 1) := by decide +kernel
theorem dX9_seatOf_35 : decode cX9_seatOf 35 = .ok (.imul, 1) := by decide +kernel
theorem dX9_seatOf_36 : decode cX9_seatOf 36 = .ok (.iload_n 3, 1) := by decide +kernel
theorem dX9_seatOf_37 : decode cX9_seatOf 37 = .ok (.iadd, 1) := by decide +kernel
theorem dX9_seatOf_38 : decode cX9_seatOf 38 = .ok (.ireturn, 1) := by decide +kernel
theorem dX9_seatOf_39 : decode cX9_seatOf 39 = .ok (.iinc 3 1, 3) := by decide +kernel
theorem dX9_seatOf_42 : decode cX9_seatOf 42 = .ok (.goto (-33), 3) := by decide +kernel
theorem dX9_seatOf_45 : decode cX9_seatOf 45 = .ok (.iinc 2 1, 3) := by decide +kernel
theorem dX9_seatOf_48 : decode cX9_seatOf 48 = .ok (.goto (-46), 3) := by decide +kernel
theorem dX9_seatOf_51 : decode cX9_seatOf 51 = .ok (.iconst (-1), 1) := by decide +kernel
theorem dX9_seatOf_52 : decode cX9_seatOf 52 = .ok (.ireturn, 1) := by decide +kernel
set_option maxRecDepth 20000 in
theorem ggX9_comes_X9_in : GoodIn wsX9_comes wsX9_in := goodIn_r _ [5] (by decide +kernel) (by decide +kernel)
set_option maxRecDepth 20000 in
theorem gX9_comes_X9_in : GoodIn wsX9_comes (va_wsS RX9 62 yX9_in wsX9_in) := goodIn_app (goodIn_of _ (by decide +kernel)) ggX9_comes_X9_in
set_option maxRecDepth 20000 in
theorem ggX9_comes_X9_fails : GoodIn wsX9_comes wsX9_fails := goodIn_r _ [9, 10, 11, 24, 25, 26, 27, 28, 29, 30, 31, 32, 33, 34, 35, 36, 37, 38, 39, 40, 41, 42, 43] (by decide +kernel) (by decide +kernel)
set_option maxRecDepth 20000 in
theorem gX9_comes_X9_fails : GoodIn wsX9_comes (wsV RX9 70 RX9 yX9_fails wsX9_fails) := goodIn_app (goodIn_of _ (by decide +kernel)) ggX9_comes_X9_fails
set_option maxRecDepth 20000 in
theorem ggX9_comes_X9_refused : GoodIn wsX9_comes wsX9_refused := goodIn_r _ [15, 16, 17, 18, 19, 10, 11, 24, 25, 26, 27, 28, 29, 30, 31, 32, 33, 34, 35, 36, 37, 38, 39, 40, 41, 42, 43] (by decide +kernel) (by decide +kernel)
set_option maxRecDepth 20000 in
theorem gX9_comes_X9_refused : GoodIn wsX9_comes (wsV RX9 74 RX9 yX9_refused wsX9_refused) := goodIn_app (goodIn_of _ (by decide +kernel)) ggX9_comes_X9_refused
set_option maxRecDepth 20000 in
theorem ggX9_comes_X9_done : GoodIn wsX9_comes wsX9_done := goodIn_r _ [23, 10, 24, 25, 26, 27, 28, 29, 30, 31, 32, 33, 34, 35, 36, 37, 38, 39, 40, 41, 42, 43] (by decide +kernel) (by decide +kernel)
set_option maxRecDepth 20000 in
theorem gX9_comes_X9_done : GoodIn wsX9_comes (wsV RX9 78 RX9 yX9_done wsX9_done) := goodIn_app (goodIn_of _ (by decide +kernel)) ggX9_comes_X9_done
theorem dX9_comes_0 : decode cX9_comes 0 = .ok (.iload_n 1, 1) := by decide +kernel
theorem dX9_comes_1 : decode cX9_comes 1 = .ok (.iconst 0, 1) := by decide +kernel
theorem dX9_comes_2 : decode cX9_comes 2 = .ok (.iconst 3, 1) := by decide +kernel
theorem dX9_comes_3 : decode cX9_comes 3 = .ok (.invokestatic 62, 3) := by decide +kernel
theorem dX9_comes_6 : decode cX9_comes 6 = .ok (.ifCond .ne 9, 3) := by decide +kernel
theorem dX9_comes_9 : decode cX9_comes 9 = .ok (.aload_n 0, 1) := by decide +kernel
theorem dX9_comes_10 : decode cX9_comes 10 = .ok (.iconst 1, 1) := by decide +kernel
theorem dX9_comes_11 : decode cX9_comes 11 = .ok (.invokevirtual 70, 3) := by decide +kernel
theorem dX9_comes_14 : decode cX9_comes 14 = .ok (.ireturn, 1) := by decide +kernel
theorem dX9_comes_15 : decode cX9_comes 15 = .ok (.aload_n 0, 1) := by decide +kernel
theorem dX9_comes_16 : decode cX9_comes 16 = .ok (.getfield 7, 3) := by decide +kernel
theorem dX9_comes_19 : decode cX9_comes 19 = .ok (.iconst 0, 1) := by decide +kernel
theorem dX9_comes_20 : decode cX9_comes 20 = .ok (.iaload, 1) := by decide +kernel
theorem dX9_comes_21 : decode cX9_comes 21 = .ok (.istore_n 2, 1) := by decide +kernel
theorem dX9_comes_22 : decode cX9_comes 22 = .ok (.iload_n 2, 1) := by decide +kernel
theorem dX9_comes_23 : decode cX9_comes 23 = .ok (.bipush 10, 2) := by decide +kernel
theorem dX9_comes_25 : decode cX9_comes 25 = .ok (.if_icmp .ne 12, 3) := by decide +kernel
theorem dX9_comes_28 : decode cX9_comes 28 = .ok (.aload_n 0, 1) := by decide +kernel
theorem dX9_comes_29 : decode cX9_comes 29 = .ok (.iconst 1, 1) := by decide +kernel
theorem dX9_comes_30 : decode cX9_comes 30 = .ok (.bipush 10, 2) := by decide +kernel
theorem dX9_comes_32 : decode cX9_comes 32 = .ok (.iconst 2, 1) := by decide +kernel
theorem dX9_comes_33 : decode cX9_comes 33 = .ok (.invokevirtual 74, 3) := by decide +kernel
theorem dX9_comes_36 : decode cX9_comes 36 = .ok (.ireturn, 1) := by decide +kernel
theorem dX9_comes_37 : decode cX9_comes 37 = .ok (.aload_n 0, 1) := by decide +kernel
theorem dX9_comes_38 : decode cX9_comes 38 = .ok (.getfield 7, 3) := by decide +kernel
theorem dX9_comes_41 : decode cX9_comes 41 = .ok (.iconst 5, 1) := by decide +kernel
theorem dX9_comes_42 : decode cX9_comes 42 = .ok (.iload_n 2, 1) := by decide +kernel
theorem dX9_comes_43 : decode cX9_comes 43 = .ok (.iadd, 1) := by decide +kernel
theorem dX9_comes_44 : decode cX9_comes 44 = .ok (.iload_n 1, 1) := by decide +kernel
theorem dX9_comes_45 : decode cX9_comes 45 = .ok (.iastore, 1) := by decide +kernel
theorem dX9_comes_46 : decode cX9_comes 46 = .ok (.aload_n 0, 1) := by decide +kernel
theorem dX9_comes_47 : decode cX9_comes 47 = .ok (.getfield 7, 3) := by decide +kernel
theorem dX9_comes_50 : decode cX9_comes 50 = .ok (.iconst 0, 1) := by decide +kernel
theorem dX9_comes_51 : decode cX9_comes 51 = .ok (.dup2, 1) := by decide +kernel
theorem dX9_comes_52 : decode cX9_comes 52 = .ok (.iaload, 1) := by decide +kernel
theorem dX9_comes_53 : decode cX9_comes 53 = .ok (.iconst 1, 1) := by decide +kernel
theorem dX9_comes_54 : decode cX9_comes 54 = .ok (.iadd, 1) := by decide +kernel
theorem dX9_comes_55 : decode cX9_comes 55 = .ok (.iastore, 1) := by decide +kernel
theorem dX9_comes_56 : decode cX9_comes 56 = .ok (.aload_n 0, 1) := by decide +kernel
theorem dX9_comes_57 : decode cX9_comes 57 = .ok (.iload_n 2, 1) := by decide +kernel
theorem dX9_comes_58 : decode cX9_comes 58 = .ok (.invokevirtual 78, 3) := by decide +kernel
theorem dX9_comes_61 : decode cX9_comes 61 = .ok (.ireturn, 1) := by decide +kernel
set_option maxRecDepth 20000 in
theorem ggX9_napkin_X9_looksBack : GoodIn wsX9_napkin wsX9_looksBack := goodIn_ca (goodIn_r _ [5, 6, 7, 8, 9, 4, 10, 42, 43, 44, 45, 46, 47, 48, 49, 50, 51, 52, 53, 54, 55, 56, 57, 58, 59, 60, 61] (by decide +kernel) (by decide +kernel)) (goodIn_sub (fun _ h => List.mem_cons_of_mem _ (List.mem_append_right _ h)) (by decide +kernel))
set_option maxRecDepth 20000 in
theorem gX9_napkin_X9_looksBack : GoodIn wsX9_napkin (wsV RX9 81 RX9 yX9_looksBack wsX9_looksBack) := goodIn_app (goodIn_of _ (by decide +kernel)) ggX9_napkin_X9_looksBack
set_option maxRecDepth 20000 in
theorem ggX9_napkin_X9_comes : GoodIn wsX9_napkin wsX9_comes := goodIn_ca (goodIn_r _ [14, 6, 15, 16, 4, 17, 18, 19, 20, 21, 22, 23, 24, 25, 26, 27, 28, 29, 30, 31, 32, 33, 34, 35, 42, 43, 44, 45, 46, 47, 48, 49, 50, 51, 52, 53, 54, 55, 56, 57, 58, 59, 60, 61] (by decide +kernel) (by decide +kernel)) (goodIn_sub (fun _ h => List.mem_cons_of_mem _ (List.mem_append_right _ h)) (by decide +kernel))
set_option maxRecDepth 20000 in
theorem gX9_napkin_X9_comes : GoodIn wsX9_napkin (wsV RX9 84 RX9 yX9_comes wsX9_comes) := goodIn_app (goodIn_of _ (by decide +kernel)) ggX9_napkin_X9_comes
set_option maxRecDepth 20000 in
theorem ggX9_napkin_X9_kept : GoodIn wsX9_napkin wsX9_kept := goodIn_ca (goodIn_r _ [39, 22, 7, 6, 40, 41, 8, 9, 4, 10, 42, 43, 44, 45, 46, 47, 48, 49, 50, 51, 52, 53, 54, 55, 56, 57, 58, 59, 60, 61] (by decide +kernel) (by decide +kernel)) (goodIn_sub (fun _ h => List.mem_cons_of_mem _ (List.mem_append_right _ h)) (by decide +kernel))
set_option maxRecDepth 20000 in
theorem gX9_napkin_X9_kept : GoodIn wsX9_napkin (wsV RX9 87 RX9 yX9_kept wsX9_kept) := goodIn_app (goodIn_of _ (by decide +kernel)) ggX9_napkin_X9_kept
theorem dX9_napkin_0 : decode cX9_napkin 0 = .ok (.aload_n 0, 1) := by decide +kernel
theorem dX9_napkin_1 : decode cX9_napkin 1 = .ok (.invokevirtual 81, 3) := by decide +kernel
theorem dX9_napkin_4 : decode cX9_napkin 4 = .ok (.aload_n 0, 1) := by decide +kernel
theorem dX9_napkin_5 : decode cX9_napkin 5 = .ok (.aload_n 0, 1) := by decide +kernel
theorem dX9_napkin_6 : decode cX9_napkin 6 = .ok (.iload_n 1, 1) := by decide +kernel
theorem dX9_napkin_7 : decode cX9_napkin 7 = .ok (.invokevirtual 84, 3) := by decide +kernel
theorem dX9_napkin_10 : decode cX9_napkin 10 = .ok (.invokevirtual 87, 3) := by decide +kernel
theorem dX9_napkin_13 : decode cX9_napkin 13 = .ok (.ireturn, 1) := by decide +kernel
set_option maxRecDepth 20000 in
theorem ggX9_folds_X9_isNapkin : GoodIn wsX9_folds wsX9_isNapkin := goodIn_ca (goodIn_r _ [6, 1, 7, 8, 5, 9, 28, 29, 30, 31, 32, 33, 34, 35, 36, 37, 38, 39, 40, 41, 42, 43, 44, 45, 46, 47] (by decide +kernel) (by decide +kernel)) (goodIn_sub (fun _ h => List.mem_cons_of_mem _ (List.mem_append_right _ h)) (by decide +kernel))
set_option maxRecDepth 20000 in
theorem gX9_folds_X9_isNapkin : GoodIn wsX9_folds (wsV RX9 90 RX9 yX9_isNapkin wsX9_isNapkin) := goodIn_app (goodIn_of _ (by decide +kernel)) ggX9_folds_X9_isNapkin
set_option maxRecDepth 20000 in
theorem ggX9_folds_X9_fails : GoodIn wsX9_folds wsX9_fails := goodIn_r _ [13, 14, 15, 28, 29, 30, 31, 32, 33, 34, 35, 36, 37, 38, 39, 40, 41, 42, 43, 44, 45, 46, 47] (by decide +kernel) (by decide +kernel)
set_option maxRecDepth 20000 in
theorem gX9_folds_X9_fails : GoodIn wsX9_folds (wsV RX9 70 RX9 yX9_fails wsX9_fails) := goodIn_app (goodIn_of _ (by decide +kernel)) ggX9_folds_X9_fails
set_option maxRecDepth 20000 in
theorem ggX9_folds_X9_in : GoodIn wsX9_folds wsX9_in := goodIn_r _ [9] (by decide +kernel) (by decide +kernel)
set_option maxRecDepth 20000 in
theorem gX9_folds_X9_in : GoodIn wsX9_folds (va_wsS RX9 62 yX9_in wsX9_in) := goodIn_app (goodIn_of _ (by decide +kernel)) ggX9_folds_X9_in
set_option maxRecDepth 20000 in
theorem ggX9_folds_X9_refused : GoodIn wsX9_folds wsX9_refused := goodIn_r _ [19, 20, 21, 22, 23, 14, 15, 28, 29, 30, 31, 32, 33, 34, 35, 36, 37, 38, 39, 40, 41, 42, 43, 44, 45, 46, 47] (by decide +kernel) (by decide +kernel)
set_option maxRecDepth 20000 in
theorem gX9_folds_X9_refused : GoodIn wsX9_folds (wsV RX9 74 RX9 yX9_refused wsX9_refused) := goodIn_app (goodIn_of _ (by decide +kernel)) ggX9_folds_X9_refused
set_option maxRecDepth 20000 in
theorem ggX9_folds_X9_done : GoodIn wsX9_folds wsX9_done := goodIn_r _ [27, 14, 28, 29, 30, 31, 32, 33, 34, 35, 36, 37, 38, 39, 40, 41, 42, 43, 44, 45, 46, 47] (by decide +kernel) (by decide +kernel)
set_option maxRecDepth 20000 in
theorem gX9_folds_X9_done : GoodIn wsX9_folds (wsV RX9 78 RX9 yX9_done wsX9_done) := goodIn_app (goodIn_of _ (by decide +kernel)) ggX9_folds_X9_done
theorem dX9_folds_0 : decode cX9_folds 0 = .ok (.aload_n 0, 1) := by decide +kernel
theorem dX9_folds_1 : decode cX9_folds 1 = .ok (.iload_n 1, 1) := by decide +kernel
theorem dX9_folds_2 : decode cX9_folds 2 = .ok (.invokevirtual 90, 3) := by decide +kernel
theorem dX9_folds_5 : decode cX9_folds 5 = .ok (.ifCond .ne 9, 3) := by decide +kernel
theorem dX9_folds_8 : decode cX9_folds 8 = .ok (.aload_n 0, 1) := by decide +kernel
theorem dX9_folds_9 : decode cX9_folds 9 = .ok (.iconst 1, 1) := by decide +kernel
theorem dX9_folds_10 : decode cX9_folds 10 = .ok (.invokevirtual 70, 3) := by decide +kernel
theorem dX9_folds_13 : decode cX9_folds 13 = .ok (.ireturn, 1) := by decide +kernel
theorem dX9_folds_14 : decode cX9_folds 14 = .ok (.iload_n 2, 1) := by decide +kernel
theorem dX9_folds_15 : decode cX9_folds 15 = .ok (.iconst 1, 1) := by decide +kernel
theorem dX9_folds_16 : decode cX9_folds 16 = .ok (.iconst 4, 1) := by decide +kernel
theorem dX9_folds_17 : decode cX9_folds 17 = .ok (.invokestatic 62, 3) := by decide +kernel
theorem dX9_folds_20 : decode cX9_folds 20 = .ok (.ifCond .ne 9, 3) := by decide +kernel
theorem dX9_folds_23 : decode cX9_folds 23 = .ok (.aload_n 0, 1) := by decide +kernel
theorem dX9_folds_24 : decode cX9_folds 24 = .ok (.iconst 2, 1) := by decide +kernel
theorem dX9_folds_25 : decode cX9_folds 25 = .ok (.invokevirtual 70, 3) := by decide +kernel
theorem dX9_folds_28 : decode cX9_folds 28 = .ok (.ireturn, 1) := by decide +kernel
theorem dX9_folds_29 : decode cX9_folds 29 = .ok (.aload_n 0, 1) := by decide +kernel
theorem dX9_folds_30 : decode cX9_folds 30 = .ok (.getfield 7, 3) := by decide +kernel
theorem dX9_folds_33 : decode cX9_folds 33 = .ok (.bipush 15, 2) := by decide +kernel
theorem dX9_folds_35 : decode cX9_folds 35 = .ok (.iload_n 1, 1) := by decide +kernel
theorem dX9_folds_36 : decode cX9_folds 36 = .ok (.iadd, 1) := by decide +kernel
theorem dX9_folds_37 : decode cX9_folds 37 = .ok (.iaload, 1) := by decide +kernel
theorem dX9_folds_38 : decode cX9_folds 38 = .ok (.iload_n 2, 1) := by decide +kernel
theorem dX9_folds_39 : decode cX9_folds 39 = .ok (.if_icmp .ne 11, 3) := by decide +kernel
theorem dX9_folds_42 : decode cX9_folds 42 = .ok (.aload_n 0, 1) := by decide +kernel
theorem dX9_folds_43 : decode cX9_folds 43 = .ok (.iconst 2, 1) := by decide +kernel
theorem dX9_folds_44 : decode cX9_folds 44 = .ok (.iload_n 2, 1) := by decide +kernel
theorem dX9_folds_45 : decode cX9_folds 45 = .ok (.iconst 3, 1) := by decide +kernel
theorem dX9_folds_46 : decode cX9_folds 46 = .ok (.invokevirtual 74, 3) := by decide +kernel
theorem dX9_folds_49 : decode cX9_folds 49 = .ok (.ireturn, 1) := by decide +kernel
theorem dX9_folds_50 : decode cX9_folds 50 = .ok (.iload_n 2, 1) := by decide +kernel
theorem dX9_folds_51 : decode cX9_folds 51 = .ok (.iconst 1, 1) := by decide +kernel
theorem dX9_folds_52 : decode cX9_folds 52 = .ok (.if_icmp .ne 7, 3) := by decide +kernel
theorem dX9_folds_55 : decode cX9_folds 55 = .ok (.iconst 3, 1) := by decide +kernel
theorem dX9_folds_56 : decode cX9_folds 56 = .ok (.goto 13, 3) := by decide +kernel
theorem dX9_folds_59 : decode cX9_folds 59 = .ok (.iload_n 2, 1) := by decide +kernel
theorem dX9_folds_60 : decode cX9_folds 60 = .ok (.iconst 2, 1) := by decide +kernel
theorem dX9_folds_61 : decode cX9_folds 61 = .ok (.if_icmp .ne 7, 3) := by decide +kernel
theorem dX9_folds_64 : decode cX9_folds 64 = .ok (.iconst 1, 1) := by decide +kernel
theorem dX9_folds_65 : decode cX9_folds 65 = .ok (.goto 4, 3) := by decide +kernel
theorem dX9_folds_68 : decode cX9_folds 68 = .ok (.iconst 2, 1) := by decide +kernel
theorem dX9_folds_69 : decode cX9_folds 69 = .ok (.istore_n 3, 1) := by decide +kernel
theorem dX9_folds_70 : decode cX9_folds 70 = .ok (.aload_n 0, 1) := by decide +kernel
theorem dX9_folds_71 : decode cX9_folds 71 = .ok (.getfield 7, 3) := by decide +kernel
theorem dX9_folds_74 : decode cX9_folds 74 = .ok (.bipush 25, 2) := by decide +kernel
theorem dX9_folds_76 : decode cX9_folds 76 = .ok (.iload_n 1, 1) := by decide +kernel
theorem dX9_folds_77 : decode cX9_folds 77 = .ok (.iadd, 1) := by decide +kernel
theorem dX9_folds_78 : decode cX9_folds 78 = .ok (.iaload, 1) := by decide +kernel
theorem dX9_folds_79 : decode cX9_folds 79 = .ok (.iload_n 3, 1) := by decide +kernel
theorem dX9_folds_80 : decode cX9_folds 80 = .ok (.iadd, 1) := by decide +kernel
theorem dX9_folds_81 : decode cX9_folds 81 = .ok (.bipush 12, 2) := by decide +kernel
theorem dX9_folds_83 : decode cX9_folds 83 = .ok (.if_icmp .le 19, 3) := by decide +kernel
theorem dX9_folds_86 : decode cX9_folds 86 = .ok (.aload_n 0, 1) := by decide +kernel
theorem dX9_folds_87 : decode cX9_folds 87 = .ok (.iconst 3, 1) := by decide +kernel
theorem dX9_folds_88 : decode cX9_folds 88 = .ok (.aload_n 0, 1) := by decide +kernel
theorem dX9_folds_89 : decode cX9_folds 89 = .ok (.getfield 7, 3) := by decide +kernel
theorem dX9_folds_92 : decode cX9_folds 92 = .ok (.bipush 25, 2) := by decide +kernel
theorem dX9_folds_94 : decode cX9_folds 94 = .ok (.iload_n 1, 1) := by decide +kernel
theorem dX9_folds_95 : decode cX9_folds 95 = .ok (.iadd, 1) := by decide +kernel
theorem dX9_folds_96 : decode cX9_folds 96 = .ok (.iaload, 1) := by decide +kernel
theorem dX9_folds_97 : decode cX9_folds 97 = .ok (.iconst 3, 1) := by decide +kernel
theorem dX9_folds_98 : decode cX9_folds 98 = .ok (.invokevirtual 74, 3) := by decide +kernel
theorem dX9_folds_101 : decode cX9_folds 101 = .ok (.ireturn, 1) := by decide +kernel
theorem dX9_folds_102 : decode cX9_folds 102 = .ok (.aload_n 0, 1) := by decide +kernel
theorem dX9_folds_103 : decode cX9_folds 103 = .ok (.getfield 7, 3) := by decide +kernel
theorem dX9_folds_106 : decode cX9_folds 106 = .ok (.bipush 25, 2) := by decide +kernel
theorem dX9_folds_108 : decode cX9_folds 108 = .ok (.iload_n 1, 1) := by decide +kernel
theorem dX9_folds_109 : decode cX9_folds 109 = .ok (.iadd, 1) := by decide +kernel
theorem dX9_folds_110 : decode cX9_folds 110 = .ok (.dup2, 1) := by decide +kernel
theorem dX9_folds_111 : decode cX9_folds 111 = .ok (.iaload, 1) := by decide +kernel
theorem dX9_folds_112 : decode cX9_folds 112 = .ok (.iload_n 3, 1) := by decide +kernel
theorem dX9_folds_113 : decode cX9_folds 113 = .ok (.iadd, 1) := by decide +kernel
theorem dX9_folds_114 : decode cX9_folds 114 = .ok (.iastore, 1) := by decide +kernel
theorem dX9_folds_115 : decode cX9_folds 115 = .ok (.aload_n 0, 1) := by decide +kernel
theorem dX9_folds_116 : decode cX9_folds 116 = .ok (.getfield 7, 3) := by decide +kernel
theorem dX9_folds_119 : decode cX9_folds 119 = .ok (.bipush 15, 2) := by decide +kernel
theorem dX9_folds_121 : decode cX9_folds 121 = .ok (.iload_n 1, 1) := by decide +kernel
theorem dX9_folds_122 : decode cX9_folds 122 = .ok (.iadd, 1) := by decide +kernel
theorem dX9_folds_123 : decode cX9_folds 123 = .ok (.iload_n 2, 1) := by decide +kernel
theorem dX9_folds_124 : decode cX9_folds 124 = .ok (.iastore, 1) := by decide +kernel
theorem dX9_folds_125 : decode cX9_folds 125 = .ok (.aload_n 0, 1) := by decide +kernel
theorem dX9_folds_126 : decode cX9_folds 126 = .ok (.getfield 7, 3) := by decide +kernel
theorem dX9_folds_129 : decode cX9_folds 129 = .ok (.bipush 45, 2) := by decide +kernel
theorem dX9_folds_131 : decode cX9_folds 131 = .ok (.iload_n 1, 1) := by decide +kernel
theorem dX9_folds_132 : decode cX9_folds 132 = .ok (.iadd, 1) := by decide +kernel
theorem dX9_folds_133 : decode cX9_folds 133 = .ok (.dup2, 1) := by decide +kernel
theorem dX9_folds_134 : decode cX9_folds 134 = .ok (.iaload, 1) := by decide +kernel
theorem dX9_folds_135 : decode cX9_folds 135 = .ok (.iconst 1, 1) := by decide +kernel
theorem dX9_folds_136 : decode cX9_folds 136 = .ok (.iadd, 1) := by decide +kernel
theorem dX9_folds_137 : decode cX9_folds 137 = .ok (.iastore, 1) := by decide +kernel
theorem dX9_folds_138 : decode cX9_folds 138 = .ok (.aload_n 0, 1) := by decide +kernel
theorem dX9_folds_139 : decode cX9_folds 139 = .ok (.getfield 7, 3) := by decide +kernel
theorem dX9_folds_142 : decode cX9_folds 142 = .ok (.iconst 3, 1) := by decide +kernel
theorem dX9_folds_143 : decode cX9_folds 143 = .ok (.dup2, 1) := by decide +kernel
theorem dX9_folds_144 : decode cX9_folds 144 = .ok (.iaload, 1) := by decide +kernel
theorem dX9_folds_145 : decode cX9_folds 145 = .ok (.iconst 1, 1) := by decide +kernel
theorem dX9_folds_146 : decode cX9_folds 146 = .ok (.iadd, 1) := by decide +kernel
theorem dX9_folds_147 : decode cX9_folds 147 = .ok (.iastore, 1) := by decide +kernel
theorem dX9_folds_148 : decode cX9_folds 148 = .ok (.aload_n 0, 1) := by decide +kernel
theorem dX9_folds_149 : decode cX9_folds 149 = .ok (.aload_n 0, 1) := by decide +kernel
theorem dX9_folds_150 : decode cX9_folds 150 = .ok (.getfield 7, 3) := by decide +kernel
theorem dX9_folds_153 : decode cX9_folds 153 = .ok (.bipush 25, 2) := by decide +kernel
theorem dX9_folds_155 : decode cX9_folds 155 = .ok (.iload_n 1, 1) := by decide +kernel
theorem dX9_folds_156 : decode cX9_folds 156 = .ok (.iadd, 1) := by decide +kernel
theorem dX9_folds_157 : decode cX9_folds 157 = .ok (.iaload, 1) := by decide +kernel
theorem dX9_folds_158 : decode cX9_folds 158 = .ok (.invokevirtual 78, 3) := by decide +kernel
theorem dX9_folds_161 : decode cX9_folds 161 = .ok (.ireturn, 1) := by decide +kernel
set_option maxRecDepth 20000 in
theorem ggX9_fold_X9_looksBack : GoodIn wsX9_fold wsX9_looksBack := goodIn_ca (goodIn_r _ [5, 6, 7, 8, 9, 4, 10, 46, 47, 48, 49, 50, 51, 52, 53, 54, 55, 56, 57, 58, 59, 60, 61, 62, 63, 64, 65] (by decide +kernel) (by decide +kernel)) (goodIn_sub (fun _ h => List.mem_cons_of_mem _ (List.mem_append_right _ h)) (by decide +kernel))
set_option maxRecDepth 20000 in
theorem gX9_fold_X9_looksBack : GoodIn wsX9_fold (wsV RX9 81 RX9 yX9_looksBack wsX9_looksBack) := goodIn_app (goodIn_of _ (by decide +kernel)) ggX9_fold_X9_looksBack
set_option maxRecDepth 20000 in
theorem ggX9_fold_X9_folds : GoodIn wsX9_fold wsX9_folds := goodIn_ca (goodIn_r _ [14, 6, 15, 16, 17, 4, 18, 19, 20, 21, 22, 23, 24, 25, 26, 27, 28, 29, 30, 31, 32, 33, 34, 35, 36, 37, 38, 39, 46, 47, 48, 49, 50, 51, 52, 53, 54, 55, 56, 57, 58, 59, 60, 61, 62, 63, 64, 65] (by decide +kernel) (by decide +kernel)) (goodIn_sub (fun _ h => List.mem_cons_of_mem _ (List.mem_append_right _ h)) (by decide +kernel))
set_option maxRecDepth 20000 in
theorem gX9_fold_X9_folds : GoodIn wsX9_fold (wsV RX9 94 RX9 yX9_folds wsX9_folds) := goodIn_app (goodIn_of _ (by decide +kernel)) ggX9_fold_X9_folds
set_option maxRecDepth 20000 in
theorem ggX9_fold_X9_kept : GoodIn wsX9_fold wsX9_kept := goodIn_ca (goodIn_r _ [43, 26, 7, 6, 44, 45, 8, 9, 4, 10, 46, 47, 48, 49, 50, 51, 52, 53, 54, 55, 56, 57, 58, 59, 60, 61, 62, 63, 64, 65] (by decide +kernel) (by decide +kernel)) (goodIn_sub (fun _ h => List.mem_cons_of_mem _ (List.mem_append_right _ h)) (by decide +kernel))
set_option maxRecDepth 20000 in
theorem gX9_fold_X9_kept : GoodIn wsX9_fold (wsV RX9 87 RX9 yX9_kept wsX9_kept) := goodIn_app (goodIn_of _ (by decide +kernel)) ggX9_fold_X9_kept
theorem dX9_fold_0 : decode cX9_fold 0 = .ok (.aload_n 0, 1) := by decide +kernel
theorem dX9_fold_1 : decode cX9_fold 1 = .ok (.invokevirtual 81, 3) := by decide +kernel
theorem dX9_fold_4 : decode cX9_fold 4 = .ok (.aload_n 0, 1) := by decide +kernel
theorem dX9_fold_5 : decode cX9_fold 5 = .ok (.aload_n 0, 1) := by decide +kernel
theorem dX9_fold_6 : decode cX9_fold 6 = .ok (.iload_n 1, 1) := by decide +kernel
theorem dX9_fold_7 : decode cX9_fold 7 = .ok (.iload_n 2, 1) := by decide +kernel
theorem dX9_fold_8 : decode cX9_fold 8 = .ok (.invokevirtual 94, 3) := by decide +kernel
theorem dX9_fold_11 : decode cX9_fold 11 = .ok (.invokevirtual 87, 3) := by decide +kernel
theorem dX9_fold_14 : decode cX9_fold 14 = .ok (.ireturn, 1) := by decide +kernel
set_option maxRecDepth 20000 in
theorem ggX9_unfolds_X9_isNapkin : GoodIn wsX9_unfolds wsX9_isNapkin := goodIn_ca (goodIn_r _ [6, 1, 7, 8, 5, 9, 28, 29, 30, 31, 32, 33, 34, 35, 36, 37, 38, 39, 40, 41, 42, 43, 44, 45, 46, 47] (by decide +kernel) (by decide +kernel)) (goodIn_sub (fun _ h => List.mem_cons_of_mem _ (List.mem_append_right _ h)) (by decide +kernel))
set_option maxRecDepth 20000 in
theorem gX9_unfolds_X9_isNapkin : GoodIn wsX9_unfolds (wsV RX9 90 RX9 yX9_isNapkin wsX9_isNapkin) := goodIn_app (goodIn_of _ (by decide +kernel)) ggX9_unfolds_X9_isNapkin
set_option maxRecDepth 20000 in
theorem ggX9_unfolds_X9_fails : GoodIn wsX9_unfolds wsX9_fails := goodIn_r _ [13, 14, 15, 28, 29, 30, 31, 32, 33, 34, 35, 36, 37, 38, 39, 40, 41, 42, 43, 44, 45, 46, 47] (by decide +kernel) (by decide +kernel)
set_option maxRecDepth 20000 in
theorem gX9_unfolds_X9_fails : GoodIn wsX9_unfolds (wsV RX9 70 RX9 yX9_fails wsX9_fails) := goodIn_app (goodIn_of _ (by decide +kernel)) ggX9_unfolds_X9_fails
set_option maxRecDepth 20000 in
theorem ggX9_unfolds_X9_refused : GoodIn wsX9_unfolds wsX9_refused := goodIn_r _ [19, 20, 21, 22, 23, 14, 15, 28, 29, 30, 31, 32, 33, 34, 35, 36, 37, 38, 39, 40, 41, 42, 43, 44, 45, 46, 47] (by decide +kernel) (by decide +kernel)
set_option maxRecDepth 20000 in
theorem gX9_unfolds_X9_refused : GoodIn wsX9_unfolds (wsV RX9 74 RX9 yX9_refused wsX9_refused) := goodIn_app (goodIn_of _ (by decide +kernel)) ggX9_unfolds_X9_refused
set_option maxRecDepth 20000 in
theorem ggX9_unfolds_X9_done : GoodIn wsX9_unfolds wsX9_done := goodIn_r _ [27, 14, 28, 29, 30, 31, 32, 33, 34, 35, 36, 37, 38, 39, 40, 41, 42, 43, 44, 45, 46, 47] (by decide +kernel) (by decide +kernel)
set_option maxRecDepth 20000 in
theorem gX9_unfolds_X9_done : GoodIn wsX9_unfolds (wsV RX9 78 RX9 yX9_done wsX9_done) := goodIn_app (goodIn_of _ (by decide +kernel)) ggX9_unfolds_X9_done
theorem dX9_unfolds_0 : decode cX9_unfolds 0 = .ok (.aload_n 0, 1) := by decide +kernel
theorem dX9_unfolds_1 : decode cX9_unfolds 1 = .ok (.iload_n 1, 1) := by decide +kernel
theorem dX9_unfolds_2 : decode cX9_unfolds 2 = .ok (.invokevirtual 90, 3) := by decide +kernel
theorem dX9_unfolds_5 : decode cX9_unfolds 5 = .ok (.ifCond .ne 9, 3) := by decide +kernel
theorem dX9_unfolds_8 : decode cX9_unfolds 8 = .ok (.aload_n 0, 1) := by decide +kernel
theorem dX9_unfolds_9 : decode cX9_unfolds 9 = .ok (.iconst 1, 1) := by decide +kernel
theorem dX9_unfolds_10 : decode cX9_unfolds 10 = .ok (.invokevirtual 70, 3) := by decide +kernel
theorem dX9_unfolds_13 : decode cX9_unfolds 13 = .ok (.ireturn, 1) := by decide +kernel
theorem dX9_unfolds_14 : decode cX9_unfolds 14 = .ok (.aload_n 0, 1) := by decide +kernel
theorem dX9_unfolds_15 : decode cX9_unfolds 15 = .ok (.getfield 7, 3) := by decide +kernel
theorem dX9_unfolds_18 : decode cX9_unfolds 18 = .ok (.bipush 15, 2) := by decide +kernel
theorem dX9_unfolds_20 : decode cX9_unfolds 20 = .ok (.iload_n 1, 1) := by decide +kernel
theorem dX9_unfolds_21 : decode cX9_unfolds 21 = .ok (.iadd, 1) := by decide +kernel
theorem dX9_unfolds_22 : decode cX9_unfolds 22 = .ok (.iaload, 1) := by decide +kernel
theorem dX9_unfolds_23 : decode cX9_unfolds 23 = .ok (.istore_n 2, 1) := by decide +kernel
theorem dX9_unfolds_24 : decode cX9_unfolds 24 = .ok (.iload_n 2, 1) := by decide +kernel
theorem dX9_unfolds_25 : decode cX9_unfolds 25 = .ok (.ifCond .ne 11, 3) := by decide +kernel
theorem dX9_unfolds_28 : decode cX9_unfolds 28 = .ok (.aload_n 0, 1) := by decide +kernel
theorem dX9_unfolds_29 : decode cX9_unfolds 29 = .ok (.iconst 2, 1) := by decide +kernel
theorem dX9_unfolds_30 : decode cX9_unfolds 30 = .ok (.iconst 0, 1) := by decide +kernel
theorem dX9_unfolds_31 : decode cX9_unfolds 31 = .ok (.iconst 2, 1) := by decide +kernel
theorem dX9_unfolds_32 : decode cX9_unfolds 32 = .ok (.invokevirtual 74, 3) := by decide +kernel
theorem dX9_unfolds_35 : decode cX9_unfolds 35 = .ok (.ireturn, 1) := by decide +kernel
theorem dX9_unfolds_36 : decode cX9_unfolds 36 = .ok (.aload_n 0, 1) := by decide +kernel
theorem dX9_unfolds_37 : decode cX9_unfolds 37 = .ok (.getfield 7, 3) := by decide +kernel
theorem dX9_unfolds_40 : decode cX9_unfolds 40 = .ok (.bipush 15, 2) := by decide +kernel
theorem dX9_unfolds_42 : decode cX9_unfolds 42 = .ok (.iload_n 1, 1) := by decide +kernel
theorem dX9_unfolds_43 : decode cX9_unfolds 43 = .ok (.iadd, 1) := by decide +kernel
theorem dX9_unfolds_44 : decode cX9_unfolds 44 = .ok (.iconst 0, 1) := by decide +kernel
theorem dX9_unfolds_45 : decode cX9_unfolds 45 = .ok (.iastore, 1) := by decide +kernel
theorem dX9_unfolds_46 : decode cX9_unfolds 46 = .ok (.aload_n 0, 1) := by decide +kernel
theorem dX9_unfolds_47 : decode cX9_unfolds 47 = .ok (.iload_n 2, 1) := by decide +kernel
theorem dX9_unfolds_48 : decode cX9_unfolds 48 = .ok (.invokevirtual 78, 3) := by decide +kernel
theorem dX9_unfolds_51 : decode cX9_unfolds 51 = .ok (.ireturn, 1) := by decide +kernel
set_option maxRecDepth 20000 in
theorem ggX9_unfold_X9_looksBack : GoodIn wsX9_unfold wsX9_looksBack := goodIn_ca (goodIn_r _ [5, 6, 7, 8, 9, 4, 10, 46, 47, 48, 49, 50, 51, 52, 53, 54, 55, 56, 57, 58, 59, 60, 61, 62, 63, 64, 65] (by decide +kernel) (by decide +kernel)) (goodIn_sub (fun _ h => List.mem_cons_of_mem _ (List.mem_append_right _ h)) (by decide +kernel))
set_option maxRecDepth 20000 in
theorem gX9_unfold_X9_looksBack : GoodIn wsX9_unfold (wsV RX9 81 RX9 yX9_looksBack wsX9_looksBack) := goodIn_app (goodIn_of _ (by decide +kernel)) ggX9_unfold_X9_looksBack
set_option maxRecDepth 20000 in
theorem ggX9_unfold_X9_unfolds : GoodIn wsX9_unfold wsX9_unfolds := goodIn_ca (goodIn_r _ [14, 6, 15, 16, 17, 4, 18, 19, 20, 21, 22, 23, 24, 25, 26, 27, 28, 29, 30, 31, 32, 33, 34, 35, 36, 37, 38, 39, 46, 47, 48, 49, 50, 51, 52, 53, 54, 55, 56, 57, 58, 59, 60, 61, 62, 63, 64, 65] (by decide +kernel) (by decide +kernel)) (goodIn_sub (fun _ h => List.mem_cons_of_mem _ (List.mem_append_right _ h)) (by decide +kernel))
set_option maxRecDepth 20000 in
theorem gX9_unfold_X9_unfolds : GoodIn wsX9_unfold (wsV RX9 97 RX9 yX9_unfolds wsX9_unfolds) := goodIn_app (goodIn_of _ (by decide +kernel)) ggX9_unfold_X9_unfolds
set_option maxRecDepth 20000 in
theorem ggX9_unfold_X9_kept : GoodIn wsX9_unfold wsX9_kept := goodIn_ca (goodIn_r _ [43, 26, 7, 6, 44, 45, 8, 9, 4, 10, 46, 47, 48, 49, 50, 51, 52, 53, 54, 55, 56, 57, 58, 59, 60, 61, 62, 63, 64, 65] (by decide +kernel) (by decide +kernel)) (goodIn_sub (fun _ h => List.mem_cons_of_mem _ (List.mem_append_right _ h)) (by decide +kernel))
set_option maxRecDepth 20000 in
theorem gX9_unfold_X9_kept : GoodIn wsX9_unfold (wsV RX9 87 RX9 yX9_kept wsX9_kept) := goodIn_app (goodIn_of _ (by decide +kernel)) ggX9_unfold_X9_kept
theorem dX9_unfold_0 : decode cX9_unfold 0 = .ok (.aload_n 0, 1) := by decide +kernel
theorem dX9_unfold_1 : decode cX9_unfold 1 = .ok (.invokevirtual 81, 3) := by decide +kernel
theorem dX9_unfold_4 : decode cX9_unfold 4 = .ok (.aload_n 0, 1) := by decide +kernel
theorem dX9_unfold_5 : decode cX9_unfold 5 = .ok (.aload_n 0, 1) := by decide +kernel
theorem dX9_unfold_6 : decode cX9_unfold 6 = .ok (.iload_n 1, 1) := by decide +kernel
theorem dX9_unfold_7 : decode cX9_unfold 7 = .ok (.invokevirtual 97, 3) := by decide +kernel
theorem dX9_unfold_10 : decode cX9_unfold 10 = .ok (.invokevirtual 87, 3) := by decide +kernel
theorem dX9_unfold_13 : decode cX9_unfold 13 = .ok (.ireturn, 1) := by decide +kernel
set_option maxRecDepth 20000 in
theorem ggX9_lays_X9_isNapkin : GoodIn wsX9_lays wsX9_isNapkin := goodIn_ca (goodIn_r _ [6, 1, 7, 8, 5, 9, 39, 40, 41, 42, 43, 44, 45, 46, 47, 48, 49, 50, 51, 52, 53, 54, 55, 56, 57, 58] (by decide +kernel) (by decide +kernel)) (goodIn_sub (fun _ h => List.mem_cons_of_mem _ (List.mem_append_right _ h)) (by decide +kernel))
set_option maxRecDepth 20000 in
theorem gX9_lays_X9_isNapkin : GoodIn wsX9_lays (wsV RX9 90 RX9 yX9_isNapkin wsX9_isNapkin) := goodIn_app (goodIn_of _ (by decide +kernel)) ggX9_lays_X9_isNapkin
set_option maxRecDepth 20000 in
theorem ggX9_lays_X9_isTable : GoodIn wsX9_lays wsX9_isTable := goodIn_r _ [12, 7, 8, 5, 9] (by decide +kernel) (by decide +kernel)
set_option maxRecDepth 20000 in
theorem gX9_lays_X9_isTable : GoodIn wsX9_lays (va_wsS RX9 100 yX9_isTable wsX9_isTable) := goodIn_app (goodIn_of _ (by decide +kernel)) ggX9_lays_X9_isTable
set_option maxRecDepth 20000 in
theorem ggX9_lays_X9_fails : GoodIn wsX9_lays wsX9_fails := goodIn_r _ [16, 17, 18, 39, 40, 41, 42, 43, 44, 45, 46, 47, 48, 49, 50, 51, 52, 53, 54, 55, 56, 57, 58] (by decide +kernel) (by decide +kernel)
set_option maxRecDepth 20000 in
theorem gX9_lays_X9_fails : GoodIn wsX9_lays (wsV RX9 70 RX9 yX9_fails wsX9_fails) := goodIn_app (goodIn_of _ (by decide +kernel)) ggX9_lays_X9_fails
set_option maxRecDepth 20000 in
theorem ggX9_lays_X9_seatOf : GoodIn wsX9_lays wsX9_seatOf := goodIn_ca (goodIn_r _ [22, 1, 23, 24, 25, 5, 26, 39, 40, 41, 42, 43, 44, 45, 46, 47, 48, 49, 50, 51, 52, 53, 54, 55, 56, 57, 58] (by decide +kernel) (by decide +kernel)) (goodIn_sub (fun _ h => List.mem_cons_of_mem _ (List.mem_append_right _ h)) (by decide +kernel))
set_option maxRecDepth 20000 in
theorem gX9_lays_X9_seatOf : GoodIn wsX9_lays (wsV RX9 103 RX9 yX9_seatOf wsX9_seatOf) := goodIn_app (goodIn_of _ (by decide +kernel)) ggX9_lays_X9_seatOf
set_option maxRecDepth 20000 in
theorem ggX9_lays_X9_refused : GoodIn wsX9_lays wsX9_refused := goodIn_r _ [30, 31, 32, 33, 34, 17, 18, 39, 40, 41, 42, 43, 44, 45, 46, 47, 48, 49, 50, 51, 52, 53, 54, 55, 56, 57, 58] (by decide +kernel) (by decide +kernel)
set_option maxRecDepth 20000 in
theorem gX9_lays_X9_refused : GoodIn wsX9_lays (wsV RX9 74 RX9 yX9_refused wsX9_refused) := goodIn_app (goodIn_of _ (by decide +kernel)) ggX9_lays_X9_refused
set_option maxRecDepth 20000 in
theorem ggX9_lays_X9_done : GoodIn wsX9_lays wsX9_done := goodIn_r _ [38, 17, 39, 40, 41, 42, 43, 44, 45, 46, 47, 48, 49, 50, 51, 52, 53, 54, 55, 56, 57, 58] (by decide +kernel) (by decide +kernel)
set_option maxRecDepth 20000 in
theorem gX9_lays_X9_done : GoodIn wsX9_lays (wsV RX9 78 RX9 yX9_done wsX9_done) := goodIn_app (goodIn_of _ (by decide +kernel)) ggX9_lays_X9_done
theorem dX9_lays_0 : decode cX9_lays 0 = .ok (.aload_n 0, 1) := by decide +kernel
theorem dX9_lays_1 : decode cX9_lays 1 = .ok (.iload_n 1, 1) := by decide +kernel
theorem dX9_lays_2 : decode cX9_lays 2 = .ok (.invokevirtual 90, 3) := by decide +kernel
theorem dX9_lays_5 : decode cX9_lays 5 = .ok (.ifCond .eq 10, 3) := by decide +kernel
theorem dX9_lays_8 : decode cX9_lays 8 = .ok (.iload_n 2, 1) := by decide +kernel
theorem dX9_lays_9 : decode cX9_lays 9 = .ok (.invokestatic 100, 3) := by decide +kernel
theorem dX9_lays_12 : decode cX9_lays 12 = .ok (.ifCond .ne 9, 3) := by decide +kernel
theorem dX9_lays_15 : decode cX9_lays 15 = .ok (.aload_n 0, 1) := by decide +kernel
theorem dX9_lays_16 : decode cX9_lays 16 = .ok (.iconst 1, 1) := by decide +kernel
theorem dX9_lays_17 : decode cX9_lays 17 = .ok (.invokevirtual 70, 3) := by decide +kernel
theorem dX9_lays_20 : decode cX9_lays 20 = .ok (.ireturn, 1) := by decide +kernel
theorem dX9_lays_21 : decode cX9_lays 21 = .ok (.aload_n 0, 1) := by decide +kernel
theorem dX9_lays_22 : decode cX9_lays 22 = .ok (.iload_n 1, 1) := by decide +kernel
theorem dX9_lays_23 : decode cX9_lays 23 = .ok (.invokevirtual 103, 3) := by decide +kernel
theorem dX9_lays_26 : decode cX9_lays 26 = .ok (.istore_n 3, 1) := by decide +kernel
theorem dX9_lays_27 : decode cX9_lays 27 = .ok (.iload_n 3, 1) := by decide +kernel
theorem dX9_lays_28 : decode cX9_lays 28 = .ok (.iconst (-1), 1) := by decide +kernel
theorem dX9_lays_29 : decode cX9_lays 29 = .ok (.if_icmp .eq 14, 3) := by decide +kernel
theorem dX9_lays_32 : decode cX9_lays 32 = .ok (.aload_n 0, 1) := by decide +kernel
theorem dX9_lays_33 : decode cX9_lays 33 = .ok (.iconst 4, 1) := by decide +kernel
theorem dX9_lays_34 : decode cX9_lays 34 = .ok (.iload_n 3, 1) := by decide +kernel
theorem dX9_lays_35 : decode cX9_lays 35 = .ok (.bipush 10, 2) := by decide +kernel
theorem dX9_lays_37 : decode cX9_lays 37 = .ok (.idiv, 1) := by decide +kernel
theorem dX9_lays_38 : decode cX9_lays 38 = .ok (.iconst 2, 1) := by decide +kernel
theorem dX9_lays_39 : decode cX9_lays 39 = .ok (.invokevirtual 74, 3) := by decide +kernel
theorem dX9_lays_42 : decode cX9_lays 42 = .ok (.ireturn, 1) := by decide +kernel
theorem dX9_lays_43 : decode cX9_lays 43 = .ok (.aload_n 0, 1) := by decide +kernel
theorem dX9_lays_44 : decode cX9_lays 44 = .ok (.getfield 7, 3) := by decide +kernel
theorem dX9_lays_47 : decode cX9_lays 47 = .ok (.bipush 55, 2) := by decide +kernel
theorem dX9_lays_49 : decode cX9_lays 49 = .ok (.iload_n 2, 1) := by decide +kernel
theorem dX9_lays_50 : decode cX9_lays 50 = .ok (.iadd, 1) := by decide +kernel
theorem dX9_lays_51 : decode cX9_lays 51 = .ok (.iaload, 1) := by decide +kernel
theorem dX9_lays_52 : decode cX9_lays 52 = .ok (.istore 4, 2) := by decide +kernel
theorem dX9_lays_54 : decode cX9_lays 54 = .ok (.iload 4, 2) := by decide +kernel
theorem dX9_lays_56 : decode cX9_lays 56 = .ok (.bipush 6, 2) := by decide +kernel
theorem dX9_lays_58 : decode cX9_lays 58 = .ok (.if_icmp .ne 12, 3) := by decide +kernel
theorem dX9_lays_61 : decode cX9_lays 61 = .ok (.aload_n 0, 1) := by decide +kernel
theorem dX9_lays_62 : decode cX9_lays 62 = .ok (.iconst 1, 1) := by decide +kernel
theorem dX9_lays_63 : decode cX9_lays 63 = .ok (.bipush 6, 2) := by decide +kernel
theorem dX9_lays_65 : decode cX9_lays 65 = .ok (.iconst 2, 1) := by decide +kernel
theorem dX9_lays_66 : decode cX9_lays 66 = .ok (.invokevirtual 74, 3) := by decide +kernel
theorem dX9_lays_69 : decode cX9_lays 69 = .ok (.ireturn, 1) := by decide +kernel
theorem dX9_lays_70 : decode cX9_lays 70 = .ok (.aload_n 0, 1) := by decide +kernel
theorem dX9_lays_71 : decode cX9_lays 71 = .ok (.getfield 7, 3) := by decide +kernel
theorem dX9_lays_74 : decode cX9_lays 74 = .ok (.bipush 64, 2) := by decide +kernel
theorem dX9_lays_76 : decode cX9_lays 76 = .ok (.bipush 6, 2) := by decide +kernel
theorem dX9_lays_78 : decode cX9_lays 78 = .ok (.iload_n 2, 1) := by decide +kernel
theorem dX9_lays_79 : decode cX9_lays 79 = .ok (.imul, 1) := by decide +kernel
theorem dX9_lays_80 : decode cX9_lays 80 = .ok (.iadd, 1) := by decide +kernel
theorem dX9_lays_81 : decode cX9_lays 81 = .ok (.iload 4, 2) := by decide +kernel
theorem dX9_lays_83 : decode cX9_lays 83 = .ok (.iadd, 1) := by decide +kernel
theorem dX9_lays_84 : decode cX9_lays 84 = .ok (.iload_n 1, 1) := by decide +kernel
theorem dX9_lays_85 : decode cX9_lays 85 = .ok (.iastore, 1) := by decide +kernel
theorem dX9_lays_86 : decode cX9_lays 86 = .ok (.aload_n 0, 1) := by decide +kernel
theorem dX9_lays_87 : decode cX9_lays 87 = .ok (.getfield 7, 3) := by decide +kernel
theorem dX9_lays_90 : decode cX9_lays 90 = .ok (.bipush 55, 2) := by decide +kernel
theorem dX9_lays_92 : decode cX9_lays 92 = .ok (.iload_n 2, 1) := by decide +kernel
theorem dX9_lays_93 : decode cX9_lays 93 = .ok (.iadd, 1) := by decide +kernel
theorem dX9_lays_94 : decode cX9_lays 94 = .ok (.dup2, 1) := by decide +kernel
theorem dX9_lays_95 : decode cX9_lays 95 = .ok (.iaload, 1) := by decide +kernel
theorem dX9_lays_96 : decode cX9_lays 96 = .ok (.iconst 1, 1) := by decide +kernel
theorem dX9_lays_97 : decode cX9_lays 97 = .ok (.iadd, 1) := by decide +kernel
theorem dX9_lays_98 : decode cX9_lays 98 = .ok (.iastore, 1) := by decide +kernel
theorem dX9_lays_99 : decode cX9_lays 99 = .ok (.aload_n 0, 1) := by decide +kernel
theorem dX9_lays_100 : decode cX9_lays 100 = .ok (.iload 4, 2) := by decide +kernel
theorem dX9_lays_102 : decode cX9_lays 102 = .ok (.invokevirtual 78, 3) := by decide +kernel
theorem dX9_lays_105 : decode cX9_lays 105 = .ok (.ireturn, 1) := by decide +kernel
set_option maxRecDepth 20000 in
theorem ggX9_lay_X9_looksBack : GoodIn wsX9_lay wsX9_looksBack := goodIn_ca (goodIn_r _ [5, 6, 7, 8, 9, 4, 10, 57, 58, 59, 60, 61, 62, 63, 64, 65, 66, 67, 68, 69, 70, 71, 72, 73, 74, 75, 76] (by decide +kernel) (by decide +kernel)) (goodIn_sub (fun _ h => List.mem_cons_of_mem _ (List.mem_append_right _ h)) (by decide +kernel))
set_option maxRecDepth 20000 in
theorem gX9_lay_X9_looksBack : GoodIn wsX9_lay (wsV RX9 81 RX9 yX9_looksBack wsX9_looksBack) := goodIn_app (goodIn_of _ (by decide +kernel)) ggX9_lay_X9_looksBack
set_option maxRecDepth 20000 in
theorem ggX9_lay_X9_lays : GoodIn wsX9_lay wsX9_lays := goodIn_ca (goodIn_r _ [14, 6, 15, 16, 17, 4, 18, 19, 20, 21, 22, 23, 24, 25, 26, 27, 28, 29, 30, 31, 32, 33, 34, 35, 36, 37, 38, 39, 40, 41, 42, 43, 44, 45, 46, 47, 48, 49, 50, 57, 58, 59, 60, 61, 62, 63, 64, 65, 66, 67, 68, 69, 70, 71, 72, 73, 74, 75, 76] (by decide +kernel) (by decide +kernel)) (goodIn_sub (fun _ h => List.mem_cons_of_mem _ (List.mem_append_right _ h)) (by decide +kernel))
set_option maxRecDepth 20000 in
theorem gX9_lay_X9_lays : GoodIn wsX9_lay (wsV RX9 106 RX9 yX9_lays wsX9_lays) := goodIn_app (goodIn_of _ (by decide +kernel)) ggX9_lay_X9_lays
set_option maxRecDepth 20000 in
theorem ggX9_lay_X9_kept : GoodIn wsX9_lay wsX9_kept := goodIn_ca (goodIn_r _ [54, 29, 7, 6, 55, 56, 8, 9, 4, 10, 57, 58, 59, 60, 61, 62, 63, 64, 65, 66, 67, 68, 69, 70, 71, 72, 73, 74, 75, 76] (by decide +kernel) (by decide +kernel)) (goodIn_sub (fun _ h => List.mem_cons_of_mem _ (List.mem_append_right _ h)) (by decide +kernel))
set_option maxRecDepth 20000 in
theorem gX9_lay_X9_kept : GoodIn wsX9_lay (wsV RX9 87 RX9 yX9_kept wsX9_kept) := goodIn_app (goodIn_of _ (by decide +kernel)) ggX9_lay_X9_kept
theorem dX9_lay_0 : decode cX9_lay 0 = .ok (.aload_n 0, 1) := by decide +kernel
theorem dX9_lay_1 : decode cX9_lay 1 = .ok (.invokevirtual 81, 3) := by decide +kernel
theorem dX9_lay_4 : decode cX9_lay 4 = .ok (.aload_n 0, 1) := by decide +kernel
theorem dX9_lay_5 : decode cX9_lay 5 = .ok (.aload_n 0, 1) := by decide +kernel
theorem dX9_lay_6 : decode cX9_lay 6 = .ok (.iload_n 1, 1) := by decide +kernel
theorem dX9_lay_7 : decode cX9_lay 7 = .ok (.iload_n 2, 1) := by decide +kernel
theorem dX9_lay_8 : decode cX9_lay 8 = .ok (.invokevirtual 106, 3) := by decide +kernel
theorem dX9_lay_11 : decode cX9_lay 11 = .ok (.invokevirtual 87, 3) := by decide +kernel
theorem dX9_lay_14 : decode cX9_lay 14 = .ok (.ireturn, 1) := by decide +kernel
theorem dX9_closesUp_0 : decode cX9_closesUp 0 = .ok (.iload_n 2, 1) := by decide +kernel
theorem dX9_closesUp_1 : decode cX9_closesUp 1 = .ok (.istore_n 3, 1) := by decide +kernel
theorem dX9_closesUp_2 : decode cX9_closesUp 2 = .ok (.iload_n 3, 1) := by decide +kernel
theorem dX9_closesUp_3 : decode cX9_closesUp 3 = .ok (.bipush 6, 2) := by decide +kernel
theorem dX9_closesUp_5 : decode cX9_closesUp 5 = .ok (.if_icmp .ge 48, 3) := by decide +kernel
theorem dX9_closesUp_8 : decode cX9_closesUp 8 = .ok (.aload_n 0, 1) := by decide +kernel
theorem dX9_closesUp_9 : decode cX9_closesUp 9 = .ok (.getfield 7, 3) := by decide +kernel
theorem dX9_closesUp_12 : decode cX9_closesUp 12 = .ok (.bipush 64, 2) := by decide +kernel
theorem dX9_closesUp_14 : decode cX9_closesUp 14 = .ok (.bipush 6, 2) := by decide +kernel
theorem dX9_closesUp_16 : decode cX9_closesUp 16 = .ok (.iload_n 1, 1) := by decide +kernel
theorem dX9_closesUp_17 : decode cX9_closesUp 17 = .ok (.imul, 1) := by decide +kernel
theorem dX9_closesUp_18 : decode cX9_closesUp 18 = .ok (.iadd, 1) := by decide +kernel
theorem dX9_closesUp_19 : decode cX9_closesUp 19 = .ok (.iload_n 3, 1) := by decide +kernel
theorem dX9_closesUp_20 : decode cX9_closesUp 20 = .ok (.iadd, 1) := by decide +kernel
theorem dX9_closesUp_21 : decode cX9_closesUp 21 = .ok (.iload_n 3, 1) := by decide +kernel
theorem dX9_closesUp_22 : decode cX9_closesUp 22 = .ok (.iconst 5, 1) := by decide +kernel
theorem dX9_closesUp_23 : decode cX9_closesUp 23 = .ok (.if_icmp .ge 22, 3) := by decide +kernel
theorem dX9_closesUp_26 : decode cX9_closesUp 26 = .ok (.aload_n 0, 1) := by decide +kernel
theorem dX9_closesUp_27 : decode cX9_closesUp 27 = .ok (.getfield 7, 3) := by decide +kernel
theorem dX9_closesUp_30 : decode cX9_closesUp 30 = .ok (.bipush 64, 2) := by decide +kernel
theorem dX9_closesUp_32 : decode cX9_closesUp 32 = .ok (.bipush 6, 2) := by decide +kernel
theorem dX9_closesUp_34 : decode cX9_closesUp 34 = .ok (.iload_n 1, 1) := by decide +kernel
theorem dX9_closesUp_35 : decode cX9_closesUp 35 = .ok (.imul, 1) := by decide +kernel
theorem dX9_closesUp_36 : decode cX9_closesUp 36 = .ok (.iadd, 1) := by decide +kernel
theorem dX9_closesUp_37 : decode cX9_closesUp 37 = .ok (.iload_n 3, 1) := by decide +kernel
theorem dX9_closesUp_38 : decode cX9_closesUp 38 = .ok (.iadd, 1) := by decide +kernel
theorem dX9_closesUp_39 : decode cX9_closesUp 39 = .ok (.iconst 1, 1) := by decide +kernel
theorem dX9_closesUp_40 : decode cX9_closesUp 40 = .ok (.iadd, 1) := by decide +kernel
theorem dX9_closesUp_41 : decode cX9_closesUp 41 = .ok (.iaload, 1) := by decide +kernel
theorem dX9_closesUp_42 : decode cX9_closesUp 42 = .ok (.goto 4, 3) := by decide +kernel
theorem dX9_closesUp_45 : decode cX9_closesUp 45 = .ok (.iconst 0, 1) := by decide +kernel
theorem dX9_closesUp_46 : decode cX9_closesUp 46 = .ok (.iastore, 1) := by decide +kernel
theorem dX9_closesUp_47 : decode cX9_closesUp 47 = .ok (.iinc 3 1, 3) := by decide +kernel
theorem dX9_closesUp_50 : decode cX9_closesUp 50 = .ok (.goto (-48), 3) := by decide +kernel
theorem dX9_closesUp_53 : decode cX9_closesUp 53 = .ok (.aload_n 0, 1) := by decide +kernel
theorem dX9_closesUp_54 : decode cX9_closesUp 54 = .ok (.getfield 7, 3) := by decide +kernel
theorem dX9_closesUp_57 : decode cX9_closesUp 57 = .ok (.bipush 55, 2) := by decide +kernel
theorem dX9_closesUp_59 : decode cX9_closesUp 59 = .ok (.iload_n 1, 1) := by decide +kernel
theorem dX9_closesUp_60 : decode cX9_closesUp 60 = .ok (.iadd, 1) := by decide +kernel
theorem dX9_closesUp_61 : decode cX9_closesUp 61 = .ok (.dup2, 1) := by decide +kernel
theorem dX9_closesUp_62 : decode cX9_closesUp 62 = .ok (.iaload, 1) := by decide +kernel
theorem dX9_closesUp_63 : decode cX9_closesUp 63 = .ok (.iconst 1, 1) := by decide +kernel
theorem dX9_closesUp_64 : decode cX9_closesUp 64 = .ok (.isub, 1) := by decide +kernel
theorem dX9_closesUp_65 : decode cX9_closesUp 65 = .ok (.iastore, 1) := by decide +kernel
theorem dX9_closesUp_66 : decode cX9_closesUp 66 = .ok (.return_, 1) := by decide +kernel
theorem dX9_opensAt_0 : decode cX9_opensAt 0 = .ok (.aload_n 0, 1) := by decide +kernel
theorem dX9_opensAt_1 : decode cX9_opensAt 1 = .ok (.getfield 7, 3) := by decide +kernel
theorem dX9_opensAt_4 : decode cX9_opensAt 4 = .ok (.bipush 55, 2) := by decide +kernel
theorem dX9_opensAt_6 : decode cX9_opensAt 6 = .ok (.iload_n 1, 1) := by decide +kernel
theorem dX9_opensAt_7 : decode cX9_opensAt 7 = .ok (.iadd, 1) := by decide +kernel
theorem dX9_opensAt_8 : decode cX9_opensAt 8 = .ok (.iaload, 1) := by decide +kernel
theorem dX9_opensAt_9 : decode cX9_opensAt 9 = .ok (.istore 4, 2) := by decide +kernel
theorem dX9_opensAt_11 : decode cX9_opensAt 11 = .ok (.iload 4, 2) := by decide +kernel
theorem dX9_opensAt_13 : decode cX9_opensAt 13 = .ok (.iload_n 2, 1) := by decide +kernel
theorem dX9_opensAt_14 : decode cX9_opensAt 14 = .ok (.if_icmp .le 41, 3) := by decide +kernel
theorem dX9_opensAt_17 : decode cX9_opensAt 17 = .ok (.aload_n 0, 1) := by decide +kernel
theorem dX9_opensAt_18 : decode cX9_opensAt 18 = .ok (.getfield 7, 3) := by decide +kernel
theorem dX9_opensAt_21 : decode cX9_opensAt 21 = .ok (.bipush 64, 2) := by decide +kernel
theorem dX9_opensAt_23 : decode cX9_opensAt 23 = .ok (.bipush 6, 2) := by decide +kernel
theorem dX9_opensAt_25 : decode cX9_opensAt 25 = .ok (.iload_n 1, 1) := by decide +kernel
theorem dX9_opensAt_26 : decode cX9_opensAt 26 = .ok (.imul, 1) := by decide +kernel
theorem dX9_opensAt_27 : decode cX9_opensAt 27 = .ok (.iadd, 1) := by decide +kernel
theorem dX9_opensAt_28 : decode cX9_opensAt 28 = .ok (.iload 4, 2) := by decide +kernel
theorem dX9_opensAt_30 : decode cX9_opensAt 30 = .ok (.iadd, 1) := by decide +kernel
theorem dX9_opensAt_31 : decode cX9_opensAt 31 = .ok (.aload_n 0, 1) := by decide +kernel
theorem dX9_opensAt_32 : decode cX9_opensAt 32 = .ok (.getfield 7, 3) := by decide +kernel
theorem dX9_opensAt_35 : decode cX9_opensAt 35 = .ok (.bipush 64, 2) := by decide +kernel
theorem dX9_opensAt_37 : decode cX9_opensAt 37 = .ok (.bipush 6, 2) := by decide +kernel
theorem dX9_opensAt_39 : decode cX9_opensAt 39 = .ok (.iload_n 1, 1) := by decide +kernel
theorem dX9_opensAt_40 : decode cX9_opensAt 40 = .ok (.imul, 1) := by decide +kernel
theorem dX9_opensAt_41 : decode cX9_opensAt 41 = .ok (.iadd, 1) := by decide +kernel
theorem dX9_opensAt_42 : decode cX9_opensAt 42 = .ok (.iload 4, 2) := by decide +kernel
theorem dX9_opensAt_44 : decode cX9_opensAt 44 = .ok (.iadd, 1) := by decide +kernel
theorem dX9_opensAt_45 : decode cX9_opensAt 45 = .ok (.iconst 1, 1) := by decide +kernel
theorem dX9_opensAt_46 : decode cX9_opensAt 46 = .ok (.isub, 1) := by decide +kernel
theorem dX9_opensAt_47 : decode cX9_opensAt 47 = .ok (.iaload, 1) := by decide +kernel
theorem dX9_opensAt_48 : decode cX9_opensAt 48 = .ok (.iastore, 1) := by decide +kernel
theorem dX9_opensAt_49 : decode cX9_opensAt 49 = .ok (.iinc 4 (-1), 3) := by decide +kernel
theorem dX9_opensAt_52 : decode cX9_opensAt 52 = .ok (.goto (-41), 3) := by decide +kernel
theorem dX9_opensAt_55 : decode cX9_opensAt 55 = .ok (.aload_n 0, 1) := by decide +kernel
theorem dX9_opensAt_56 : decode cX9_opensAt 56 = .ok (.getfield 7, 3) := by decide +kernel
theorem dX9_opensAt_59 : decode cX9_opensAt 59 = .ok (.bipush 64, 2) := by decide +kernel
theorem dX9_opensAt_61 : decode cX9_opensAt 61 = .ok (.bipush 6, 2) := by decide +kernel
theorem dX9_opensAt_63 : decode cX9_opensAt 63 = .ok (.iload_n 1, 1) := by decide +kernel
theorem dX9_opensAt_64 : decode cX9_opensAt 64 = .ok (.imul, 1) := by decide +kernel
theorem dX9_opensAt_65 : decode cX9_opensAt 65 = .ok (.iadd, 1) := by decide +kernel
theorem dX9_opensAt_66 : decode cX9_opensAt 66 = .ok (.iload_n 2, 1) := by decide +kernel
theorem dX9_opensAt_67 : decode cX9_opensAt 67 = .ok (.iadd, 1) := by decide +kernel
theorem dX9_opensAt_68 : decode cX9_opensAt 68 = .ok (.iload_n 3, 1) := by decide +kernel
theorem dX9_opensAt_69 : decode cX9_opensAt 69 = .ok (.iastore, 1) := by decide +kernel
theorem dX9_opensAt_70 : decode cX9_opensAt 70 = .ok (.aload_n 0, 1) := by decide +kernel
theorem dX9_opensAt_71 : decode cX9_opensAt 71 = .ok (.getfield 7, 3) := by decide +kernel
theorem dX9_opensAt_74 : decode cX9_opensAt 74 = .ok (.bipush 55, 2) := by decide +kernel
theorem dX9_opensAt_76 : decode cX9_opensAt 76 = .ok (.iload_n 1, 1) := by decide +kernel
theorem dX9_opensAt_77 : decode cX9_opensAt 77 = .ok (.iadd, 1) := by decide +kernel
theorem dX9_opensAt_78 : decode cX9_opensAt 78 = .ok (.dup2, 1) := by decide +kernel
theorem dX9_opensAt_79 : decode cX9_opensAt 79 = .ok (.iaload, 1) := by decide +kernel
theorem dX9_opensAt_80 : decode cX9_opensAt 80 = .ok (.iconst 1, 1) := by decide +kernel
theorem dX9_opensAt_81 : decode cX9_opensAt 81 = .ok (.iadd, 1) := by decide +kernel
theorem dX9_opensAt_82 : decode cX9_opensAt 82 = .ok (.iastore, 1) := by decide +kernel
theorem dX9_opensAt_83 : decode cX9_opensAt 83 = .ok (.return_, 1) := by decide +kernel
set_option maxRecDepth 20000 in
theorem ggX9_takes_X9_isNapkin : GoodIn wsX9_takes wsX9_isNapkin := goodIn_ca (goodIn_r _ [5, 6, 7, 8, 4, 9, 40, 41, 42, 43, 44, 45, 46, 47, 48, 49, 50, 51, 52, 53, 54, 55, 56, 57, 58, 59] (by decide +kernel) (by decide +kernel)) (goodIn_sub (fun _ h => List.mem_cons_of_mem _ (List.mem_append_right _ h)) (by decide +kernel))
set_option maxRecDepth 20000 in
theorem gX9_takes_X9_isNapkin : GoodIn wsX9_takes (wsV RX9 90 RX9 yX9_isNapkin wsX9_isNapkin) := goodIn_app (goodIn_of _ (by decide +kernel)) ggX9_takes_X9_isNapkin
set_option maxRecDepth 20000 in
theorem ggX9_takes_X9_fails : GoodIn wsX9_takes wsX9_fails := goodIn_r _ [13, 14, 15, 40, 41, 42, 43, 44, 45, 46, 47, 48, 49, 50, 51, 52, 53, 54, 55, 56, 57, 58, 59] (by decide +kernel) (by decide +kernel)
set_option maxRecDepth 20000 in
theorem gX9_takes_X9_fails : GoodIn wsX9_takes (wsV RX9 70 RX9 yX9_fails wsX9_fails) := goodIn_app (goodIn_of _ (by decide +kernel)) ggX9_takes_X9_fails
set_option maxRecDepth 20000 in
theorem ggX9_takes_X9_seatOf : GoodIn wsX9_takes wsX9_seatOf := goodIn_ca (goodIn_r _ [19, 6, 20, 21, 22, 4, 23, 40, 41, 42, 43, 44, 45, 46, 47, 48, 49, 50, 51, 52, 53, 54, 55, 56, 57, 58, 59] (by decide +kernel) (by decide +kernel)) (goodIn_sub (fun _ h => List.mem_cons_of_mem _ (List.mem_append_right _ h)) (by decide +kernel))
set_option maxRecDepth 20000 in
theorem gX9_takes_X9_seatOf : GoodIn wsX9_takes (wsV RX9 103 RX9 yX9_seatOf wsX9_seatOf) := goodIn_app (goodIn_of _ (by decide +kernel)) ggX9_takes_X9_seatOf
set_option maxRecDepth 20000 in
theorem ggX9_takes_X9_refused : GoodIn wsX9_takes wsX9_refused := goodIn_r _ [27, 28, 29, 30, 31, 14, 15, 40, 41, 42, 43, 44, 45, 46, 47, 48, 49, 50, 51, 52, 53, 54, 55, 56, 57, 58, 59] (by decide +kernel) (by decide +kernel)
set_option maxRecDepth 20000 in
theorem gX9_takes_X9_refused : GoodIn wsX9_takes (wsV RX9 74 RX9 yX9_refused wsX9_refused) := goodIn_app (goodIn_of _ (by decide +kernel)) ggX9_takes_X9_refused
set_option maxRecDepth 20000 in
theorem ggX9_takes_X9_closesUp : GoodIn wsX9_takes wsX9_closesUp := goodIn_ca (goodIn_r _ [35, 6, 40, 41, 42, 43, 44, 45, 46, 47, 48, 49, 50, 51, 52, 53, 54, 55, 56, 57, 58, 59] (by decide +kernel) (by decide +kernel)) (goodIn_sub (fun _ h => List.mem_cons_of_mem _ (List.mem_append_right _ h)) (by decide +kernel))
set_option maxRecDepth 20000 in
theorem gX9_takes_X9_closesUp : GoodIn wsX9_takes (wsV RX9 109 RX9 yX9_closesUp wsX9_closesUp) := goodIn_app (goodIn_of _ (by decide +kernel)) ggX9_takes_X9_closesUp
set_option maxRecDepth 20000 in
theorem ggX9_takes_X9_done : GoodIn wsX9_takes wsX9_done := goodIn_r _ [39, 14, 40, 41, 42, 43, 44, 45, 46, 47, 48, 49, 50, 51, 52, 53, 54, 55, 56, 57, 58, 59] (by decide +kernel) (by decide +kernel)
set_option maxRecDepth 20000 in
theorem gX9_takes_X9_done : GoodIn wsX9_takes (wsV RX9 78 RX9 yX9_done wsX9_done) := goodIn_app (goodIn_of _ (by decide +kernel)) ggX9_takes_X9_done
theorem dX9_takes_0 : decode cX9_takes 0 = .ok (.aload_n 0, 1) := by decide +kernel
theorem dX9_takes_1 : decode cX9_takes 1 = .ok (.iload_n 1, 1) := by decide +kernel
theorem dX9_takes_2 : decode cX9_takes 2 = .ok (.invokevirtual 90, 3) := by decide +kernel
theorem dX9_takes_5 : decode cX9_takes 5 = .ok (.ifCond .ne 9, 3) := by decide +kernel
theorem dX9_takes_8 : decode cX9_takes 8 = .ok (.aload_n 0, 1) := by decide +kernel
theorem dX9_takes_9 : decode cX9_takes 9 = .ok (.iconst 1, 1) := by decide +kernel
theorem dX9_takes_10 : decode cX9_takes 10 = .ok (.invokevirtual 70, 3) := by decide +kernel
theorem dX9_takes_13 : decode cX9_takes 13 = .ok (.ireturn, 1) := by decide +kernel
theorem dX9_takes_14 : decode cX9_takes 14 = .ok (.aload_n 0, 1) := by decide +kernel
theorem dX9_takes_15 : decode cX9_takes 15 = .ok (.iload_n 1, 1) := by decide +kernel
theorem dX9_takes_16 : decode cX9_takes 16 = .ok (.invokevirtual 103, 3) := by decide +kernel
theorem dX9_takes_19 : decode cX9_takes 19 = .ok (.istore_n 2, 1) := by decide +kernel
theorem dX9_takes_20 : decode cX9_takes 20 = .ok (.iload_n 2, 1) := by decide +kernel
theorem dX9_takes_21 : decode cX9_takes 21 = .ok (.iconst (-1), 1) := by decide +kernel
theorem dX9_takes_22 : decode cX9_takes 22 = .ok (.if_icmp .ne 11, 3) := by decide +kernel
theorem dX9_takes_25 : decode cX9_takes 25 = .ok (.aload_n 0, 1) := by decide +kernel
theorem dX9_takes_26 : decode cX9_takes 26 = .ok (.iconst 5, 1) := by decide +kernel
theorem dX9_takes_27 : decode cX9_takes 27 = .ok (.iload_n 1, 1) := by decide +kernel
theorem dX9_takes_28 : decode cX9_takes 28 = .ok (.iconst 2, 1) := by decide +kernel
theorem dX9_takes_29 : decode cX9_takes 29 = .ok (.invokevirtual 74, 3) := by decide +kernel
theorem dX9_takes_32 : decode cX9_takes 32 = .ok (.ireturn, 1) := by decide +kernel
theorem dX9_takes_33 : decode cX9_takes 33 = .ok (.aload_n 0, 1) := by decide +kernel
theorem dX9_takes_34 : decode cX9_takes 34 = .ok (.iload_n 2, 1) := by decide +kernel
theorem dX9_takes_35 : decode cX9_takes 35 = .ok (.bipush 10, 2) := by decide +kernel
theorem dX9_takes_37 : decode cX9_takes 37 = .ok (.idiv, 1) := by decide +kernel
theorem dX9_takes_38 : decode cX9_takes 38 = .ok (.iload_n 2, 1) := by decide +kernel
theorem dX9_takes_39 : decode cX9_takes 39 = .ok (.bipush 10, 2) := by decide +kernel
theorem dX9_takes_41 : decode cX9_takes 41 = .ok (.irem, 1) := by decide +kernel
theorem dX9_takes_42 : decode cX9_takes 42 = .ok (.invokevirtual 109, 3) := by decide +kernel
theorem dX9_takes_45 : decode cX9_takes 45 = .ok (.aload_n 0, 1) := by decide +kernel
theorem dX9_takes_46 : decode cX9_takes 46 = .ok (.iload_n 2, 1) := by decide +kernel
theorem dX9_takes_47 : decode cX9_takes 47 = .ok (.bipush 10, 2) := by decide +kernel
theorem dX9_takes_49 : decode cX9_takes 49 = .ok (.irem, 1) := by decide +kernel
theorem dX9_takes_50 : decode cX9_takes 50 = .ok (.invokevirtual 78, 3) := by decide +kernel
theorem dX9_takes_53 : decode cX9_takes 53 = .ok (.ireturn, 1) := by decide +kernel
set_option maxRecDepth 20000 in
theorem ggX9_take_X9_looksBack : GoodIn wsX9_take wsX9_looksBack := goodIn_ca (goodIn_r _ [5, 6, 7, 8, 9, 4, 10, 58, 59, 60, 61, 62, 63, 64, 65, 66, 67, 68, 69, 70, 71, 72, 73, 74, 75, 76, 77] (by decide +kernel) (by decide +kernel)) (goodIn_sub (fun _ h => List.mem_cons_of_mem _ (List.mem_append_right _ h)) (by decide +kernel))
set_option maxRecDepth 20000 in
theorem gX9_take_X9_looksBack : GoodIn wsX9_take (wsV RX9 81 RX9 yX9_looksBack wsX9_looksBack) := goodIn_app (goodIn_of _ (by decide +kernel)) ggX9_take_X9_looksBack
set_option maxRecDepth 20000 in
theorem ggX9_take_X9_takes : GoodIn wsX9_take wsX9_takes := goodIn_ca (goodIn_r _ [14, 15, 16, 17, 4, 18, 6, 19, 20, 21, 22, 23, 24, 25, 26, 27, 28, 29, 30, 31, 32, 33, 34, 35, 36, 37, 38, 39, 40, 41, 42, 43, 44, 45, 46, 47, 48, 49, 50, 51, 58, 59, 60, 61, 62, 63, 64, 65, 66, 67, 68, 69, 70, 71, 72, 73, 74, 75, 76, 77] (by decide +kernel) (by decide +kernel)) (goodIn_sub (fun _ h => List.mem_cons_of_mem _ (List.mem_append_right _ h)) (by decide +kernel))
set_option maxRecDepth 20000 in
theorem gX9_take_X9_takes : GoodIn wsX9_take (wsV RX9 113 RX9 yX9_takes wsX9_takes) := goodIn_app (goodIn_of _ (by decide +kernel)) ggX9_take_X9_takes
set_option maxRecDepth 20000 in
theorem ggX9_take_X9_kept : GoodIn wsX9_take wsX9_kept := goodIn_ca (goodIn_r _ [55, 26, 7, 6, 56, 57, 8, 9, 4, 10, 58, 59, 60, 61, 62, 63, 64, 65, 66, 67, 68, 69, 70, 71, 72, 73, 74, 75, 76, 77] (by decide +kernel) (by decide +kernel)) (goodIn_sub (fun _ h => List.mem_cons_of_mem _ (List.mem_append_right _ h)) (by decide +kernel))
set_option maxRecDepth 20000 in
theorem gX9_take_X9_kept : GoodIn wsX9_take (wsV RX9 87 RX9 yX9_kept wsX9_kept) := goodIn_app (goodIn_of _ (by decide +kernel)) ggX9_take_X9_kept
theorem dX9_take_0 : decode cX9_take 0 = .ok (.aload_n 0, 1) := by decide +kernel
theorem dX9_take_1 : decode cX9_take 1 = .ok (.invokevirtual 81, 3) := by decide +kernel
theorem dX9_take_4 : decode cX9_take 4 = .ok (.aload_n 0, 1) := by decide +kernel
theorem dX9_take_5 : decode cX9_take 5 = .ok (.aload_n 0, 1) := by decide +kernel
theorem dX9_take_6 : decode cX9_take 6 = .ok (.iload_n 1, 1) := by decide +kernel
theorem dX9_take_7 : decode cX9_take 7 = .ok (.invokevirtual 113, 3) := by decide +kernel
theorem dX9_take_10 : decode cX9_take 10 = .ok (.invokevirtual 87, 3) := by decide +kernel
theorem dX9_take_13 : decode cX9_take 13 = .ok (.ireturn, 1) := by decide +kernel
set_option maxRecDepth 20000 in
theorem ggX9_moves_X9_isTable : GoodIn wsX9_moves wsX9_isTable := goodIn_r _ [5, 6, 7, 4, 8] (by decide +kernel) (by decide +kernel)
set_option maxRecDepth 20000 in
theorem gX9_moves_X9_isTable : GoodIn wsX9_moves (va_wsS RX9 100 yX9_isTable wsX9_isTable) := goodIn_app (goodIn_of _ (by decide +kernel)) ggX9_moves_X9_isTable
set_option maxRecDepth 20000 in
theorem ggX9_moves_X9_in : GoodIn wsX9_moves wsX9_in := goodIn_r _ [8] (by decide +kernel) (by decide +kernel)
set_option maxRecDepth 20000 in
theorem gX9_moves_X9_in : GoodIn wsX9_moves (va_wsS RX9 62 yX9_in wsX9_in) := goodIn_app (goodIn_of _ (by decide +kernel)) ggX9_moves_X9_in
set_option maxRecDepth 20000 in
theorem ggX9_moves_X9_fails : GoodIn wsX9_moves wsX9_fails := goodIn_r _ [12, 13, 14, 39, 40, 41, 42, 43, 44, 45, 46, 47, 48, 49, 50, 51, 52, 53, 54, 55, 56, 57, 58] (by decide +kernel) (by decide +kernel)
set_option maxRecDepth 20000 in
theorem gX9_moves_X9_fails : GoodIn wsX9_moves (wsV RX9 70 RX9 yX9_fails wsX9_fails) := goodIn_app (goodIn_of _ (by decide +kernel)) ggX9_moves_X9_fails
set_option maxRecDepth 20000 in
theorem ggX9_moves_X9_refused : GoodIn wsX9_moves wsX9_refused := goodIn_r _ [18, 19, 20, 21, 22, 13, 14, 39, 40, 41, 42, 43, 44, 45, 46, 47, 48, 49, 50, 51, 52, 53, 54, 55, 56, 57, 58] (by decide +kernel) (by decide +kernel)
set_option maxRecDepth 20000 in
theorem gX9_moves_X9_refused : GoodIn wsX9_moves (wsV RX9 74 RX9 yX9_refused wsX9_refused) := goodIn_app (goodIn_of _ (by decide +kernel)) ggX9_moves_X9_refused
set_option maxRecDepth 20000 in
theorem ggX9_moves_X9_at : GoodIn wsX9_moves wsX9_at := goodIn_ca (goodIn_r _ [26, 1, 39, 40, 41, 42, 43, 44, 45, 46, 47, 48, 49, 50, 51, 52, 53, 54, 55, 56, 57, 58] (by decide +kernel) (by decide +kernel)) (goodIn_sub (fun _ h => List.mem_cons_of_mem _ (List.mem_append_right _ h)) (by decide +kernel))
set_option maxRecDepth 20000 in
theorem gX9_moves_X9_at : GoodIn wsX9_moves (wsV RX9 66 RX9 yX9_at wsX9_at) := goodIn_app (goodIn_of _ (by decide +kernel)) ggX9_moves_X9_at
set_option maxRecDepth 20000 in
theorem ggX9_moves_X9_closesUp : GoodIn wsX9_moves wsX9_closesUp := goodIn_ca (goodIn_r _ [30, 1, 39, 40, 41, 42, 43, 44, 45, 46, 47, 48, 49, 50, 51, 52, 53, 54, 55, 56, 57, 58] (by decide +kernel) (by decide +kernel)) (goodIn_sub (fun _ h => List.mem_cons_of_mem _ (List.mem_append_right _ h)) (by decide +kernel))
set_option maxRecDepth 20000 in
theorem gX9_moves_X9_closesUp : GoodIn wsX9_moves (wsV RX9 109 RX9 yX9_closesUp wsX9_closesUp) := goodIn_app (goodIn_of _ (by decide +kernel)) ggX9_moves_X9_closesUp
set_option maxRecDepth 20000 in
theorem ggX9_moves_X9_opensAt : GoodIn wsX9_moves wsX9_opensAt := goodIn_ca (goodIn_r _ [34, 1, 39, 40, 41, 42, 43, 44, 45, 46, 47, 48, 49, 50, 51, 52, 53, 54, 55, 56, 57, 58] (by decide +kernel) (by decide +kernel)) (goodIn_sub (fun _ h => List.mem_cons_of_mem _ (List.mem_append_right _ h)) (by decide +kernel))
set_option maxRecDepth 20000 in
theorem gX9_moves_X9_opensAt : GoodIn wsX9_moves (wsV RX9 116 RX9 yX9_opensAt wsX9_opensAt) := goodIn_app (goodIn_of _ (by decide +kernel)) ggX9_moves_X9_opensAt
set_option maxRecDepth 20000 in
theorem ggX9_moves_X9_done : GoodIn wsX9_moves wsX9_done := goodIn_r _ [38, 13, 39, 40, 41, 42, 43, 44, 45, 46, 47, 48, 49, 50, 51, 52, 53, 54, 55, 56, 57, 58] (by decide +kernel) (by decide +kernel)
set_option maxRecDepth 20000 in
theorem gX9_moves_X9_done : GoodIn wsX9_moves (wsV RX9 78 RX9 yX9_done wsX9_done) := goodIn_app (goodIn_of _ (by decide +kernel)) ggX9_moves_X9_done
theorem dX9_moves_0 : decode cX9_moves 0 = .ok (.iload_n 1, 1) := by decide +kernel
theorem dX9_moves_1 : decode cX9_moves 1 = .ok (.invokestatic 100, 3) := by decide +kernel
theorem dX9_moves_4 : decode cX9_moves 4 = .ok (.ifCond .eq 41, 3) := by decide +kernel
theorem dX9_moves_7 : decode cX9_moves 7 = .ok (.iload_n 2, 1) := by decide +kernel
theorem dX9_moves_8 : decode cX9_moves 8 = .ok (.iconst 0, 1) := by decide +kernel
theorem dX9_moves_9 : decode cX9_moves 9 = .ok (.aload_n 0, 1) := by decide +kernel
theorem dX9_moves_10 : decode cX9_moves 10 = .ok (.getfield 7, 3) := by decide +kernel
theorem dX9_moves_13 : decode cX9_moves 13 = .ok (.bipush 55, 2) := by decide +kernel
theorem dX9_moves_15 : decode cX9_moves 15 = .ok (.iload_n 1, 1) := by decide +kernel
theorem dX9_moves_16 : decode cX9_moves 16 = .ok (.iadd, 1) := by decide +kernel
theorem dX9_moves_17 : decode cX9_moves 17 = .ok (.iaload, 1) := by decide +kernel
theorem dX9_moves_18 : decode cX9_moves 18 = .ok (.iconst 1, 1) := by decide +kernel
theorem dX9_moves_19 : decode cX9_moves 19 = .ok (.isub, 1) := by decide +kernel
theorem dX9_moves_20 : decode cX9_moves 20 = .ok (.invokestatic 62, 3) := by decide +kernel
theorem dX9_moves_23 : decode cX9_moves 23 = .ok (.ifCond .eq 22, 3) := by decide +kernel
theorem dX9_moves_26 : decode cX9_moves 26 = .ok (.iload_n 3, 1) := by decide +kernel
theorem dX9_moves_27 : decode cX9_moves 27 = .ok (.iconst 0, 1) := by decide +kernel
theorem dX9_moves_28 : decode cX9_moves 28 = .ok (.aload_n 0, 1) := by decide +kernel
theorem dX9_moves_29 : decode cX9_moves 29 = .ok (.getfield 7, 3) := by decide +kernel
theorem dX9_moves_32 : decode cX9_moves 32 = .ok (.bipush 55, 2) := by decide +kernel
theorem dX9_moves_34 : decode cX9_moves 34 = .ok (.iload_n 1, 1) := by decide +kernel
theorem dX9_moves_35 : decode cX9_moves 35 = .ok (.iadd, 1) := by decide +kernel
theorem dX9_moves_36 : decode cX9_moves 36 = .ok (.iaload, 1) := by decide +kernel
theorem dX9_moves_37 : decode cX9_moves 37 = .ok (.iconst 1, 1) := by decide +kernel
theorem dX9_moves_38 : decode cX9_moves 38 = .ok (.isub, 1) := by decide +kernel
theorem dX9_moves_39 : decode cX9_moves 39 = .ok (.invokestatic 62, 3) := by decide +kernel
theorem dX9_moves_42 : decode cX9_moves 42 = .ok (.ifCond .ne 9, 3) := by decide +kernel
theorem dX9_moves_45 : decode cX9_moves 45 = .ok (.aload_n 0, 1) := by decide +kernel
theorem dX9_moves_46 : decode cX9_moves 46 = .ok (.iconst 1, 1) := by decide +kernel
theorem dX9_moves_47 : decode cX9_moves 47 = .ok (.invokevirtual 70, 3) := by decide +kernel
theorem dX9_moves_50 : decode cX9_moves 50 = .ok (.ireturn, 1) := by decide +kernel
theorem dX9_moves_51 : decode cX9_moves 51 = .ok (.iload_n 2, 1) := by decide +kernel
theorem dX9_moves_52 : decode cX9_moves 52 = .ok (.iload_n 3, 1) := by decide +kernel
theorem dX9_moves_53 : decode cX9_moves 53 = .ok (.if_icmp .ne 11, 3) := by decide +kernel
theorem dX9_moves_56 : decode cX9_moves 56 = .ok (.aload_n 0, 1) := by decide +kernel
theorem dX9_moves_57 : decode cX9_moves 57 = .ok (.iconst 2, 1) := by decide +kernel
theorem dX9_moves_58 : decode cX9_moves 58 = .ok (.iload_n 3, 1) := by decide +kernel
theorem dX9_moves_59 : decode cX9_moves 59 = .ok (.iconst 2, 1) := by decide +kernel
theorem dX9_moves_60 : decode cX9_moves 60 = .ok (.invokevirtual 74, 3) := by decide +kernel
theorem dX9_moves_63 : decode cX9_moves 63 = .ok (.ireturn, 1) := by decide +kernel
theorem dX9_moves_64 : decode cX9_moves 64 = .ok (.aload_n 0, 1) := by decide +kernel
theorem dX9_moves_65 : decode cX9_moves 65 = .ok (.iload_n 1, 1) := by decide +kernel
theorem dX9_moves_66 : decode cX9_moves 66 = .ok (.iload_n 2, 1) := by decide +kernel
theorem dX9_moves_67 : decode cX9_moves 67 = .ok (.invokevirtual 66, 3) := by decide +kernel
theorem dX9_moves_70 : decode cX9_moves 70 = .ok (.istore 4, 2) := by decide +kernel
theorem dX9_moves_72 : decode cX9_moves 72 = .ok (.aload_n 0, 1) := by decide +kernel
theorem dX9_moves_73 : decode cX9_moves 73 = .ok (.iload_n 1, 1) := by decide +kernel
theorem dX9_moves_74 : decode cX9_moves 74 = .ok (.iload_n 2, 1) := by decide +kernel
theorem dX9_moves_75 : decode cX9_moves 75 = .ok (.invokevirtual 109, 3) := by decide +kernel
theorem dX9_moves_78 : decode cX9_moves 78 = .ok (.aload_n 0, 1) := by decide +kernel
theorem dX9_moves_79 : decode cX9_moves 79 = .ok (.iload_n 1, 1) := by decide +kernel
theorem dX9_moves_80 : decode cX9_moves 80 = .ok (.iload_n 3, 1) := by decide +kernel
theorem dX9_moves_81 : decode cX9_moves 81 = .ok (.iload 4, 2) := by decide +kernel
theorem dX9_moves_83 : decode cX9_moves 83 = .ok (.invokevirtual 116, 3) := by decide +kernel
theorem dX9_moves_86 : decode cX9_moves 86 = .ok (.aload_n 0, 1) := by decide +kernel
theorem dX9_moves_87 : decode cX9_moves 87 = .ok (.iload 4, 2) := by decide +kernel
theorem dX9_moves_89 : decode cX9_moves 89 = .ok (.invokevirtual 78, 3) := by decide +kernel
theorem dX9_moves_92 : decode cX9_moves 92 = .ok (.ireturn, 1) := by decide +kernel
set_option maxRecDepth 20000 in
theorem ggX9_move_X9_looksBack : GoodIn wsX9_move wsX9_looksBack := goodIn_ca (goodIn_r _ [5, 6, 7, 8, 9, 4, 10, 57, 58, 59, 60, 61, 62, 63, 64, 65, 66, 67, 68, 69, 70, 71, 72, 73, 74, 75, 76] (by decide +kernel) (by decide +kernel)) (goodIn_sub (fun _ h => List.mem_cons_of_mem _ (List.mem_append_right _ h)) (by decide +kernel))
set_option maxRecDepth 20000 in
theorem gX9_move_X9_looksBack : GoodIn wsX9_move (wsV RX9 81 RX9 yX9_looksBack wsX9_looksBack) := goodIn_app (goodIn_of _ (by decide +kernel)) ggX9_move_X9_looksBack
set_option maxRecDepth 20000 in
theorem ggX9_move_X9_moves : GoodIn wsX9_move wsX9_moves := goodIn_ca (goodIn_r _ [14, 6, 15, 16, 4, 17, 18, 19, 20, 21, 22, 23, 24, 25, 26, 27, 28, 29, 30, 31, 32, 33, 34, 35, 36, 37, 38, 39, 40, 41, 42, 43, 44, 45, 46, 47, 48, 49, 50, 57, 58, 59, 60, 61, 62, 63, 64, 65, 66, 67, 68, 69, 70, 71, 72, 73, 74, 75, 76] (by decide +kernel) (by decide +kernel)) (goodIn_sub (fun _ h => List.mem_cons_of_mem _ (List.mem_append_right _ h)) (by decide +kernel))
set_option maxRecDepth 20000 in
theorem gX9_move_X9_moves : GoodIn wsX9_move (wsV RX9 120 RX9 yX9_moves wsX9_moves) := goodIn_app (goodIn_of _ (by decide +kernel)) ggX9_move_X9_moves
set_option maxRecDepth 20000 in
theorem ggX9_move_X9_kept : GoodIn wsX9_move wsX9_kept := goodIn_ca (goodIn_r _ [54, 25, 7, 6, 55, 56, 8, 9, 4, 10, 57, 58, 59, 60, 61, 62, 63, 64, 65, 66, 67, 68, 69, 70, 71, 72, 73, 74, 75, 76] (by decide +kernel) (by decide +kernel)) (goodIn_sub (fun _ h => List.mem_cons_of_mem _ (List.mem_append_right _ h)) (by decide +kernel))
set_option maxRecDepth 20000 in
theorem gX9_move_X9_kept : GoodIn wsX9_move (wsV RX9 87 RX9 yX9_kept wsX9_kept) := goodIn_app (goodIn_of _ (by decide +kernel)) ggX9_move_X9_kept
theorem dX9_move_0 : decode cX9_move 0 = .ok (.aload_n 0, 1) := by decide +kernel
theorem dX9_move_1 : decode cX9_move 1 = .ok (.invokevirtual 81, 3) := by decide +kernel
theorem dX9_move_4 : decode cX9_move 4 = .ok (.aload_n 0, 1) := by decide +kernel
theorem dX9_move_5 : decode cX9_move 5 = .ok (.aload_n 0, 1) := by decide +kernel
theorem dX9_move_6 : decode cX9_move 6 = .ok (.iload_n 1, 1) := by decide +kernel
theorem dX9_move_7 : decode cX9_move 7 = .ok (.iload_n 2, 1) := by decide +kernel
theorem dX9_move_8 : decode cX9_move 8 = .ok (.iload_n 3, 1) := by decide +kernel
theorem dX9_move_9 : decode cX9_move 9 = .ok (.invokevirtual 120, 3) := by decide +kernel
theorem dX9_move_12 : decode cX9_move 12 = .ok (.invokevirtual 87, 3) := by decide +kernel
theorem dX9_move_15 : decode cX9_move 15 = .ok (.ireturn, 1) := by decide +kernel
set_option maxRecDepth 20000 in
theorem ggX9_stains_X9_isNapkin : GoodIn wsX9_stains wsX9_isNapkin := goodIn_ca (goodIn_r _ [6, 1, 7, 8, 5, 9, 28, 29, 30, 31, 32, 33, 34, 35, 36, 37, 38, 39, 40, 41, 42, 43, 44, 45, 46, 47] (by decide +kernel) (by decide +kernel)) (goodIn_sub (fun _ h => List.mem_cons_of_mem _ (List.mem_append_right _ h)) (by decide +kernel))
set_option maxRecDepth 20000 in
theorem gX9_stains_X9_isNapkin : GoodIn wsX9_stains (wsV RX9 90 RX9 yX9_isNapkin wsX9_isNapkin) := goodIn_app (goodIn_of _ (by decide +kernel)) ggX9_stains_X9_isNapkin
set_option maxRecDepth 20000 in
theorem ggX9_stains_X9_fails : GoodIn wsX9_stains wsX9_fails := goodIn_r _ [13, 14, 15, 28, 29, 30, 31, 32, 33, 34, 35, 36, 37, 38, 39, 40, 41, 42, 43, 44, 45, 46, 47] (by decide +kernel) (by decide +kernel)
set_option maxRecDepth 20000 in
theorem gX9_stains_X9_fails : GoodIn wsX9_stains (wsV RX9 70 RX9 yX9_fails wsX9_fails) := goodIn_app (goodIn_of _ (by decide +kernel)) ggX9_stains_X9_fails
set_option maxRecDepth 20000 in
theorem ggX9_stains_X9_in : GoodIn wsX9_stains wsX9_in := goodIn_r _ [9] (by decide +kernel) (by decide +kernel)
set_option maxRecDepth 20000 in
theorem gX9_stains_X9_in : GoodIn wsX9_stains (va_wsS RX9 62 yX9_in wsX9_in) := goodIn_app (goodIn_of _ (by decide +kernel)) ggX9_stains_X9_in
set_option maxRecDepth 20000 in
theorem ggX9_stains_X9_refused : GoodIn wsX9_stains wsX9_refused := goodIn_r _ [19, 20, 21, 22, 23, 14, 15, 28, 29, 30, 31, 32, 33, 34, 35, 36, 37, 38, 39, 40, 41, 42, 43, 44, 45, 46, 47] (by decide +kernel) (by decide +kernel)
set_option maxRecDepth 20000 in
theorem gX9_stains_X9_refused : GoodIn wsX9_stains (wsV RX9 74 RX9 yX9_refused wsX9_refused) := goodIn_app (goodIn_of _ (by decide +kernel)) ggX9_stains_X9_refused
set_option maxRecDepth 20000 in
theorem ggX9_stains_X9_done : GoodIn wsX9_stains wsX9_done := goodIn_r _ [27, 14, 28, 29, 30, 31, 32, 33, 34, 35, 36, 37, 38, 39, 40, 41, 42, 43, 44, 45, 46, 47] (by decide +kernel) (by decide +kernel)
set_option maxRecDepth 20000 in
theorem gX9_stains_X9_done : GoodIn wsX9_stains (wsV RX9 78 RX9 yX9_done wsX9_done) := goodIn_app (goodIn_of _ (by decide +kernel)) ggX9_stains_X9_done
theorem dX9_stains_0 : decode cX9_stains 0 = .ok (.aload_n 0, 1) := by decide +kernel
theorem dX9_stains_1 : decode cX9_stains 1 = .ok (.iload_n 1, 1) := by decide +kernel
theorem dX9_stains_2 : decode cX9_stains 2 = .ok (.invokevirtual 90, 3) := by decide +kernel
theorem dX9_stains_5 : decode cX9_stains 5 = .ok (.ifCond .ne 9, 3) := by decide +kernel
theorem dX9_stains_8 : decode cX9_stains 8 = .ok (.aload_n 0, 1) := by decide +kernel
theorem dX9_stains_9 : decode cX9_stains 9 = .ok (.iconst 1, 1) := by decide +kernel
theorem dX9_stains_10 : decode cX9_stains 10 = .ok (.invokevirtual 70, 3) := by decide +kernel
theorem dX9_stains_13 : decode cX9_stains 13 = .ok (.ireturn, 1) := by decide +kernel
theorem dX9_stains_14 : decode cX9_stains 14 = .ok (.iload_n 2, 1) := by decide +kernel
theorem dX9_stains_15 : decode cX9_stains 15 = .ok (.iconst 1, 1) := by decide +kernel
theorem dX9_stains_16 : decode cX9_stains 16 = .ok (.bipush 9, 2) := by decide +kernel
theorem dX9_stains_18 : decode cX9_stains 18 = .ok (.invokestatic 62, 3) := by decide +kernel
theorem dX9_stains_21 : decode cX9_stains 21 = .ok (.ifCond .ne 9, 3) := by decide +kernel
theorem dX9_stains_24 : decode cX9_stains 24 = .ok (.aload_n 0, 1) := by decide +kernel
theorem dX9_stains_25 : decode cX9_stains 25 = .ok (.iconst 2, 1) := by decide +kernel
theorem dX9_stains_26 : decode cX9_stains 26 = .ok (.invokevirtual 70, 3) := by decide +kernel
theorem dX9_stains_29 : decode cX9_stains 29 = .ok (.ireturn, 1) := by decide +kernel
theorem dX9_stains_30 : decode cX9_stains 30 = .ok (.aload_n 0, 1) := by decide +kernel
theorem dX9_stains_31 : decode cX9_stains 31 = .ok (.getfield 7, 3) := by decide +kernel
theorem dX9_stains_34 : decode cX9_stains 34 = .ok (.bipush 35, 2) := by decide +kernel
theorem dX9_stains_36 : decode cX9_stains 36 = .ok (.iload_n 1, 1) := by decide +kernel
theorem dX9_stains_37 : decode cX9_stains 37 = .ok (.iadd, 1) := by decide +kernel
theorem dX9_stains_38 : decode cX9_stains 38 = .ok (.iaload, 1) := by decide +kernel
theorem dX9_stains_39 : decode cX9_stains 39 = .ok (.iload_n 2, 1) := by decide +kernel
theorem dX9_stains_40 : decode cX9_stains 40 = .ok (.iadd, 1) := by decide +kernel
theorem dX9_stains_41 : decode cX9_stains 41 = .ok (.bipush 9, 2) := by decide +kernel
theorem dX9_stains_43 : decode cX9_stains 43 = .ok (.if_icmp .le 20, 3) := by decide +kernel
theorem dX9_stains_46 : decode cX9_stains 46 = .ok (.aload_n 0, 1) := by decide +kernel
theorem dX9_stains_47 : decode cX9_stains 47 = .ok (.bipush 6, 2) := by decide +kernel
theorem dX9_stains_49 : decode cX9_stains 49 = .ok (.aload_n 0, 1) := by decide +kernel
theorem dX9_stains_50 : decode cX9_stains 50 = .ok (.getfield 7, 3) := by decide +kernel
theorem dX9_stains_53 : decode cX9_stains 53 = .ok (.bipush 35, 2) := by decide +kernel
theorem dX9_stains_55 : decode cX9_stains 55 = .ok (.iload_n 1, 1) := by decide +kernel
theorem dX9_stains_56 : decode cX9_stains 56 = .ok (.iadd, 1) := by decide +kernel
theorem dX9_stains_57 : decode cX9_stains 57 = .ok (.iaload, 1) := by decide +kernel
theorem dX9_stains_58 : decode cX9_stains 58 = .ok (.iconst 3, 1) := by decide +kernel
theorem dX9_stains_59 : decode cX9_stains 59 = .ok (.invokevirtual 74, 3) := by decide +kernel
theorem dX9_stains_62 : decode cX9_stains 62 = .ok (.ireturn, 1) := by decide +kernel
theorem dX9_stains_63 : decode cX9_stains 63 = .ok (.aload_n 0, 1) := by decide +kernel
theorem dX9_stains_64 : decode cX9_stains 64 = .ok (.getfield 7, 3) := by decide +kernel
theorem dX9_stains_67 : decode cX9_stains 67 = .ok (.bipush 35, 2) := by decide +kernel
theorem dX9_stains_69 : decode cX9_stains 69 = .ok (.iload_n 1, 1) := by decide +kernel
theorem dX9_stains_70 : decode cX9_stains 70 = .ok (.iadd, 1) := by decide +kernel
theorem dX9_stains_71 : decode cX9_stains 71 = .ok (.dup2, 1) := by decide +kernel
theorem dX9_stains_72 : decode cX9_stains 72 = .ok (.iaload, 1) := by decide +kernel
theorem dX9_stains_73 : decode cX9_stains 73 = .ok (.iload_n 2, 1) := by decide +kernel
theorem dX9_stains_74 : decode cX9_stains 74 = .ok (.iadd, 1) := by decide +kernel
theorem dX9_stains_75 : decode cX9_stains 75 = .ok (.iastore, 1) := by decide +kernel
theorem dX9_stains_76 : decode cX9_stains 76 = .ok (.aload_n 0, 1) := by decide +kernel
theorem dX9_stains_77 : decode cX9_stains 77 = .ok (.aload_n 0, 1) := by decide +kernel
theorem dX9_stains_78 : decode cX9_stains 78 = .ok (.getfield 7, 3) := by decide +kernel
theorem dX9_stains_81 : decode cX9_stains 81 = .ok (.bipush 35, 2) := by decide +kernel
theorem dX9_stains_83 : decode cX9_stains 83 = .ok (.iload_n 1, 1) := by decide +kernel
theorem dX9_stains_84 : decode cX9_stains 84 = .ok (.iadd, 1) := by decide +kernel
theorem dX9_stains_85 : decode cX9_stains 85 = .ok (.iaload, 1) := by decide +kernel
theorem dX9_stains_86 : decode cX9_stains 86 = .ok (.invokevirtual 78, 3) := by decide +kernel
theorem dX9_stains_89 : decode cX9_stains 89 = .ok (.ireturn, 1) := by decide +kernel
set_option maxRecDepth 20000 in
theorem ggX9_stain_X9_looksBack : GoodIn wsX9_stain wsX9_looksBack := goodIn_ca (goodIn_r _ [5, 6, 7, 8, 9, 4, 10, 46, 47, 48, 49, 50, 51, 52, 53, 54, 55, 56, 57, 58, 59, 60, 61, 62, 63, 64, 65] (by decide +kernel) (by decide +kernel)) (goodIn_sub (fun _ h => List.mem_cons_of_mem _ (List.mem_append_right _ h)) (by decide +kernel))
set_option maxRecDepth 20000 in
theorem gX9_stain_X9_looksBack : GoodIn wsX9_stain (wsV RX9 81 RX9 yX9_looksBack wsX9_looksBack) := goodIn_app (goodIn_of _ (by decide +kernel)) ggX9_stain_X9_looksBack
set_option maxRecDepth 20000 in
theorem ggX9_stain_X9_stains : GoodIn wsX9_stain wsX9_stains := goodIn_ca (goodIn_r _ [14, 6, 15, 16, 17, 4, 18, 19, 20, 21, 22, 23, 24, 25, 26, 27, 28, 29, 30, 31, 32, 33, 34, 35, 36, 37, 38, 39, 46, 47, 48, 49, 50, 51, 52, 53, 54, 55, 56, 57, 58, 59, 60, 61, 62, 63, 64, 65] (by decide +kernel) (by decide +kernel)) (goodIn_sub (fun _ h => List.mem_cons_of_mem _ (List.mem_append_right _ h)) (by decide +kernel))
set_option maxRecDepth 20000 in
theorem gX9_stain_X9_stains : GoodIn wsX9_stain (wsV RX9 123 RX9 yX9_stains wsX9_stains) := goodIn_app (goodIn_of _ (by decide +kernel)) ggX9_stain_X9_stains
set_option maxRecDepth 20000 in
theorem ggX9_stain_X9_kept : GoodIn wsX9_stain wsX9_kept := goodIn_ca (goodIn_r _ [43, 26, 7, 6, 44, 45, 8, 9, 4, 10, 46, 47, 48, 49, 50, 51, 52, 53, 54, 55, 56, 57, 58, 59, 60, 61, 62, 63, 64, 65] (by decide +kernel) (by decide +kernel)) (goodIn_sub (fun _ h => List.mem_cons_of_mem _ (List.mem_append_right _ h)) (by decide +kernel))
set_option maxRecDepth 20000 in
theorem gX9_stain_X9_kept : GoodIn wsX9_stain (wsV RX9 87 RX9 yX9_kept wsX9_kept) := goodIn_app (goodIn_of _ (by decide +kernel)) ggX9_stain_X9_kept
theorem dX9_stain_0 : decode cX9_stain 0 = .ok (.aload_n 0, 1) := by decide +kernel
theorem dX9_stain_1 : decode cX9_stain 1 = .ok (.invokevirtual 81, 3) := by decide +kernel
theorem dX9_stain_4 : decode cX9_stain 4 = .ok (.aload_n 0, 1) := by decide +kernel
theorem dX9_stain_5 : decode cX9_stain 5 = .ok (.aload_n 0, 1) := by decide +kernel
theorem dX9_stain_6 : decode cX9_stain 6 = .ok (.iload_n 1, 1) := by decide +kernel
theorem dX9_stain_7 : decode cX9_stain 7 = .ok (.iload_n 2, 1) := by decide +kernel
theorem dX9_stain_8 : decode cX9_stain 8 = .ok (.invokevirtual 123, 3) := by decide +kernel
theorem dX9_stain_11 : decode cX9_stain 11 = .ok (.invokevirtual 87, 3) := by decide +kernel
theorem dX9_stain_14 : decode cX9_stain 14 = .ok (.ireturn, 1) := by decide +kernel
set_option maxRecDepth 20000 in
theorem ggX9_washes_X9_isNapkin : GoodIn wsX9_washes wsX9_isNapkin := goodIn_ca (goodIn_r _ [6, 1, 7, 8, 5, 9, 36, 37, 38, 39, 40, 41, 42, 43, 44, 45, 46, 47, 48, 49, 50, 51, 52, 53, 54, 55] (by decide +kernel) (by decide +kernel)) (goodIn_sub (fun _ h => List.mem_cons_of_mem _ (List.mem_append_right _ h)) (by decide +kernel))
set_option maxRecDepth 20000 in
theorem gX9_washes_X9_isNapkin : GoodIn wsX9_washes (wsV RX9 90 RX9 yX9_isNapkin wsX9_isNapkin) := goodIn_app (goodIn_of _ (by decide +kernel)) ggX9_washes_X9_isNapkin
set_option maxRecDepth 20000 in
theorem ggX9_washes_X9_fails : GoodIn wsX9_washes wsX9_fails := goodIn_r _ [13, 14, 15, 36, 37, 38, 39, 40, 41, 42, 43, 44, 45, 46, 47, 48, 49, 50, 51, 52, 53, 54, 55] (by decide +kernel) (by decide +kernel)
set_option maxRecDepth 20000 in
theorem gX9_washes_X9_fails : GoodIn wsX9_washes (wsV RX9 70 RX9 yX9_fails wsX9_fails) := goodIn_app (goodIn_of _ (by decide +kernel)) ggX9_washes_X9_fails
set_option maxRecDepth 20000 in
theorem ggX9_washes_X9_seatOf : GoodIn wsX9_washes wsX9_seatOf := goodIn_ca (goodIn_r _ [19, 1, 20, 21, 22, 5, 23, 36, 37, 38, 39, 40, 41, 42, 43, 44, 45, 46, 47, 48, 49, 50, 51, 52, 53, 54, 55] (by decide +kernel) (by decide +kernel)) (goodIn_sub (fun _ h => List.mem_cons_of_mem _ (List.mem_append_right _ h)) (by decide +kernel))
set_option maxRecDepth 20000 in
theorem gX9_washes_X9_seatOf : GoodIn wsX9_washes (wsV RX9 103 RX9 yX9_seatOf wsX9_seatOf) := goodIn_app (goodIn_of _ (by decide +kernel)) ggX9_washes_X9_seatOf
set_option maxRecDepth 20000 in
theorem ggX9_washes_X9_refused : GoodIn wsX9_washes wsX9_refused := goodIn_r _ [27, 28, 29, 30, 31, 14, 15, 36, 37, 38, 39, 40, 41, 42, 43, 44, 45, 46, 47, 48, 49, 50, 51, 52, 53, 54, 55] (by decide +kernel) (by decide +kernel)
set_option maxRecDepth 20000 in
theorem gX9_washes_X9_refused : GoodIn wsX9_washes (wsV RX9 74 RX9 yX9_refused wsX9_refused) := goodIn_app (goodIn_of _ (by decide +kernel)) ggX9_washes_X9_refused
set_option maxRecDepth 20000 in
theorem ggX9_washes_X9_done : GoodIn wsX9_washes wsX9_done := goodIn_r _ [35, 14, 36, 37, 38, 39, 40, 41, 42, 43, 44, 45, 46, 47, 48, 49, 50, 51, 52, 53, 54, 55] (by decide +kernel) (by decide +kernel)
set_option maxRecDepth 20000 in
theorem gX9_washes_X9_done : GoodIn wsX9_washes (wsV RX9 78 RX9 yX9_done wsX9_done) := goodIn_app (goodIn_of _ (by decide +kernel)) ggX9_washes_X9_done
theorem dX9_washes_0 : decode cX9_washes 0 = .ok (.aload_n 0, 1) := by decide +kernel
theorem dX9_washes_1 : decode cX9_washes 1 = .ok (.iload_n 1, 1) := by decide +kernel
theorem dX9_washes_2 : decode cX9_washes 2 = .ok (.invokevirtual 90, 3) := by decide +kernel
theorem dX9_washes_5 : decode cX9_washes 5 = .ok (.ifCond .ne 9, 3) := by decide +kernel
theorem dX9_washes_8 : decode cX9_washes 8 = .ok (.aload_n 0, 1) := by decide +kernel
theorem dX9_washes_9 : decode cX9_washes 9 = .ok (.iconst 1, 1) := by decide +kernel
theorem dX9_washes_10 : decode cX9_washes 10 = .ok (.invokevirtual 70, 3) := by decide +kernel
theorem dX9_washes_13 : decode cX9_washes 13 = .ok (.ireturn, 1) := by decide +kernel
theorem dX9_washes_14 : decode cX9_washes 14 = .ok (.aload_n 0, 1) := by decide +kernel
theorem dX9_washes_15 : decode cX9_washes 15 = .ok (.iload_n 1, 1) := by decide +kernel
theorem dX9_washes_16 : decode cX9_washes 16 = .ok (.invokevirtual 103, 3) := by decide +kernel
theorem dX9_washes_19 : decode cX9_washes 19 = .ok (.istore_n 2, 1) := by decide +kernel
theorem dX9_washes_20 : decode cX9_washes 20 = .ok (.iload_n 2, 1) := by decide +kernel
theorem dX9_washes_21 : decode cX9_washes 21 = .ok (.iconst (-1), 1) := by decide +kernel
theorem dX9_washes_22 : decode cX9_washes 22 = .ok (.if_icmp .eq 14, 3) := by decide +kernel
theorem dX9_washes_25 : decode cX9_washes 25 = .ok (.aload_n 0, 1) := by decide +kernel
theorem dX9_washes_26 : decode cX9_washes 26 = .ok (.iconst 4, 1) := by decide +kernel
theorem dX9_washes_27 : decode cX9_washes 27 = .ok (.iload_n 2, 1) := by decide +kernel
theorem dX9_washes_28 : decode cX9_washes 28 = .ok (.bipush 10, 2) := by decide +kernel
theorem dX9_washes_30 : decode cX9_washes 30 = .ok (.idiv, 1) := by decide +kernel
theorem dX9_washes_31 : decode cX9_washes 31 = .ok (.iconst 2, 1) := by decide +kernel
theorem dX9_washes_32 : decode cX9_washes 32 = .ok (.invokevirtual 74, 3) := by decide +kernel
theorem dX9_washes_35 : decode cX9_washes 35 = .ok (.ireturn, 1) := by decide +kernel
theorem dX9_washes_36 : decode cX9_washes 36 = .ok (.aload_n 0, 1) := by decide +kernel
theorem dX9_washes_37 : decode cX9_washes 37 = .ok (.getfield 7, 3) := by decide +kernel
theorem dX9_washes_40 : decode cX9_washes 40 = .ok (.bipush 35, 2) := by decide +kernel
theorem dX9_washes_42 : decode cX9_washes 42 = .ok (.iload_n 1, 1) := by decide +kernel
theorem dX9_washes_43 : decode cX9_washes 43 = .ok (.iadd, 1) := by decide +kernel
theorem dX9_washes_44 : decode cX9_washes 44 = .ok (.iaload, 1) := by decide +kernel
theorem dX9_washes_45 : decode cX9_washes 45 = .ok (.istore_n 3, 1) := by decide +kernel
theorem dX9_washes_46 : decode cX9_washes 46 = .ok (.iload_n 3, 1) := by decide +kernel
theorem dX9_washes_47 : decode cX9_washes 47 = .ok (.ifCond .ne 12, 3) := by decide +kernel
theorem dX9_washes_50 : decode cX9_washes 50 = .ok (.aload_n 0, 1) := by decide +kernel
theorem dX9_washes_51 : decode cX9_washes 51 = .ok (.bipush 7, 2) := by decide +kernel
theorem dX9_washes_53 : decode cX9_washes 53 = .ok (.iload_n 1, 1) := by decide +kernel
theorem dX9_washes_54 : decode cX9_washes 54 = .ok (.iconst 2, 1) := by decide +kernel
theorem dX9_washes_55 : decode cX9_washes 55 = .ok (.invokevirtual 74, 3) := by decide +kernel
theorem dX9_washes_58 : decode cX9_washes 58 = .ok (.ireturn, 1) := by decide +kernel
theorem dX9_washes_59 : decode cX9_washes 59 = .ok (.aload_n 0, 1) := by decide +kernel
theorem dX9_washes_60 : decode cX9_washes 60 = .ok (.getfield 7, 3) := by decide +kernel
theorem dX9_washes_63 : decode cX9_washes 63 = .ok (.bipush 35, 2) := by decide +kernel
theorem dX9_washes_65 : decode cX9_washes 65 = .ok (.iload_n 1, 1) := by decide +kernel
theorem dX9_washes_66 : decode cX9_washes 66 = .ok (.iadd, 1) := by decide +kernel
theorem dX9_washes_67 : decode cX9_washes 67 = .ok (.iconst 0, 1) := by decide +kernel
theorem dX9_washes_68 : decode cX9_washes 68 = .ok (.iastore, 1) := by decide +kernel
theorem dX9_washes_69 : decode cX9_washes 69 = .ok (.aload_n 0, 1) := by decide +kernel
theorem dX9_washes_70 : decode cX9_washes 70 = .ok (.getfield 7, 3) := by decide +kernel
theorem dX9_washes_73 : decode cX9_washes 73 = .ok (.bipush 15, 2) := by decide +kernel
theorem dX9_washes_75 : decode cX9_washes 75 = .ok (.iload_n 1, 1) := by decide +kernel
theorem dX9_washes_76 : decode cX9_washes 76 = .ok (.iadd, 1) := by decide +kernel
theorem dX9_washes_77 : decode cX9_washes 77 = .ok (.iconst 0, 1) := by decide +kernel
theorem dX9_washes_78 : decode cX9_washes 78 = .ok (.iastore, 1) := by decide +kernel
theorem dX9_washes_79 : decode cX9_washes 79 = .ok (.aload_n 0, 1) := by decide +kernel
theorem dX9_washes_80 : decode cX9_washes 80 = .ok (.getfield 7, 3) := by decide +kernel
theorem dX9_washes_83 : decode cX9_washes 83 = .ok (.iconst 4, 1) := by decide +kernel
theorem dX9_washes_84 : decode cX9_washes 84 = .ok (.dup2, 1) := by decide +kernel
theorem dX9_washes_85 : decode cX9_washes 85 = .ok (.iaload, 1) := by decide +kernel
theorem dX9_washes_86 : decode cX9_washes 86 = .ok (.iload_n 3, 1) := by decide +kernel
theorem dX9_washes_87 : decode cX9_washes 87 = .ok (.iadd, 1) := by decide +kernel
theorem dX9_washes_88 : decode cX9_washes 88 = .ok (.iastore, 1) := by decide +kernel
theorem dX9_washes_89 : decode cX9_washes 89 = .ok (.aload_n 0, 1) := by decide +kernel
theorem dX9_washes_90 : decode cX9_washes 90 = .ok (.iload_n 3, 1) := by decide +kernel
theorem dX9_washes_91 : decode cX9_washes 91 = .ok (.invokevirtual 78, 3) := by decide +kernel
theorem dX9_washes_94 : decode cX9_washes 94 = .ok (.ireturn, 1) := by decide +kernel
set_option maxRecDepth 20000 in
theorem ggX9_wash_X9_looksBack : GoodIn wsX9_wash wsX9_looksBack := goodIn_ca (goodIn_r _ [5, 6, 7, 8, 9, 4, 10, 54, 55, 56, 57, 58, 59, 60, 61, 62, 63, 64, 65, 66, 67, 68, 69, 70, 71, 72, 73] (by decide +kernel) (by decide +kernel)) (goodIn_sub (fun _ h => List.mem_cons_of_mem _ (List.mem_append_right _ h)) (by decide +kernel))
set_option maxRecDepth 20000 in
theorem gX9_wash_X9_looksBack : GoodIn wsX9_wash (wsV RX9 81 RX9 yX9_looksBack wsX9_looksBack) := goodIn_app (goodIn_of _ (by decide +kernel)) ggX9_wash_X9_looksBack
set_option maxRecDepth 20000 in
theorem ggX9_wash_X9_washes : GoodIn wsX9_wash wsX9_washes := goodIn_ca (goodIn_r _ [14, 6, 15, 16, 17, 4, 18, 19, 20, 21, 22, 23, 24, 25, 26, 27, 28, 29, 30, 31, 32, 33, 34, 35, 36, 37, 38, 39, 40, 41, 42, 43, 44, 45, 46, 47, 54, 55, 56, 57, 58, 59, 60, 61, 62, 63, 64, 65, 66, 67, 68, 69, 70, 71, 72, 73] (by decide +kernel) (by decide +kernel)) (goodIn_sub (fun _ h => List.mem_cons_of_mem _ (List.mem_append_right _ h)) (by decide +kernel))
set_option maxRecDepth 20000 in
theorem gX9_wash_X9_washes : GoodIn wsX9_wash (wsV RX9 126 RX9 yX9_washes wsX9_washes) := goodIn_app (goodIn_of _ (by decide +kernel)) ggX9_wash_X9_washes
set_option maxRecDepth 20000 in
theorem ggX9_wash_X9_kept : GoodIn wsX9_wash wsX9_kept := goodIn_ca (goodIn_r _ [51, 26, 7, 6, 52, 53, 8, 9, 4, 10, 54, 55, 56, 57, 58, 59, 60, 61, 62, 63, 64, 65, 66, 67, 68, 69, 70, 71, 72, 73] (by decide +kernel) (by decide +kernel)) (goodIn_sub (fun _ h => List.mem_cons_of_mem _ (List.mem_append_right _ h)) (by decide +kernel))
set_option maxRecDepth 20000 in
theorem gX9_wash_X9_kept : GoodIn wsX9_wash (wsV RX9 87 RX9 yX9_kept wsX9_kept) := goodIn_app (goodIn_of _ (by decide +kernel)) ggX9_wash_X9_kept
theorem dX9_wash_0 : decode cX9_wash 0 = .ok (.aload_n 0, 1) := by decide +kernel
theorem dX9_wash_1 : decode cX9_wash 1 = .ok (.invokevirtual 81, 3) := by decide +kernel
theorem dX9_wash_4 : decode cX9_wash 4 = .ok (.aload_n 0, 1) := by decide +kernel
theorem dX9_wash_5 : decode cX9_wash 5 = .ok (.aload_n 0, 1) := by decide +kernel
theorem dX9_wash_6 : decode cX9_wash 6 = .ok (.iload_n 1, 1) := by decide +kernel
theorem dX9_wash_7 : decode cX9_wash 7 = .ok (.invokevirtual 126, 3) := by decide +kernel
theorem dX9_wash_10 : decode cX9_wash 10 = .ok (.invokevirtual 87, 3) := by decide +kernel
theorem dX9_wash_13 : decode cX9_wash 13 = .ok (.ireturn, 1) := by decide +kernel
theorem dX9_goesOn_0 : decode cX9_goesOn 0 = .ok (.iload_n 0, 1) := by decide +kernel
theorem dX9_goesOn_1 : decode cX9_goesOn 1 = .ok (.tableswitch 93 0 3 #[31, 42, 62, 82], 31) := by decide +kernel
theorem dX9_goesOn_32 : decode cX9_goesOn 32 = .ok (.iload_n 1, 1) := by decide +kernel
theorem dX9_goesOn_33 : decode cX9_goesOn 33 = .ok (.iconst 1, 1) := by decide +kernel
theorem dX9_goesOn_34 : decode cX9_goesOn 34 = .ok (.if_icmp .ne 7, 3) := by decide +kernel
theorem dX9_goesOn_37 : decode cX9_goesOn 37 = .ok (.iconst 1, 1) := by decide +kernel
theorem dX9_goesOn_38 : decode cX9_goesOn 38 = .ok (.goto 4, 3) := by decide +kernel
theorem dX9_goesOn_41 : decode cX9_goesOn 41 = .ok (.iconst 4, 1) := by decide +kernel
theorem dX9_goesOn_42 : decode cX9_goesOn 42 = .ok (.ireturn, 1) := by decide +kernel
theorem dX9_goesOn_43 : decode cX9_goesOn 43 = .ok (.iload_n 1, 1) := by decide +kernel
theorem dX9_goesOn_44 : decode cX9_goesOn 44 = .ok (.iconst 1, 1) := by decide +kernel
theorem dX9_goesOn_45 : decode cX9_goesOn 45 = .ok (.if_icmp .ne 7, 3) := by decide +kernel
theorem dX9_goesOn_48 : decode cX9_goesOn 48 = .ok (.iconst 1, 1) := by decide +kernel
theorem dX9_goesOn_49 : decode cX9_goesOn 49 = .ok (.goto 13, 3) := by decide +kernel
theorem dX9_goesOn_52 : decode cX9_goesOn 52 = .ok (.iload_n 1, 1) := by decide +kernel
theorem dX9_goesOn_53 : decode cX9_goesOn 53 = .ok (.iconst 2, 1) := by decide +kernel
theorem dX9_goesOn_54 : decode cX9_goesOn 54 = .ok (.if_icmp .ne 7, 3) := by decide +kernel
theorem dX9_goesOn_57 : decode cX9_goesOn 57 = .ok (.iconst 2, 1) := by decide +kernel
theorem dX9_goesOn_58 : decode cX9_goesOn 58 = .ok (.goto 4, 3) := by decide +kernel
theorem dX9_goesOn_61 : decode cX9_goesOn 61 = .ok (.iconst 4, 1) := by decide +kernel
theorem dX9_goesOn_62 : decode cX9_goesOn 62 = .ok (.ireturn, 1) := by decide +kernel
theorem dX9_goesOn_63 : decode cX9_goesOn 63 = .ok (.iload_n 1, 1) := by decide +kernel
theorem dX9_goesOn_64 : decode cX9_goesOn 64 = .ok (.iconst 3, 1) := by decide +kernel
theorem dX9_goesOn_65 : decode cX9_goesOn 65 = .ok (.if_icmp .ne 7, 3) := by decide +kernel
theorem dX9_goesOn_68 : decode cX9_goesOn 68 = .ok (.iconst 3, 1) := by decide +kernel
theorem dX9_goesOn_69 : decode cX9_goesOn 69 = .ok (.goto 13, 3) := by decide +kernel
theorem dX9_goesOn_72 : decode cX9_goesOn 72 = .ok (.iload_n 1, 1) := by decide +kernel
theorem dX9_goesOn_73 : decode cX9_goesOn 73 = .ok (.iconst 4, 1) := by decide +kernel
theorem dX9_goesOn_74 : decode cX9_goesOn 74 = .ok (.if_icmp .ne 7, 3) := by decide +kernel
theorem dX9_goesOn_77 : decode cX9_goesOn 77 = .ok (.iconst 0, 1) := by decide +kernel
theorem dX9_goesOn_78 : decode cX9_goesOn 78 = .ok (.goto 4, 3) := by decide +kernel
theorem dX9_goesOn_81 : decode cX9_goesOn 81 = .ok (.iconst 4, 1) := by decide +kernel
theorem dX9_goesOn_82 : decode cX9_goesOn 82 = .ok (.ireturn, 1) := by decide +kernel
theorem dX9_goesOn_83 : decode cX9_goesOn 83 = .ok (.iload_n 1, 1) := by decide +kernel
theorem dX9_goesOn_84 : decode cX9_goesOn 84 = .ok (.iconst 4, 1) := by decide +kernel
theorem dX9_goesOn_85 : decode cX9_goesOn 85 = .ok (.if_icmp .ne 7, 3) := by decide +kernel
theorem dX9_goesOn_88 : decode cX9_goesOn 88 = .ok (.iconst 0, 1) := by decide +kernel
theorem dX9_goesOn_89 : decode cX9_goesOn 89 = .ok (.goto 4, 3) := by decide +kernel
theorem dX9_goesOn_92 : decode cX9_goesOn 92 = .ok (.iconst 4, 1) := by decide +kernel
theorem dX9_goesOn_93 : decode cX9_goesOn 93 = .ok (.ireturn, 1) := by decide +kernel
theorem dX9_goesOn_94 : decode cX9_goesOn 94 = .ok (.iconst 4, 1) := by decide +kernel
theorem dX9_goesOn_95 : decode cX9_goesOn 95 = .ok (.ireturn, 1) := by decide +kernel
theorem dX9_isEnd_0 : decode cX9_isEnd 0 = .ok (.iload_n 0, 1) := by decide +kernel
theorem dX9_isEnd_1 : decode cX9_isEnd 1 = .ok (.iconst 2, 1) := by decide +kernel
theorem dX9_isEnd_2 : decode cX9_isEnd 2 = .ok (.if_icmp .eq 8, 3) := by decide +kernel
theorem dX9_isEnd_5 : decode cX9_isEnd 5 = .ok (.iload_n 0, 1) := by decide +kernel
theorem dX9_isEnd_6 : decode cX9_isEnd 6 = .ok (.iconst 3, 1) := by decide +kernel
theorem dX9_isEnd_7 : decode cX9_isEnd 7 = .ok (.if_icmp .ne 7, 3) := by decide +kernel
theorem dX9_isEnd_10 : decode cX9_isEnd 10 = .ok (.iconst 1, 1) := by decide +kernel
theorem dX9_isEnd_11 : decode cX9_isEnd 11 = .ok (.goto 4, 3) := by decide +kernel
theorem dX9_isEnd_14 : decode cX9_isEnd 14 = .ok (.iconst 0, 1) := by decide +kernel
theorem dX9_isEnd_15 : decode cX9_isEnd 15 = .ok (.ireturn, 1) := by decide +kernel
set_option maxRecDepth 20000 in
theorem ggX9_countOf_X9_at : GoodIn wsX9_countOf wsX9_at := goodIn_ca (goodIn_r _ [6, 1, 7, 8, 9, 10, 11, 12, 13, 14, 15, 16, 17, 18, 19, 20, 21, 22, 23, 24, 25, 26] (by decide +kernel) (by decide +kernel)) (goodIn_sub (fun _ h => List.mem_cons_of_mem _ (List.mem_append_right _ h)) (by decide +kernel))
set_option maxRecDepth 20000 in
theorem gX9_countOf_X9_at : GoodIn wsX9_countOf (wsV RX9 66 RX9 yX9_at wsX9_at) := goodIn_app (goodIn_of _ (by decide +kernel)) ggX9_countOf_X9_at
theorem dX9_countOf_0 : decode cX9_countOf 0 = .ok (.iconst 0, 1) := by decide +kernel
theorem dX9_countOf_1 : decode cX9_countOf 1 = .ok (.istore_n 3, 1) := by decide +kernel
theorem dX9_countOf_2 : decode cX9_countOf 2 = .ok (.iconst 0, 1) := by decide +kernel
theorem dX9_countOf_3 : decode cX9_countOf 3 = .ok (.istore 4, 2) := by decide +kernel
theorem dX9_countOf_5 : decode cX9_countOf 5 = .ok (.iload 4, 2) := by decide +kernel
theorem dX9_countOf_7 : decode cX9_countOf 7 = .ok (.aload_n 0, 1) := by decide +kernel
theorem dX9_countOf_8 : decode cX9_countOf 8 = .ok (.getfield 7, 3) := by decide +kernel
theorem dX9_countOf_11 : decode cX9_countOf 11 = .ok (.bipush 55, 2) := by decide +kernel
theorem dX9_countOf_13 : decode cX9_countOf 13 = .ok (.iload_n 1, 1) := by decide +kernel
theorem dX9_countOf_14 : decode cX9_countOf 14 = .ok (.iadd, 1) := by decide +kernel
theorem dX9_countOf_15 : decode cX9_countOf 15 = .ok (.iaload, 1) := by decide +kernel
theorem dX9_countOf_16 : decode cX9_countOf 16 = .ok (.if_icmp .ge 49, 3) := by decide +kernel
theorem dX9_countOf_19 : decode cX9_countOf 19 = .ok (.aload_n 0, 1) := by decide +kernel
theorem dX9_countOf_20 : decode cX9_countOf 20 = .ok (.getfield 7, 3) := by decide +kernel
theorem dX9_countOf_23 : decode cX9_countOf 23 = .ok (.bipush 15, 2) := by decide +kernel
theorem dX9_countOf_25 : decode cX9_countOf 25 = .ok (.aload_n 0, 1) := by decide +kernel
theorem dX9_countOf_26 : decode cX9_countOf 26 = .ok (.iload_n 1, 1) := by decide +kernel
theorem dX9_countOf_27 : decode cX9_countOf 27 = .ok (.iload 4, 2) := by decide +kernel
theorem dX9_countOf_29 : decode cX9_countOf 29 = .ok (.invokevirtual 66, 3) := by decide +kernel
theorem dX9_countOf_32 : decode cX9_countOf 32 = .ok (.iadd, 1) := by decide +kernel
theorem dX9_countOf_33 : decode cX9_countOf 33 = .ok (.iaload, 1) := by decide +kernel
theorem dX9_countOf_34 : decode cX9_countOf 34 = .ok (.istore 5, 2) := by decide +kernel
theorem dX9_countOf_36 : decode cX9_countOf 36 = .ok (.iload_n 3, 1) := by decide +kernel
theorem dX9_countOf_37 : decode cX9_countOf 37 = .ok (.iload 5, 2) := by decide +kernel
theorem dX9_countOf_39 : decode cX9_countOf 39 = .ok (.ifCond .le 17, 3) := by decide +kernel
theorem dX9_countOf_42 : decode cX9_countOf 42 = .ok (.iload_n 2, 1) := by decide +kernel
theorem dX9_countOf_43 : decode cX9_countOf 43 = .ok (.ifCond .eq 9, 3) := by decide +kernel
theorem dX9_countOf_46 : decode cX9_countOf 46 = .ok (.iload 5, 2) := by decide +kernel
theorem dX9_countOf_48 : decode cX9_countOf 48 = .ok (.iload_n 2, 1) := by decide +kernel
theorem dX9_countOf_49 : decode cX9_countOf 49 = .ok (.if_icmp .ne 7, 3) := by decide +kernel
theorem dX9_countOf_52 : decode cX9_countOf 52 = .ok (.iconst 1, 1) := by decide +kernel
theorem dX9_countOf_53 : decode cX9_countOf 53 = .ok (.goto 4, 3) := by decide +kernel
theorem dX9_countOf_56 : decode cX9_countOf 56 = .ok (.iconst 0, 1) := by decide +kernel
theorem dX9_countOf_57 : decode cX9_countOf 57 = .ok (.iadd, 1) := by decide +kernel
theorem dX9_countOf_58 : decode cX9_countOf 58 = .ok (.istore_n 3, 1) := by decide +kernel
theorem dX9_countOf_59 : decode cX9_countOf 59 = .ok (.iinc 4 1, 3) := by decide +kernel
theorem dX9_countOf_62 : decode cX9_countOf 62 = .ok (.goto (-57), 3) := by decide +kernel
theorem dX9_countOf_65 : decode cX9_countOf 65 = .ok (.iload_n 3, 1) := by decide +kernel
theorem dX9_countOf_66 : decode cX9_countOf 66 = .ok (.ireturn, 1) := by decide +kernel
set_option maxRecDepth 20000 in
theorem ggX9_saidAt_X9_at : GoodIn wsX9_saidAt wsX9_at := goodIn_ca (goodIn_r _ [6, 1, 7, 8, 9, 10, 11, 12, 13, 14, 15, 16, 17, 18, 19, 20, 21, 22, 23, 24, 25, 26] (by decide +kernel) (by decide +kernel)) (goodIn_sub (fun _ h => List.mem_cons_of_mem _ (List.mem_append_right _ h)) (by decide +kernel))
set_option maxRecDepth 20000 in
theorem gX9_saidAt_X9_at : GoodIn wsX9_saidAt (wsV RX9 66 RX9 yX9_at wsX9_at) := goodIn_app (goodIn_of _ (by decide +kernel)) ggX9_saidAt_X9_at
theorem dX9_saidAt_0 : decode cX9_saidAt 0 = .ok (.iconst 0, 1) := by decide +kernel
theorem dX9_saidAt_1 : decode cX9_saidAt 1 = .ok (.istore_n 3, 1) := by decide +kernel
theorem dX9_saidAt_2 : decode cX9_saidAt 2 = .ok (.iconst 0, 1) := by decide +kernel
theorem dX9_saidAt_3 : decode cX9_saidAt 3 = .ok (.istore 4, 2) := by decide +kernel
theorem dX9_saidAt_5 : decode cX9_saidAt 5 = .ok (.iload 4, 2) := by decide +kernel
theorem dX9_saidAt_7 : decode cX9_saidAt 7 = .ok (.aload_n 0, 1) := by decide +kernel
theorem dX9_saidAt_8 : decode cX9_saidAt 8 = .ok (.getfield 7, 3) := by decide +kernel
theorem dX9_saidAt_11 : decode cX9_saidAt 11 = .ok (.bipush 55, 2) := by decide +kernel
theorem dX9_saidAt_13 : decode cX9_saidAt 13 = .ok (.iload_n 1, 1) := by decide +kernel
theorem dX9_saidAt_14 : decode cX9_saidAt 14 = .ok (.iadd, 1) := by decide +kernel
theorem dX9_saidAt_15 : decode cX9_saidAt 15 = .ok (.iaload, 1) := by decide +kernel
theorem dX9_saidAt_16 : decode cX9_saidAt 16 = .ok (.if_icmp .ge 42, 3) := by decide +kernel
theorem dX9_saidAt_19 : decode cX9_saidAt 19 = .ok (.aload_n 0, 1) := by decide +kernel
theorem dX9_saidAt_20 : decode cX9_saidAt 20 = .ok (.iload_n 1, 1) := by decide +kernel
theorem dX9_saidAt_21 : decode cX9_saidAt 21 = .ok (.iload 4, 2) := by decide +kernel
theorem dX9_saidAt_23 : decode cX9_saidAt 23 = .ok (.invokevirtual 66, 3) := by decide +kernel
theorem dX9_saidAt_26 : decode cX9_saidAt 26 = .ok (.istore 5, 2) := by decide +kernel
theorem dX9_saidAt_28 : decode cX9_saidAt 28 = .ok (.aload_n 0, 1) := by decide +kernel
theorem dX9_saidAt_29 : decode cX9_saidAt 29 = .ok (.getfield 7, 3) := by decide +kernel
theorem dX9_saidAt_32 : decode cX9_saidAt 32 = .ok (.bipush 15, 2) := by decide +kernel
theorem dX9_saidAt_34 : decode cX9_saidAt 34 = .ok (.iload 5, 2) := by decide +kernel
theorem dX9_saidAt_36 : decode cX9_saidAt 36 = .ok (.iadd, 1) := by decide +kernel
theorem dX9_saidAt_37 : decode cX9_saidAt 37 = .ok (.iaload, 1) := by decide +kernel
theorem dX9_saidAt_38 : decode cX9_saidAt 38 = .ok (.ifCond .le 14, 3) := by decide +kernel
theorem dX9_saidAt_41 : decode cX9_saidAt 41 = .ok (.iload_n 3, 1) := by decide +kernel
theorem dX9_saidAt_42 : decode cX9_saidAt 42 = .ok (.iload_n 2, 1) := by decide +kernel
theorem dX9_saidAt_43 : decode cX9_saidAt 43 = .ok (.if_icmp .ne 6, 3) := by decide +kernel
theorem dX9_saidAt_46 : decode cX9_saidAt 46 = .ok (.iload 5, 2) := by decide +kernel
theorem dX9_saidAt_48 : decode cX9_saidAt 48 = .ok (.ireturn, 1) := by decide +kernel
theorem dX9_saidAt_49 : decode cX9_saidAt 49 = .ok (.iinc 3 1, 3) := by decide +kernel
theorem dX9_saidAt_52 : decode cX9_saidAt 52 = .ok (.iinc 4 1, 3) := by decide +kernel
theorem dX9_saidAt_55 : decode cX9_saidAt 55 = .ok (.goto (-50), 3) := by decide +kernel
theorem dX9_saidAt_58 : decode cX9_saidAt 58 = .ok (.iconst (-1), 1) := by decide +kernel
theorem dX9_saidAt_59 : decode cX9_saidAt 59 = .ok (.ireturn, 1) := by decide +kernel
set_option maxRecDepth 20000 in
theorem ggX9_foldAt_X9_saidAt : GoodIn wsX9_foldAt wsX9_saidAt := goodIn_ca (goodIn_r _ [6, 1, 7, 8, 9, 5, 10, 11, 12, 13, 14, 15, 16, 17, 18, 19, 20, 21, 22, 23, 24, 25, 26, 27, 28, 29, 30] (by decide +kernel) (by decide +kernel)) (goodIn_sub (fun _ h => List.mem_cons_of_mem _ (List.mem_append_right _ h)) (by decide +kernel))
set_option maxRecDepth 20000 in
theorem gX9_foldAt_X9_saidAt : GoodIn wsX9_foldAt (wsV RX9 129 RX9 yX9_saidAt wsX9_saidAt) := goodIn_app (goodIn_of _ (by decide +kernel)) ggX9_foldAt_X9_saidAt
theorem dX9_foldAt_0 : decode cX9_foldAt 0 = .ok (.aload_n 0, 1) := by decide +kernel
theorem dX9_foldAt_1 : decode cX9_foldAt 1 = .ok (.getfield 7, 3) := by decide +kernel
theorem dX9_foldAt_4 : decode cX9_foldAt 4 = .ok (.bipush 15, 2) := by decide +kernel
theorem dX9_foldAt_6 : decode cX9_foldAt 6 = .ok (.aload_n 0, 1) := by decide +kernel
theorem dX9_foldAt_7 : decode cX9_foldAt 7 = .ok (.iload_n 1, 1) := by decide +kernel
theorem dX9_foldAt_8 : decode cX9_foldAt 8 = .ok (.iload_n 2, 1) := by decide +kernel
theorem dX9_foldAt_9 : decode cX9_foldAt 9 = .ok (.invokevirtual 129, 3) := by decide +kernel
theorem dX9_foldAt_12 : decode cX9_foldAt 12 = .ok (.iadd, 1) := by decide +kernel
theorem dX9_foldAt_13 : decode cX9_foldAt 13 = .ok (.iaload, 1) := by decide +kernel
theorem dX9_foldAt_14 : decode cX9_foldAt 14 = .ok (.ireturn, 1) := by decide +kernel
set_option maxRecDepth 20000 in
theorem ggX9_stateOf_X9_countOf : GoodIn wsX9_stateOf wsX9_countOf := goodIn_ca (goodIn_r _ [5, 6, 7, 8, 9, 4, 10, 22, 23, 24, 25, 26, 27, 28, 29, 30, 31, 32, 33, 34, 35, 36, 37, 38, 39, 40, 41] (by decide +kernel) (by decide +kernel)) (goodIn_sub (fun _ h => List.mem_cons_of_mem _ (List.mem_append_right _ h)) (by decide +kernel))
set_option maxRecDepth 20000 in
theorem gX9_stateOf_X9_countOf : GoodIn wsX9_stateOf (wsV RX9 132 RX9 yX9_countOf wsX9_countOf) := goodIn_app (goodIn_of _ (by decide +kernel)) ggX9_stateOf_X9_countOf
set_option maxRecDepth 20000 in
theorem ggX9_stateOf_X9_foldAt : GoodIn wsX9_stateOf wsX9_foldAt := goodIn_ca (goodIn_r _ [14, 6, 15, 16, 17, 4, 18, 7, 8, 9, 10, 22, 23, 24, 25, 26, 27, 28, 29, 30, 31, 32, 33, 34, 35, 36, 37, 38, 39, 40, 41] (by decide +kernel) (by decide +kernel)) (goodIn_sub (fun _ h => List.mem_cons_of_mem _ (List.mem_append_right _ h)) (by decide +kernel))
set_option maxRecDepth 20000 in
theorem gX9_stateOf_X9_foldAt : GoodIn wsX9_stateOf (wsV RX9 135 RX9 yX9_foldAt wsX9_foldAt) := goodIn_app (goodIn_of _ (by decide +kernel)) ggX9_stateOf_X9_foldAt
set_option maxRecDepth 20000 in
theorem ggX9_stateOf_X9_goesOn : GoodIn wsX9_stateOf wsX9_goesOn := goodIn_r _ [21] (by decide +kernel) (by decide +kernel)
set_option maxRecDepth 20000 in
theorem gX9_stateOf_X9_goesOn : GoodIn wsX9_stateOf (va_wsS RX9 138 yX9_goesOn wsX9_goesOn) := goodIn_app (goodIn_of _ (by decide +kernel)) ggX9_stateOf_X9_goesOn
theorem dX9_stateOf_0 : decode cX9_stateOf 0 = .ok (.iconst 0, 1) := by decide +kernel
theorem dX9_stateOf_1 : decode cX9_stateOf 1 = .ok (.istore_n 2, 1) := by decide +kernel
theorem dX9_stateOf_2 : decode cX9_stateOf 2 = .ok (.iconst 0, 1) := by decide +kernel
theorem dX9_stateOf_3 : decode cX9_stateOf 3 = .ok (.istore_n 3, 1) := by decide +kernel
theorem dX9_stateOf_4 : decode cX9_stateOf 4 = .ok (.iload_n 3, 1) := by decide +kernel
theorem dX9_stateOf_5 : decode cX9_stateOf 5 = .ok (.aload_n 0, 1) := by decide +kernel
theorem dX9_stateOf_6 : decode cX9_stateOf 6 = .ok (.iload_n 1, 1) := by decide +kernel
theorem dX9_stateOf_7 : decode cX9_stateOf 7 = .ok (.iconst 0, 1) := by decide +kernel
theorem dX9_stateOf_8 : decode cX9_stateOf 8 = .ok (.invokevirtual 132, 3) := by decide +kernel
theorem dX9_stateOf_11 : decode cX9_stateOf 11 = .ok (.if_icmp .ge 20, 3) := by decide +kernel
theorem dX9_stateOf_14 : decode cX9_stateOf 14 = .ok (.iload_n 2, 1) := by decide +kernel
theorem dX9_stateOf_15 : decode cX9_stateOf 15 = .ok (.aload_n 0, 1) := by decide +kernel
theorem dX9_stateOf_16 : decode cX9_stateOf 16 = .ok (.iload_n 1, 1) := by decide +kernel
theorem dX9_stateOf_17 : decode cX9_stateOf 17 = .ok (.iload_n 3, 1) := by decide +kernel
theorem dX9_stateOf_18 : decode cX9_stateOf 18 = .ok (.invokevirtual 135, 3) := by decide +kernel
theorem dX9_stateOf_21 : decode cX9_stateOf 21 = .ok (.invokestatic 138, 3) := by decide +kernel
theorem dX9_stateOf_24 : decode cX9_stateOf 24 = .ok (.istore_n 2, 1) := by decide +kernel
theorem dX9_stateOf_25 : decode cX9_stateOf 25 = .ok (.iinc 3 1, 3) := by decide +kernel
theorem dX9_stateOf_28 : decode cX9_stateOf 28 = .ok (.goto (-24), 3) := by decide +kernel
theorem dX9_stateOf_31 : decode cX9_stateOf 31 = .ok (.iload_n 2, 1) := by decide +kernel
theorem dX9_stateOf_32 : decode cX9_stateOf 32 = .ok (.ireturn, 1) := by decide +kernel
set_option maxRecDepth 20000 in
theorem ggX9_rightly_X9_stateOf : GoodIn wsX9_rightly wsX9_stateOf := goodIn_ca (goodIn_r _ [5, 6, 7, 8, 4, 9, 10, 11, 12, 13, 14, 15, 16, 17, 18, 19, 20, 21, 22, 23, 24, 25, 29, 30, 31, 32, 33, 34, 35, 36, 37, 38, 39, 40, 41, 42, 43, 44, 45, 46, 47, 48] (by decide +kernel) (by decide +kernel)) (goodIn_sub (fun _ h => List.mem_cons_of_mem _ (List.mem_append_right _ h)) (by decide +kernel))
set_option maxRecDepth 20000 in
theorem gX9_rightly_X9_stateOf : GoodIn wsX9_rightly (wsV RX9 141 RX9 yX9_stateOf wsX9_stateOf) := goodIn_app (goodIn_of _ (by decide +kernel)) ggX9_rightly_X9_stateOf
set_option maxRecDepth 20000 in
theorem ggX9_rightly_X9_isEnd : GoodIn wsX9_rightly wsX9_isEnd := goodIn_r _ [28] (by decide +kernel) (by decide +kernel)
set_option maxRecDepth 20000 in
theorem gX9_rightly_X9_isEnd : GoodIn wsX9_rightly (va_wsS RX9 144 yX9_isEnd wsX9_isEnd) := goodIn_app (goodIn_of _ (by decide +kernel)) ggX9_rightly_X9_isEnd
theorem dX9_rightly_0 : decode cX9_rightly 0 = .ok (.aload_n 0, 1) := by decide +kernel
theorem dX9_rightly_1 : decode cX9_rightly 1 = .ok (.iload_n 1, 1) := by decide +kernel
theorem dX9_rightly_2 : decode cX9_rightly 2 = .ok (.invokevirtual 141, 3) := by decide +kernel
