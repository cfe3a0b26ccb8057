theorem dX4_goOnWith_4 : decode cX4_goOnWith 4 = .ok (.if_icmp .ge 23, 3) := by decide +kernel
theorem dX4_goOnWith_7 : decode cX4_goOnWith 7 = .ok (.aload_n 0, 1) := by decide +kernel
theorem dX4_goOnWith_8 : decode cX4_goOnWith 8 = .ok (.getfield 27, 3) := by decide +kernel
theorem dX4_goOnWith_11 : decode cX4_goOnWith 11 = .ok (.iload_n 2, 1) := by decide +kernel
theorem dX4_goOnWith_12 : decode cX4_goOnWith 12 = .ok (.aload_n 0, 1) := by decide +kernel
theorem dX4_goOnWith_13 : decode cX4_goOnWith 13 = .ok (.getfield 24, 3) := by decide +kernel
theorem dX4_goOnWith_16 : decode cX4_goOnWith 16 = .ok (.iload_n 2, 1) := by decide +kernel
theorem dX4_goOnWith_17 : decode cX4_goOnWith 17 = .ok (.iaload, 1) := by decide +kernel
theorem dX4_goOnWith_18 : decode cX4_goOnWith 18 = .ok (.iconst 1, 1) := by decide +kernel
theorem dX4_goOnWith_19 : decode cX4_goOnWith 19 = .ok (.iadd, 1) := by decide +kernel
theorem dX4_goOnWith_20 : decode cX4_goOnWith 20 = .ok (.iastore, 1) := by decide +kernel
theorem dX4_goOnWith_21 : decode cX4_goOnWith 21 = .ok (.iinc 2 1, 3) := by decide +kernel
theorem dX4_goOnWith_24 : decode cX4_goOnWith 24 = .ok (.goto (-22), 3) := by decide +kernel
theorem dX4_goOnWith_27 : decode cX4_goOnWith 27 = .ok (.iconst 0, 1) := by decide +kernel
theorem dX4_goOnWith_28 : decode cX4_goOnWith 28 = .ok (.istore_n 2, 1) := by decide +kernel
theorem dX4_goOnWith_29 : decode cX4_goOnWith 29 = .ok (.iload_n 2, 1) := by decide +kernel
theorem dX4_goOnWith_30 : decode cX4_goOnWith 30 = .ok (.iconst 4, 1) := by decide +kernel
theorem dX4_goOnWith_31 : decode cX4_goOnWith 31 = .ok (.if_icmp .ge 45, 3) := by decide +kernel
theorem dX4_goOnWith_34 : decode cX4_goOnWith 34 = .ok (.iload_n 2, 1) := by decide +kernel
theorem dX4_goOnWith_35 : decode cX4_goOnWith 35 = .ok (.iload_n 1, 1) := by decide +kernel
theorem dX4_goOnWith_36 : decode cX4_goOnWith 36 = .ok (.invokestatic 60, 3) := by decide +kernel
theorem dX4_goOnWith_39 : decode cX4_goOnWith 39 = .ok (.istore_n 3, 1) := by decide +kernel
theorem dX4_goOnWith_40 : decode cX4_goOnWith 40 = .ok (.iload_n 3, 1) := by decide +kernel
theorem dX4_goOnWith_41 : decode cX4_goOnWith 41 = .ok (.ifCond .lt 29, 3) := by decide +kernel
theorem dX4_goOnWith_44 : decode cX4_goOnWith 44 = .ok (.iload_n 3, 1) := by decide +kernel
theorem dX4_goOnWith_45 : decode cX4_goOnWith 45 = .ok (.iconst 4, 1) := by decide +kernel
theorem dX4_goOnWith_46 : decode cX4_goOnWith 46 = .ok (.if_icmp .ge 24, 3) := by decide +kernel
theorem dX4_goOnWith_49 : decode cX4_goOnWith 49 = .ok (.aload_n 0, 1) := by decide +kernel
theorem dX4_goOnWith_50 : decode cX4_goOnWith 50 = .ok (.getfield 27, 3) := by decide +kernel
theorem dX4_goOnWith_53 : decode cX4_goOnWith 53 = .ok (.iload_n 3, 1) := by decide +kernel
theorem dX4_goOnWith_54 : decode cX4_goOnWith 54 = .ok (.aload_n 0, 1) := by decide +kernel
theorem dX4_goOnWith_55 : decode cX4_goOnWith 55 = .ok (.getfield 27, 3) := by decide +kernel
theorem dX4_goOnWith_58 : decode cX4_goOnWith 58 = .ok (.iload_n 3, 1) := by decide +kernel
theorem dX4_goOnWith_59 : decode cX4_goOnWith 59 = .ok (.iaload, 1) := by decide +kernel
theorem dX4_goOnWith_60 : decode cX4_goOnWith 60 = .ok (.aload_n 0, 1) := by decide +kernel
theorem dX4_goOnWith_61 : decode cX4_goOnWith 61 = .ok (.getfield 24, 3) := by decide +kernel
theorem dX4_goOnWith_64 : decode cX4_goOnWith 64 = .ok (.iload_n 2, 1) := by decide +kernel
theorem dX4_goOnWith_65 : decode cX4_goOnWith 65 = .ok (.iaload, 1) := by decide +kernel
theorem dX4_goOnWith_66 : decode cX4_goOnWith 66 = .ok (.invokestatic 109, 3) := by decide +kernel
theorem dX4_goOnWith_69 : decode cX4_goOnWith 69 = .ok (.iastore, 1) := by decide +kernel
theorem dX4_goOnWith_70 : decode cX4_goOnWith 70 = .ok (.iinc 2 1, 3) := by decide +kernel
theorem dX4_goOnWith_73 : decode cX4_goOnWith 73 = .ok (.goto (-44), 3) := by decide +kernel
theorem dX4_goOnWith_76 : decode cX4_goOnWith 76 = .ok (.aload_n 0, 1) := by decide +kernel
theorem dX4_goOnWith_77 : decode cX4_goOnWith 77 = .ok (.getfield 27, 3) := by decide +kernel
theorem dX4_goOnWith_80 : decode cX4_goOnWith 80 = .ok (.iconst 0, 1) := by decide +kernel
theorem dX4_goOnWith_81 : decode cX4_goOnWith 81 = .ok (.aload_n 0, 1) := by decide +kernel
theorem dX4_goOnWith_82 : decode cX4_goOnWith 82 = .ok (.getfield 24, 3) := by decide +kernel
theorem dX4_goOnWith_85 : decode cX4_goOnWith 85 = .ok (.iconst 0, 1) := by decide +kernel
theorem dX4_goOnWith_86 : decode cX4_goOnWith 86 = .ok (.iconst 4, 1) := by decide +kernel
theorem dX4_goOnWith_87 : decode cX4_goOnWith 87 = .ok (.invokestatic 120, 3) := by decide +kernel
theorem dX4_goOnWith_90 : decode cX4_goOnWith 90 = .ok (.return_, 1) := by decide +kernel
set_option maxRecDepth 20000 in
theorem ggX4_pointAtEnd_X4_foldAt : GoodIn wsX4_pointAtEnd wsX4_foldAt := goodIn_ca (goodIn_r _ [6, 1, 7, 11, 12, 13, 14, 15, 16, 17] (by decide +kernel) (by decide +kernel)) (goodIn_sub (fun _ h => List.mem_cons_of_mem _ (List.mem_append_right _ h)) (by decide +kernel))
set_option maxRecDepth 20000 in
theorem gX4_pointAtEnd_X4_foldAt : GoodIn wsX4_pointAtEnd (wsV RX4 57 RX4 yX4_foldAt wsX4_foldAt) := goodIn_app (goodIn_of _ (by decide +kernel)) ggX4_pointAtEnd_X4_foldAt
set_option maxRecDepth 20000 in
theorem ggX4_pointAtEnd_X4_pointAfter : GoodIn wsX4_pointAtEnd wsX4_pointAfter := goodIn_r _ [10] (by decide +kernel) (by decide +kernel)
set_option maxRecDepth 20000 in
theorem gX4_pointAtEnd_X4_pointAfter : GoodIn wsX4_pointAtEnd (va_wsS RX4 60 yX4_pointAfter wsX4_pointAfter) := goodIn_app (goodIn_of _ (by decide +kernel)) ggX4_pointAtEnd_X4_pointAfter
theorem dX4_pointAtEnd_0 : decode cX4_pointAtEnd 0 = .ok (.iconst 0, 1) := by decide +kernel
theorem dX4_pointAtEnd_1 : decode cX4_pointAtEnd 1 = .ok (.istore_n 2, 1) := by decide +kernel
theorem dX4_pointAtEnd_2 : decode cX4_pointAtEnd 2 = .ok (.iconst 0, 1) := by decide +kernel
theorem dX4_pointAtEnd_3 : decode cX4_pointAtEnd 3 = .ok (.istore_n 3, 1) := by decide +kernel
theorem dX4_pointAtEnd_4 : decode cX4_pointAtEnd 4 = .ok (.iload_n 3, 1) := by decide +kernel
theorem dX4_pointAtEnd_5 : decode cX4_pointAtEnd 5 = .ok (.aload_n 0, 1) := by decide +kernel
theorem dX4_pointAtEnd_6 : decode cX4_pointAtEnd 6 = .ok (.getfield 30, 3) := by decide +kernel
theorem dX4_pointAtEnd_9 : decode cX4_pointAtEnd 9 = .ok (.if_icmp .ge 27, 3) := by decide +kernel
theorem dX4_pointAtEnd_12 : decode cX4_pointAtEnd 12 = .ok (.iload_n 1, 1) := by decide +kernel
theorem dX4_pointAtEnd_13 : decode cX4_pointAtEnd 13 = .ok (.iload_n 3, 1) := by decide +kernel
theorem dX4_pointAtEnd_14 : decode cX4_pointAtEnd 14 = .ok (.ishr, 1) := by decide +kernel
theorem dX4_pointAtEnd_15 : decode cX4_pointAtEnd 15 = .ok (.iconst 1, 1) := by decide +kernel
theorem dX4_pointAtEnd_16 : decode cX4_pointAtEnd 16 = .ok (.iand, 1) := by decide +kernel
theorem dX4_pointAtEnd_17 : decode cX4_pointAtEnd 17 = .ok (.ifCond .ne 13, 3) := by decide +kernel
theorem dX4_pointAtEnd_20 : decode cX4_pointAtEnd 20 = .ok (.iload_n 2, 1) := by decide +kernel
theorem dX4_pointAtEnd_21 : decode cX4_pointAtEnd 21 = .ok (.aload_n 0, 1) := by decide +kernel
theorem dX4_pointAtEnd_22 : decode cX4_pointAtEnd 22 = .ok (.iload_n 3, 1) := by decide +kernel
theorem dX4_pointAtEnd_23 : decode cX4_pointAtEnd 23 = .ok (.invokevirtual 57, 3) := by decide +kernel
theorem dX4_pointAtEnd_26 : decode cX4_pointAtEnd 26 = .ok (.invokestatic 60, 3) := by decide +kernel
theorem dX4_pointAtEnd_29 : decode cX4_pointAtEnd 29 = .ok (.istore_n 2, 1) := by decide +kernel
theorem dX4_pointAtEnd_30 : decode cX4_pointAtEnd 30 = .ok (.iinc 3 1, 3) := by decide +kernel
theorem dX4_pointAtEnd_33 : decode cX4_pointAtEnd 33 = .ok (.goto (-29), 3) := by decide +kernel
theorem dX4_pointAtEnd_36 : decode cX4_pointAtEnd 36 = .ok (.iload_n 2, 1) := by decide +kernel
theorem dX4_pointAtEnd_37 : decode cX4_pointAtEnd 37 = .ok (.ireturn, 1) := by decide +kernel
set_option maxRecDepth 20000 in
theorem ggX4_crownFrom_X4_foldAt : GoodIn wsX4_crownFrom wsX4_foldAt := goodIn_ca (goodIn_r _ [6, 1, 7, 8, 9, 10, 11, 12, 13, 14] (by decide +kernel) (by decide +kernel)) (goodIn_sub (fun _ h => List.mem_cons_of_mem _ (List.mem_append_right _ h)) (by decide +kernel))
set_option maxRecDepth 20000 in
theorem gX4_crownFrom_X4_foldAt : GoodIn wsX4_crownFrom (wsV RX4 57 RX4 yX4_foldAt wsX4_foldAt) := goodIn_app (goodIn_of _ (by decide +kernel)) ggX4_crownFrom_X4_foldAt
theorem dX4_crownFrom_0 : decode cX4_crownFrom 0 = .ok (.iload_n 1, 1) := by decide +kernel
theorem dX4_crownFrom_1 : decode cX4_crownFrom 1 = .ok (.istore_n 2, 1) := by decide +kernel
theorem dX4_crownFrom_2 : decode cX4_crownFrom 2 = .ok (.iload_n 2, 1) := by decide +kernel
theorem dX4_crownFrom_3 : decode cX4_crownFrom 3 = .ok (.aload_n 0, 1) := by decide +kernel
theorem dX4_crownFrom_4 : decode cX4_crownFrom 4 = .ok (.getfield 30, 3) := by decide +kernel
theorem dX4_crownFrom_7 : decode cX4_crownFrom 7 = .ok (.if_icmp .ge 18, 3) := by decide +kernel
theorem dX4_crownFrom_10 : decode cX4_crownFrom 10 = .ok (.aload_n 0, 1) := by decide +kernel
theorem dX4_crownFrom_11 : decode cX4_crownFrom 11 = .ok (.iload_n 2, 1) := by decide +kernel
theorem dX4_crownFrom_12 : decode cX4_crownFrom 12 = .ok (.invokevirtual 57, 3) := by decide +kernel
theorem dX4_crownFrom_15 : decode cX4_crownFrom 15 = .ok (.iconst 4, 1) := by decide +kernel
theorem dX4_crownFrom_16 : decode cX4_crownFrom 16 = .ok (.if_icmp .eq 9, 3) := by decide +kernel
theorem dX4_crownFrom_19 : decode cX4_crownFrom 19 = .ok (.iinc 2 1, 3) := by decide +kernel
theorem dX4_crownFrom_22 : decode cX4_crownFrom 22 = .ok (.goto (-20), 3) := by decide +kernel
theorem dX4_crownFrom_25 : decode cX4_crownFrom 25 = .ok (.iload_n 2, 1) := by decide +kernel
theorem dX4_crownFrom_26 : decode cX4_crownFrom 26 = .ok (.ireturn, 1) := by decide +kernel
set_option maxRecDepth 20000 in
theorem ggX4_errorInPhrase_X4_moodFrom : GoodIn wsX4_errorInPhrase wsX4_moodFrom := goodIn_ca (goodIn_r _ [5, 6, 7, 8, 9, 4, 10, 11, 12, 13, 14, 15, 16, 17, 18] (by decide +kernel) (by decide +kernel)) (goodIn_sub (fun _ h => List.mem_cons_of_mem _ (List.mem_append_right _ h)) (by decide +kernel))
set_option maxRecDepth 20000 in
theorem gX4_errorInPhrase_X4_moodFrom : GoodIn wsX4_errorInPhrase (wsV RX4 126 RX4 yX4_moodFrom wsX4_moodFrom) := goodIn_app (goodIn_of _ (by decide +kernel)) ggX4_errorInPhrase_X4_moodFrom
set_option maxRecDepth 20000 in
theorem ggX4_errorInPhrase_X4_foldAt : GoodIn wsX4_errorInPhrase wsX4_foldAt := goodIn_ca (goodIn_r _ [10, 6, 11, 12, 13, 14, 15, 16, 17, 18] (by decide +kernel) (by decide +kernel)) (goodIn_sub (fun _ h => List.mem_cons_of_mem _ (List.mem_append_right _ h)) (by decide +kernel))
set_option maxRecDepth 20000 in
theorem gX4_errorInPhrase_X4_foldAt : GoodIn wsX4_errorInPhrase (wsV RX4 57 RX4 yX4_foldAt wsX4_foldAt) := goodIn_app (goodIn_of _ (by decide +kernel)) ggX4_errorInPhrase_X4_foldAt
theorem dX4_errorInPhrase_0 : decode cX4_errorInPhrase 0 = .ok (.aload_n 0, 1) := by decide +kernel
theorem dX4_errorInPhrase_1 : decode cX4_errorInPhrase 1 = .ok (.iload_n 1, 1) := by decide +kernel
theorem dX4_errorInPhrase_2 : decode cX4_errorInPhrase 2 = .ok (.invokevirtual 126, 3) := by decide +kernel
theorem dX4_errorInPhrase_5 : decode cX4_errorInPhrase 5 = .ok (.istore_n 3, 1) := by decide +kernel
theorem dX4_errorInPhrase_6 : decode cX4_errorInPhrase 6 = .ok (.iload_n 3, 1) := by decide +kernel
theorem dX4_errorInPhrase_7 : decode cX4_errorInPhrase 7 = .ok (.iload_n 1, 1) := by decide +kernel
theorem dX4_errorInPhrase_8 : decode cX4_errorInPhrase 8 = .ok (.if_icmp .eq 17, 3) := by decide +kernel
theorem dX4_errorInPhrase_11 : decode cX4_errorInPhrase 11 = .ok (.iload_n 3, 1) := by decide +kernel
theorem dX4_errorInPhrase_12 : decode cX4_errorInPhrase 12 = .ok (.iload_n 2, 1) := by decide +kernel
theorem dX4_errorInPhrase_13 : decode cX4_errorInPhrase 13 = .ok (.if_icmp .ge 12, 3) := by decide +kernel
theorem dX4_errorInPhrase_16 : decode cX4_errorInPhrase 16 = .ok (.aload_n 0, 1) := by decide +kernel
theorem dX4_errorInPhrase_17 : decode cX4_errorInPhrase 17 = .ok (.iload_n 3, 1) := by decide +kernel
theorem dX4_errorInPhrase_18 : decode cX4_errorInPhrase 18 = .ok (.invokevirtual 57, 3) := by decide +kernel
theorem dX4_errorInPhrase_21 : decode cX4_errorInPhrase 21 = .ok (.iconst 2, 1) := by decide +kernel
theorem dX4_errorInPhrase_22 : decode cX4_errorInPhrase 22 = .ok (.if_icmp .eq 5, 3) := by decide +kernel
theorem dX4_errorInPhrase_25 : decode cX4_errorInPhrase 25 = .ok (.iload_n 3, 1) := by decide +kernel
theorem dX4_errorInPhrase_26 : decode cX4_errorInPhrase 26 = .ok (.ireturn, 1) := by decide +kernel
theorem dX4_errorInPhrase_27 : decode cX4_errorInPhrase 27 = .ok (.iload_n 3, 1) := by decide +kernel
theorem dX4_errorInPhrase_28 : decode cX4_errorInPhrase 28 = .ok (.iconst 1, 1) := by decide +kernel
theorem dX4_errorInPhrase_29 : decode cX4_errorInPhrase 29 = .ok (.iadd, 1) := by decide +kernel
theorem dX4_errorInPhrase_30 : decode cX4_errorInPhrase 30 = .ok (.istore 4, 2) := by decide +kernel
theorem dX4_errorInPhrase_32 : decode cX4_errorInPhrase 32 = .ok (.iload 4, 2) := by decide +kernel
theorem dX4_errorInPhrase_34 : decode cX4_errorInPhrase 34 = .ok (.iload_n 2, 1) := by decide +kernel
theorem dX4_errorInPhrase_35 : decode cX4_errorInPhrase 35 = .ok (.if_icmp .ge 16, 3) := by decide +kernel
theorem dX4_errorInPhrase_38 : decode cX4_errorInPhrase 38 = .ok (.aload_n 0, 1) := by decide +kernel
theorem dX4_errorInPhrase_39 : decode cX4_errorInPhrase 39 = .ok (.iload 4, 2) := by decide +kernel
theorem dX4_errorInPhrase_41 : decode cX4_errorInPhrase 41 = .ok (.invokevirtual 57, 3) := by decide +kernel
theorem dX4_errorInPhrase_44 : decode cX4_errorInPhrase 44 = .ok (.iconst 3, 1) := by decide +kernel
theorem dX4_errorInPhrase_45 : decode cX4_errorInPhrase 45 = .ok (.if_icmp .ne 6, 3) := by decide +kernel
theorem dX4_errorInPhrase_48 : decode cX4_errorInPhrase 48 = .ok (.iinc 4 1, 3) := by decide +kernel
theorem dX4_errorInPhrase_51 : decode cX4_errorInPhrase 51 = .ok (.iload 4, 2) := by decide +kernel
theorem dX4_errorInPhrase_53 : decode cX4_errorInPhrase 53 = .ok (.iload_n 2, 1) := by decide +kernel
theorem dX4_errorInPhrase_54 : decode cX4_errorInPhrase 54 = .ok (.if_icmp .ge 8, 3) := by decide +kernel
theorem dX4_errorInPhrase_57 : decode cX4_errorInPhrase 57 = .ok (.iload 4, 2) := by decide +kernel
theorem dX4_errorInPhrase_59 : decode cX4_errorInPhrase 59 = .ok (.goto 4, 3) := by decide +kernel
theorem dX4_errorInPhrase_62 : decode cX4_errorInPhrase 62 = .ok (.iconst (-1), 1) := by decide +kernel
theorem dX4_errorInPhrase_63 : decode cX4_errorInPhrase 63 = .ok (.ireturn, 1) := by decide +kernel
theorem dX4_foldAt_0 : decode cX4_foldAt 0 = .ok (.iload_n 1, 1) := by decide +kernel
theorem dX4_foldAt_1 : decode cX4_foldAt 1 = .ok (.ifCond .lt 26, 3) := by decide +kernel
theorem dX4_foldAt_4 : decode cX4_foldAt 4 = .ok (.iload_n 1, 1) := by decide +kernel
theorem dX4_foldAt_5 : decode cX4_foldAt 5 = .ok (.aload_n 0, 1) := by decide +kernel
theorem dX4_foldAt_6 : decode cX4_foldAt 6 = .ok (.getfield 30, 3) := by decide +kernel
theorem dX4_foldAt_9 : decode cX4_foldAt 9 = .ok (.if_icmp .ge 18, 3) := by decide +kernel
theorem dX4_foldAt_12 : decode cX4_foldAt 12 = .ok (.iload_n 1, 1) := by decide +kernel
theorem dX4_foldAt_13 : decode cX4_foldAt 13 = .ok (.bipush 6, 2) := by decide +kernel
theorem dX4_foldAt_15 : decode cX4_foldAt 15 = .ok (.if_icmp .ge 12, 3) := by decide +kernel
theorem dX4_foldAt_18 : decode cX4_foldAt 18 = .ok (.aload_n 0, 1) := by decide +kernel
theorem dX4_foldAt_19 : decode cX4_foldAt 19 = .ok (.getfield 15, 3) := by decide +kernel
theorem dX4_foldAt_22 : decode cX4_foldAt 22 = .ok (.iload_n 1, 1) := by decide +kernel
theorem dX4_foldAt_23 : decode cX4_foldAt 23 = .ok (.iaload, 1) := by decide +kernel
theorem dX4_foldAt_24 : decode cX4_foldAt 24 = .ok (.goto 4, 3) := by decide +kernel
theorem dX4_foldAt_27 : decode cX4_foldAt 27 = .ok (.iconst 0, 1) := by decide +kernel
theorem dX4_foldAt_28 : decode cX4_foldAt 28 = .ok (.ireturn, 1) := by decide +kernel
set_option maxRecDepth 20000 in
theorem ggX4_colourAt_X4_isNumber : GoodIn wsX4_colourAt wsX4_isNumber := goodIn_r _ [6, 7, 8, 9, 10, 11, 12, 13, 14] (by decide +kernel) (by decide +kernel)
set_option maxRecDepth 20000 in
theorem gX4_colourAt_X4_isNumber : GoodIn wsX4_colourAt (wsV RX4 53 RX4 yX4_isNumber wsX4_isNumber) := goodIn_app (goodIn_of _ (by decide +kernel)) ggX4_colourAt_X4_isNumber
theorem dX4_colourAt_0 : decode cX4_colourAt 0 = .ok (.aload_n 0, 1) := by decide +kernel
theorem dX4_colourAt_1 : decode cX4_colourAt 1 = .ok (.iload_n 1, 1) := by decide +kernel
theorem dX4_colourAt_2 : decode cX4_colourAt 2 = .ok (.invokevirtual 53, 3) := by decide +kernel
theorem dX4_colourAt_5 : decode cX4_colourAt 5 = .ok (.ifCond .eq 12, 3) := by decide +kernel
theorem dX4_colourAt_8 : decode cX4_colourAt 8 = .ok (.aload_n 0, 1) := by decide +kernel
theorem dX4_colourAt_9 : decode cX4_colourAt 9 = .ok (.getfield 18, 3) := by decide +kernel
theorem dX4_colourAt_12 : decode cX4_colourAt 12 = .ok (.iload_n 1, 1) := by decide +kernel
theorem dX4_colourAt_13 : decode cX4_colourAt 13 = .ok (.iaload, 1) := by decide +kernel
theorem dX4_colourAt_14 : decode cX4_colourAt 14 = .ok (.goto 4, 3) := by decide +kernel
theorem dX4_colourAt_17 : decode cX4_colourAt 17 = .ok (.iconst (-1), 1) := by decide +kernel
theorem dX4_colourAt_18 : decode cX4_colourAt 18 = .ok (.ireturn, 1) := by decide +kernel
set_option maxRecDepth 20000 in
theorem ggX4_stainsAt_X4_isNumber : GoodIn wsX4_stainsAt wsX4_isNumber := goodIn_r _ [6, 7, 8, 9, 10, 11, 12, 13, 14] (by decide +kernel) (by decide +kernel)
set_option maxRecDepth 20000 in
theorem gX4_stainsAt_X4_isNumber : GoodIn wsX4_stainsAt (wsV RX4 53 RX4 yX4_isNumber wsX4_isNumber) := goodIn_app (goodIn_of _ (by decide +kernel)) ggX4_stainsAt_X4_isNumber
theorem dX4_stainsAt_0 : decode cX4_stainsAt 0 = .ok (.aload_n 0, 1) := by decide +kernel
theorem dX4_stainsAt_1 : decode cX4_stainsAt 1 = .ok (.iload_n 1, 1) := by decide +kernel
theorem dX4_stainsAt_2 : decode cX4_stainsAt 2 = .ok (.invokevirtual 53, 3) := by decide +kernel
theorem dX4_stainsAt_5 : decode cX4_stainsAt 5 = .ok (.ifCond .eq 12, 3) := by decide +kernel
theorem dX4_stainsAt_8 : decode cX4_stainsAt 8 = .ok (.aload_n 0, 1) := by decide +kernel
theorem dX4_stainsAt_9 : decode cX4_stainsAt 9 = .ok (.getfield 21, 3) := by decide +kernel
theorem dX4_stainsAt_12 : decode cX4_stainsAt 12 = .ok (.iload_n 1, 1) := by decide +kernel
theorem dX4_stainsAt_13 : decode cX4_stainsAt 13 = .ok (.iaload, 1) := by decide +kernel
theorem dX4_stainsAt_14 : decode cX4_stainsAt 14 = .ok (.goto 4, 3) := by decide +kernel
theorem dX4_stainsAt_17 : decode cX4_stainsAt 17 = .ok (.iconst 0, 1) := by decide +kernel
theorem dX4_stainsAt_18 : decode cX4_stainsAt 18 = .ok (.ireturn, 1) := by decide +kernel
theorem dX4_isNumber_0 : decode cX4_isNumber 0 = .ok (.iload_n 1, 1) := by decide +kernel
theorem dX4_isNumber_1 : decode cX4_isNumber 1 = .ok (.ifCond .lt 21, 3) := by decide +kernel
theorem dX4_isNumber_4 : decode cX4_isNumber 4 = .ok (.iload_n 1, 1) := by decide +kernel
theorem dX4_isNumber_5 : decode cX4_isNumber 5 = .ok (.aload_n 0, 1) := by decide +kernel
theorem dX4_isNumber_6 : decode cX4_isNumber 6 = .ok (.getfield 30, 3) := by decide +kernel
theorem dX4_isNumber_9 : decode cX4_isNumber 9 = .ok (.if_icmp .ge 13, 3) := by decide +kernel
theorem dX4_isNumber_12 : decode cX4_isNumber 12 = .ok (.iload_n 1, 1) := by decide +kernel
theorem dX4_isNumber_13 : decode cX4_isNumber 13 = .ok (.bipush 6, 2) := by decide +kernel
theorem dX4_isNumber_15 : decode cX4_isNumber 15 = .ok (.if_icmp .ge 7, 3) := by decide +kernel
theorem dX4_isNumber_18 : decode cX4_isNumber 18 = .ok (.iconst 1, 1) := by decide +kernel
theorem dX4_isNumber_19 : decode cX4_isNumber 19 = .ok (.goto 4, 3) := by decide +kernel
theorem dX4_isNumber_22 : decode cX4_isNumber 22 = .ok (.iconst 0, 1) := by decide +kernel
theorem dX4_isNumber_23 : decode cX4_isNumber 23 = .ok (.ireturn, 1) := by decide +kernel
theorem dX4_isEnd_0 : decode cX4_isEnd 0 = .ok (.iload_n 0, 1) := by decide +kernel
theorem dX4_isEnd_1 : decode cX4_isEnd 1 = .ok (.iconst 2, 1) := by decide +kernel
theorem dX4_isEnd_2 : decode cX4_isEnd 2 = .ok (.if_icmp .eq 8, 3) := by decide +kernel
theorem dX4_isEnd_5 : decode cX4_isEnd 5 = .ok (.iload_n 0, 1) := by decide +kernel
theorem dX4_isEnd_6 : decode cX4_isEnd 6 = .ok (.iconst 3, 1) := by decide +kernel
theorem dX4_isEnd_7 : decode cX4_isEnd 7 = .ok (.if_icmp .ne 7, 3) := by decide +kernel
theorem dX4_isEnd_10 : decode cX4_isEnd 10 = .ok (.iconst 1, 1) := by decide +kernel
theorem dX4_isEnd_11 : decode cX4_isEnd 11 = .ok (.goto 4, 3) := by decide +kernel
theorem dX4_isEnd_14 : decode cX4_isEnd 14 = .ok (.iconst 0, 1) := by decide +kernel
theorem dX4_isEnd_15 : decode cX4_isEnd 15 = .ok (.ireturn, 1) := by decide +kernel
theorem dX4_pointAfter_0 : decode cX4_pointAfter 0 = .ok (.iload_n 1, 1) := by decide +kernel
theorem dX4_pointAfter_1 : decode cX4_pointAfter 1 = .ok (.tableswitch 84 1 4 #[31, 46, 57, 68], 31) := by decide +kernel
theorem dX4_pointAfter_32 : decode cX4_pointAfter 32 = .ok (.iload_n 0, 1) := by decide +kernel
theorem dX4_pointAfter_33 : decode cX4_pointAfter 33 = .ok (.ifCond .eq 8, 3) := by decide +kernel
theorem dX4_pointAfter_36 : decode cX4_pointAfter 36 = .ok (.iload_n 0, 1) := by decide +kernel
theorem dX4_pointAfter_37 : decode cX4_pointAfter 37 = .ok (.iconst 1, 1) := by decide +kernel
theorem dX4_pointAfter_38 : decode cX4_pointAfter 38 = .ok (.if_icmp .ne 7, 3) := by decide +kernel
theorem dX4_pointAfter_41 : decode cX4_pointAfter 41 = .ok (.iconst 1, 1) := by decide +kernel
theorem dX4_pointAfter_42 : decode cX4_pointAfter 42 = .ok (.goto 4, 3) := by decide +kernel
theorem dX4_pointAfter_45 : decode cX4_pointAfter 45 = .ok (.iconst (-1), 1) := by decide +kernel
theorem dX4_pointAfter_46 : decode cX4_pointAfter 46 = .ok (.ireturn, 1) := by decide +kernel
theorem dX4_pointAfter_47 : decode cX4_pointAfter 47 = .ok (.iload_n 0, 1) := by decide +kernel
theorem dX4_pointAfter_48 : decode cX4_pointAfter 48 = .ok (.iconst 1, 1) := by decide +kernel
theorem dX4_pointAfter_49 : decode cX4_pointAfter 49 = .ok (.if_icmp .ne 7, 3) := by decide +kernel
theorem dX4_pointAfter_52 : decode cX4_pointAfter 52 = .ok (.iconst 2, 1) := by decide +kernel
theorem dX4_pointAfter_53 : decode cX4_pointAfter 53 = .ok (.goto 4, 3) := by decide +kernel
theorem dX4_pointAfter_56 : decode cX4_pointAfter 56 = .ok (.iconst (-1), 1) := by decide +kernel
theorem dX4_pointAfter_57 : decode cX4_pointAfter 57 = .ok (.ireturn, 1) := by decide +kernel
theorem dX4_pointAfter_58 : decode cX4_pointAfter 58 = .ok (.iload_n 0, 1) := by decide +kernel
theorem dX4_pointAfter_59 : decode cX4_pointAfter 59 = .ok (.iconst 2, 1) := by decide +kernel
theorem dX4_pointAfter_60 : decode cX4_pointAfter 60 = .ok (.if_icmp .ne 7, 3) := by decide +kernel
theorem dX4_pointAfter_63 : decode cX4_pointAfter 63 = .ok (.iconst 3, 1) := by decide +kernel
theorem dX4_pointAfter_64 : decode cX4_pointAfter 64 = .ok (.goto 4, 3) := by decide +kernel
theorem dX4_pointAfter_67 : decode cX4_pointAfter 67 = .ok (.iconst (-1), 1) := by decide +kernel
theorem dX4_pointAfter_68 : decode cX4_pointAfter 68 = .ok (.ireturn, 1) := by decide +kernel
theorem dX4_pointAfter_69 : decode cX4_pointAfter 69 = .ok (.iload_n 0, 1) := by decide +kernel
theorem dX4_pointAfter_70 : decode cX4_pointAfter 70 = .ok (.iconst 2, 1) := by decide +kernel
theorem dX4_pointAfter_71 : decode cX4_pointAfter 71 = .ok (.if_icmp .eq 8, 3) := by decide +kernel
theorem dX4_pointAfter_74 : decode cX4_pointAfter 74 = .ok (.iload_n 0, 1) := by decide +kernel
theorem dX4_pointAfter_75 : decode cX4_pointAfter 75 = .ok (.iconst 3, 1) := by decide +kernel
theorem dX4_pointAfter_76 : decode cX4_pointAfter 76 = .ok (.if_icmp .ne 7, 3) := by decide +kernel
theorem dX4_pointAfter_79 : decode cX4_pointAfter 79 = .ok (.iconst 0, 1) := by decide +kernel
theorem dX4_pointAfter_80 : decode cX4_pointAfter 80 = .ok (.goto 4, 3) := by decide +kernel
theorem dX4_pointAfter_83 : decode cX4_pointAfter 83 = .ok (.iconst (-1), 1) := by decide +kernel
theorem dX4_pointAfter_84 : decode cX4_pointAfter 84 = .ok (.ireturn, 1) := by decide +kernel
theorem dX4_pointAfter_85 : decode cX4_pointAfter 85 = .ok (.iconst (-1), 1) := by decide +kernel
theorem dX4_pointAfter_86 : decode cX4_pointAfter 86 = .ok (.ireturn, 1) := by decide +kernel
set_option maxRecDepth 20000 in
theorem ggX5_init_X6_init : GoodIn wsX5_init wsX6_init := goodIn_r _ [13, 14, 2, 3, 15, 16, 27] (by decide +kernel) (by decide +kernel)
set_option maxRecDepth 20000 in
theorem gX5_init_X6_init_n11 : GoodIn wsX5_init (wsX6_init) := ggX5_init_X6_init
set_option maxRecDepth 20000 in
theorem ggX5_init_X4_init : GoodIn wsX5_init wsX4_init := goodIn_r _ [18, 19, 2, 3, 15, 20, 21, 22, 23, 24, 25, 26, 30, 31, 32, 33, 34, 35, 36] (by decide +kernel) (by decide +kernel)
set_option maxRecDepth 20000 in
theorem gX5_init_X4_init_n20 : GoodIn wsX5_init (wsX4_init) := ggX5_init_X4_init
theorem dX5_init_0 : decode cX5_init 0 = .ok (.aload_n 0, 1) := by decide +kernel
theorem dX5_init_1 : decode cX5_init 1 = .ok (.invokespecial 3, 3) := by decide +kernel
theorem dX5_init_4 : decode cX5_init 4 = .ok (.aload_n 0, 1) := by decide +kernel
theorem dX5_init_5 : decode cX5_init 5 = .ok (.new 9, 3) := by decide +kernel
theorem dX5_init_8 : decode cX5_init 8 = .ok (.dup, 1) := by decide +kernel
theorem dX5_init_9 : decode cX5_init 9 = .ok (.invokespecial 11, 3) := by decide +kernel
theorem dX5_init_12 : decode cX5_init 12 = .ok (.putfield 12, 3) := by decide +kernel
theorem dX5_init_15 : decode cX5_init 15 = .ok (.aload_n 0, 1) := by decide +kernel
theorem dX5_init_16 : decode cX5_init 16 = .ok (.new 18, 3) := by decide +kernel
theorem dX5_init_19 : decode cX5_init 19 = .ok (.dup, 1) := by decide +kernel
theorem dX5_init_20 : decode cX5_init 20 = .ok (.invokespecial 20, 3) := by decide +kernel
theorem dX5_init_23 : decode cX5_init 23 = .ok (.putfield 21, 3) := by decide +kernel
theorem dX5_init_26 : decode cX5_init 26 = .ok (.return_, 1) := by decide +kernel
set_option maxRecDepth 20000 in
theorem ggX5_judge_Jx29ce0_ordinal_8abf5 : GoodIn wsX5_judge wsJx29ce0_ordinal_8abf5 := goodIn_r _ [7, 8] (by decide +kernel) (by decide +kernel)
set_option maxRecDepth 20000 in
theorem gX5_judge_Jx29ce0_ordinal_8abf5_u31X1 : GoodIn wsX5_judge (va_wsU RX5 31 RX1 "java/lang/Enum" ⟨"NapkinSyntax$Command", "ordinal", "()I"⟩ yJx29ce0_ordinal_8abf5 wsJx29ce0_ordinal_8abf5) := goodIn_app (goodIn_of _ (by decide +kernel)) ggX5_judge_Jx29ce0_ordinal_8abf5
set_option maxRecDepth 20000 in
theorem ggX5_judge_X5_judgeNew : GoodIn wsX5_judge wsX5_judgeNew := goodIn_ca (goodIn_r _ [13, 14, 15, 16, 17, 18, 19, 20, 21, 22, 23, 131, 132, 133] (by decide +kernel) (by decide +kernel)) (goodIn_sub (fun _ h => List.mem_cons_of_mem _ (List.mem_append_right _ h)) (by decide +kernel))
set_option maxRecDepth 20000 in
theorem gX5_judge_X5_judgeNew : GoodIn wsX5_judge (wsV RX5 37 RX5 yX5_judgeNew wsX5_judgeNew) := goodIn_app (goodIn_of _ (by decide +kernel)) ggX5_judge_X5_judgeNew
set_option maxRecDepth 20000 in
theorem ggX5_judge_X5_judgeFold : GoodIn wsX5_judge wsX5_judgeFold := goodIn_ca (goodIn_r _ [27, 14, 28, 29, 30, 18, 31, 20, 32, 33, 34, 35, 36, 37, 38, 39, 21, 22, 23, 40, 41, 42, 43, 44, 45, 12, 46, 131, 132, 133] (by decide +kernel) (by decide +kernel)) (goodIn_sub (fun _ h => List.mem_cons_of_mem _ (List.mem_append_right _ h)) (by decide +kernel))
set_option maxRecDepth 20000 in
theorem gX5_judge_X5_judgeFold : GoodIn wsX5_judge (wsV RX5 41 RX5 yX5_judgeFold wsX5_judgeFold) := goodIn_app (goodIn_of _ (by decide +kernel)) ggX5_judge_X5_judgeFold
set_option maxRecDepth 20000 in
theorem ggX5_judge_X5_judgeOpen : GoodIn wsX5_judge wsX5_judgeOpen := goodIn_ca (goodIn_r _ [50, 14, 28, 29, 30, 18, 31, 20, 32, 33, 34, 35, 36, 37, 38, 39, 21, 22, 23, 131, 132, 133] (by decide +kernel) (by decide +kernel)) (goodIn_sub (fun _ h => List.mem_cons_of_mem _ (List.mem_append_right _ h)) (by decide +kernel))
set_option maxRecDepth 20000 in
theorem gX5_judge_X5_judgeOpen : GoodIn wsX5_judge (wsV RX5 45 RX5 yX5_judgeOpen wsX5_judgeOpen) := goodIn_app (goodIn_of _ (by decide +kernel)) ggX5_judge_X5_judgeOpen
set_option maxRecDepth 20000 in
theorem ggX5_judge_X5_judgeLay : GoodIn wsX5_judge wsX5_judgeLay := goodIn_ca (goodIn_r _ [54, 14, 28, 29, 30, 18, 31, 20, 55, 22, 56, 57, 58, 59, 60, 61, 62, 63, 64, 21, 23, 65, 66, 67, 68, 69, 70, 71, 72, 131, 132, 133] (by decide +kernel) (by decide +kernel)) (goodIn_sub (fun _ h => List.mem_cons_of_mem _ (List.mem_append_right _ h)) (by decide +kernel))
set_option maxRecDepth 20000 in
theorem gX5_judge_X5_judgeLay : GoodIn wsX5_judge (wsV RX5 48 RX5 yX5_judgeLay wsX5_judgeLay) := goodIn_app (goodIn_of _ (by decide +kernel)) ggX5_judge_X5_judgeLay
set_option maxRecDepth 20000 in
theorem ggX5_judge_X5_judgeTake : GoodIn wsX5_judge wsX5_judgeTake := goodIn_ca (goodIn_r _ [76, 14, 28, 29, 30, 18, 31, 20, 57, 58, 59, 60, 61, 62, 63, 64, 21, 22, 23, 131, 132, 133] (by decide +kernel) (by decide +kernel)) (goodIn_sub (fun _ h => List.mem_cons_of_mem _ (List.mem_append_right _ h)) (by decide +kernel))
set_option maxRecDepth 20000 in
theorem gX5_judge_X5_judgeTake : GoodIn wsX5_judge (wsV RX5 51 RX5 yX5_judgeTake wsX5_judgeTake) := goodIn_app (goodIn_of _ (by decide +kernel)) ggX5_judge_X5_judgeTake
set_option maxRecDepth 20000 in
theorem ggX5_judge_X5_judgeMove : GoodIn wsX5_judge wsX5_judgeMove := goodIn_ca (goodIn_r _ [80, 14, 55, 22, 56, 81, 82, 83, 18, 84, 85, 66, 67, 68, 69, 70, 71, 72, 20, 21, 23, 131, 132, 133] (by decide +kernel) (by decide +kernel)) (goodIn_sub (fun _ h => List.mem_cons_of_mem _ (List.mem_append_right _ h)) (by decide +kernel))
set_option maxRecDepth 20000 in
theorem gX5_judge_X5_judgeMove : GoodIn wsX5_judge (wsV RX5 54 RX5 yX5_judgeMove wsX5_judgeMove) := goodIn_app (goodIn_of _ (by decide +kernel)) ggX5_judge_X5_judgeMove
set_option maxRecDepth 20000 in
theorem ggX5_judge_X5_judgeStain : GoodIn wsX5_judge wsX5_judgeStain := goodIn_ca (goodIn_r _ [89, 14, 28, 29, 30, 18, 31, 20, 90, 91, 92, 93, 36, 37, 38, 39, 21, 22, 23, 131, 132, 133] (by decide +kernel) (by decide +kernel)) (goodIn_sub (fun _ h => List.mem_cons_of_mem _ (List.mem_append_right _ h)) (by decide +kernel))
set_option maxRecDepth 20000 in
theorem gX5_judge_X5_judgeStain : GoodIn wsX5_judge (wsV RX5 58 RX5 yX5_judgeStain wsX5_judgeStain) := goodIn_app (goodIn_of _ (by decide +kernel)) ggX5_judge_X5_judgeStain
set_option maxRecDepth 20000 in
theorem ggX5_judge_X5_judgeWash : GoodIn wsX5_judge wsX5_judgeWash := goodIn_ca (goodIn_r _ [97, 14, 28, 29, 30, 18, 31, 20, 57, 58, 59, 60, 61, 62, 63, 64, 21, 22, 23, 90, 91, 92, 93, 36, 37, 38, 39, 131, 132, 133] (by decide +kernel) (by decide +kernel)) (goodIn_sub (fun _ h => List.mem_cons_of_mem _ (List.mem_append_right _ h)) (by decide +kernel))
set_option maxRecDepth 20000 in
theorem gX5_judge_X5_judgeWash : GoodIn wsX5_judge (wsV RX5 61 RX5 yX5_judgeWash wsX5_judgeWash) := goodIn_app (goodIn_of _ (by decide +kernel)) ggX5_judge_X5_judgeWash
set_option maxRecDepth 20000 in
theorem ggX5_judge_X5_judgeRead : GoodIn wsX5_judge wsX5_judgeRead := goodIn_ca (goodIn_r _ [101, 102, 14, 55, 22, 56, 103, 104, 105, 106, 107, 108, 109, 110, 111, 112, 113, 66, 67, 18, 68, 69, 70, 71, 72, 20, 114, 115, 116, 117, 118, 119, 120, 121, 33, 34, 35, 36, 37, 38, 39, 122, 123, 124, 125, 126, 91, 92, 93, 127, 128, 129, 130, 65, 21, 23, 131, 132, 134, 135, 136, 137, 138, 139, 140, 133] (by decide +kernel) (by decide +kernel)) (goodIn_sub (fun _ h => List.mem_cons_of_mem _ (List.mem_append_right _ h)) (by decide +kernel))
set_option maxRecDepth 20000 in
theorem gX5_judge_X5_judgeRead : GoodIn wsX5_judge (wsV RX5 64 RX5 yX5_judgeRead wsX5_judgeRead) := goodIn_app (goodIn_of _ (by decide +kernel)) ggX5_judge_X5_judgeRead
theorem dX5_judge_0 : decode cX5_judge 0 = .ok (.getstatic 25, 3) := by decide +kernel
theorem dX5_judge_3 : decode cX5_judge 3 = .ok (.aload_n 1, 1) := by decide +kernel
theorem dX5_judge_4 : decode cX5_judge 4 = .ok (.invokevirtual 31, 3) := by decide +kernel
theorem dX5_judge_7 : decode cX5_judge 7 = .ok (.iaload, 1) := by decide +kernel
theorem dX5_judge_8 : decode cX5_judge 8 = .ok (.tableswitch 102 1 8 #[48, 54, 61, 67, 74, 80, 89, 96], 48) := by decide +kernel
theorem dX5_judge_56 : decode cX5_judge 56 = .ok (.aload_n 0, 1) := by decide +kernel
theorem dX5_judge_57 : decode cX5_judge 57 = .ok (.iload_n 2, 1) := by decide +kernel
theorem dX5_judge_58 : decode cX5_judge 58 = .ok (.invokevirtual 37, 3) := by decide +kernel
theorem dX5_judge_61 : decode cX5_judge 61 = .ok (.ireturn, 1) := by decide +kernel
theorem dX5_judge_62 : decode cX5_judge 62 = .ok (.aload_n 0, 1) := by decide +kernel
theorem dX5_judge_63 : decode cX5_judge 63 = .ok (.iload_n 2, 1) := by decide +kernel
theorem dX5_judge_64 : decode cX5_judge 64 = .ok (.iload_n 3, 1) := by decide +kernel
theorem dX5_judge_65 : decode cX5_judge 65 = .ok (.invokevirtual 41, 3) := by decide +kernel
theorem dX5_judge_68 : decode cX5_judge 68 = .ok (.ireturn, 1) := by decide +kernel
theorem dX5_judge_69 : decode cX5_judge 69 = .ok (.aload_n 0, 1) := by decide +kernel
theorem dX5_judge_70 : decode cX5_judge 70 = .ok (.iload_n 2, 1) := by decide +kernel
theorem dX5_judge_71 : decode cX5_judge 71 = .ok (.invokevirtual 45, 3) := by decide +kernel
theorem dX5_judge_74 : decode cX5_judge 74 = .ok (.ireturn, 1) := by decide +kernel
theorem dX5_judge_75 : decode cX5_judge 75 = .ok (.aload_n 0, 1) := by decide +kernel
theorem dX5_judge_76 : decode cX5_judge 76 = .ok (.iload_n 2, 1) := by decide +kernel
theorem dX5_judge_77 : decode cX5_judge 77 = .ok (.iload_n 3, 1) := by decide +kernel
theorem dX5_judge_78 : decode cX5_judge 78 = .ok (.invokevirtual 48, 3) := by decide +kernel
theorem dX5_judge_81 : decode cX5_judge 81 = .ok (.ireturn, 1) := by decide +kernel
theorem dX5_judge_82 : decode cX5_judge 82 = .ok (.aload_n 0, 1) := by decide +kernel
theorem dX5_judge_83 : decode cX5_judge 83 = .ok (.iload_n 2, 1) := by decide +kernel
theorem dX5_judge_84 : decode cX5_judge 84 = .ok (.invokevirtual 51, 3) := by decide +kernel
theorem dX5_judge_87 : decode cX5_judge 87 = .ok (.ireturn, 1) := by decide +kernel
theorem dX5_judge_88 : decode cX5_judge 88 = .ok (.aload_n 0, 1) := by decide +kernel
theorem dX5_judge_89 : decode cX5_judge 89 = .ok (.iload_n 2, 1) := by decide +kernel
theorem dX5_judge_90 : decode cX5_judge 90 = .ok (.iload_n 3, 1) := by decide +kernel
theorem dX5_judge_91 : decode cX5_judge 91 = .ok (.iload 4, 2) := by decide +kernel
theorem dX5_judge_93 : decode cX5_judge 93 = .ok (.invokevirtual 54, 3) := by decide +kernel
theorem dX5_judge_96 : decode cX5_judge 96 = .ok (.ireturn, 1) := by decide +kernel
theorem dX5_judge_97 : decode cX5_judge 97 = .ok (.aload_n 0, 1) := by decide +kernel
theorem dX5_judge_98 : decode cX5_judge 98 = .ok (.iload_n 2, 1) := by decide +kernel
theorem dX5_judge_99 : decode cX5_judge 99 = .ok (.iload_n 3, 1) := by decide +kernel
theorem dX5_judge_100 : decode cX5_judge 100 = .ok (.invokevirtual 58, 3) := by decide +kernel
theorem dX5_judge_103 : decode cX5_judge 103 = .ok (.ireturn, 1) := by decide +kernel
theorem dX5_judge_104 : decode cX5_judge 104 = .ok (.aload_n 0, 1) := by decide +kernel
theorem dX5_judge_105 : decode cX5_judge 105 = .ok (.iload_n 2, 1) := by decide +kernel
theorem dX5_judge_106 : decode cX5_judge 106 = .ok (.invokevirtual 61, 3) := by decide +kernel
theorem dX5_judge_109 : decode cX5_judge 109 = .ok (.ireturn, 1) := by decide +kernel
theorem dX5_judge_110 : decode cX5_judge 110 = .ok (.aload_n 0, 1) := by decide +kernel
theorem dX5_judge_111 : decode cX5_judge 111 = .ok (.iload_n 2, 1) := by decide +kernel
theorem dX5_judge_112 : decode cX5_judge 112 = .ok (.invokevirtual 64, 3) := by decide +kernel
theorem dX5_judge_115 : decode cX5_judge 115 = .ok (.ireturn, 1) := by decide +kernel
set_option maxRecDepth 20000 in
theorem ggX5_carryOut_Jx29ce0_ordinal_8abf5 : GoodIn wsX5_carryOut wsJx29ce0_ordinal_8abf5 := goodIn_r _ [8, 9] (by decide +kernel) (by decide +kernel)
set_option maxRecDepth 20000 in
theorem gX5_carryOut_Jx29ce0_ordinal_8abf5_u31X1 : GoodIn wsX5_carryOut (va_wsU RX5 31 RX1 "java/lang/Enum" ⟨"NapkinSyntax$Command", "ordinal", "()I"⟩ yJx29ce0_ordinal_8abf5 wsJx29ce0_ordinal_8abf5) := goodIn_app (goodIn_of _ (by decide +kernel)) ggX5_carryOut_Jx29ce0_ordinal_8abf5
set_option maxRecDepth 20000 in
theorem ggX5_carryOut_X6_addNapkin : GoodIn wsX5_carryOut wsX6_addNapkin := goodIn_ca (goodIn_r _ [14, 15, 16, 17, 18, 13, 19, 20, 21, 22, 23, 178] (by decide +kernel) (by decide +kernel)) (goodIn_sub (fun _ h => List.mem_cons_of_mem _ (List.mem_append_right _ h)) (by decide +kernel))
set_option maxRecDepth 20000 in
theorem gX5_carryOut_X6_addNapkin : GoodIn wsX5_carryOut (wsV RX5 67 RX6 yX6_addNapkin wsX6_addNapkin) := goodIn_app (goodIn_of _ (by decide +kernel)) ggX5_carryOut_X6_addNapkin
set_option maxRecDepth 20000 in
theorem ggX5_carryOut_X5_creasesFor : GoodIn wsX5_carryOut wsX5_creasesFor := goodIn_ca (goodIn_r _ [27] (by decide +kernel) (by decide +kernel)) (goodIn_sub (fun _ h => List.mem_cons_of_mem _ (List.mem_append_right _ h)) (by decide +kernel))
set_option maxRecDepth 20000 in
theorem gX5_carryOut_X5_creasesFor : GoodIn wsX5_carryOut (va_wsS RX5 70 yX5_creasesFor wsX5_creasesFor) := goodIn_app (goodIn_of _ (by decide +kernel)) ggX5_carryOut_X5_creasesFor
set_option maxRecDepth 20000 in
theorem ggX5_carryOut_X6_foldTo : GoodIn wsX5_carryOut wsX6_foldTo := goodIn_ca (goodIn_r _ [31, 32, 33, 34, 13, 35, 36, 37, 38, 39, 15, 20, 21, 22, 23, 40, 41, 42, 43, 178] (by decide +kernel) (by decide +kernel)) (goodIn_sub (fun _ h => List.mem_cons_of_mem _ (List.mem_append_right _ h)) (by decide +kernel))
set_option maxRecDepth 20000 in
theorem gX5_carryOut_X6_foldTo : GoodIn wsX5_carryOut (wsV RX5 73 RX6 yX6_foldTo wsX6_foldTo) := goodIn_app (goodIn_of _ (by decide +kernel)) ggX5_carryOut_X6_foldTo
set_option maxRecDepth 20000 in
theorem ggX5_carryOut_X6_open : GoodIn wsX5_carryOut wsX6_open := goodIn_ca (goodIn_r _ [47, 48, 49, 50, 13, 51, 36, 37, 38, 39, 15, 20, 21, 22, 23, 178] (by decide +kernel) (by decide +kernel)) (goodIn_sub (fun _ h => List.mem_cons_of_mem _ (List.mem_append_right _ h)) (by decide +kernel))
set_option maxRecDepth 20000 in
theorem gX5_carryOut_X6_open : GoodIn wsX5_carryOut (wsV RX5 76 RX6 yX6_open wsX6_open) := goodIn_app (goodIn_of _ (by decide +kernel)) ggX5_carryOut_X6_open
set_option maxRecDepth 20000 in
theorem ggX5_carryOut_X6_addLast : GoodIn wsX5_carryOut wsX6_addLast := goodIn_ca (goodIn_r _ [55, 56, 57, 58, 13, 59, 60, 61, 62, 63, 15, 64, 65, 66, 67, 68, 69, 70, 71, 72, 73, 74, 75, 76, 77, 78, 79, 80, 81, 82, 178] (by decide +kernel) (by decide +kernel)) (goodIn_sub (fun _ h => List.mem_cons_of_mem _ (List.mem_append_right _ h)) (by decide +kernel))
set_option maxRecDepth 20000 in
theorem gX5_carryOut_X6_addLast : GoodIn wsX5_carryOut (wsV RX5 79 RX6 yX6_addLast wsX6_addLast) := goodIn_app (goodIn_of _ (by decide +kernel)) ggX5_carryOut_X6_addLast
set_option maxRecDepth 20000 in
theorem ggX5_carryOut_X6_remove : GoodIn wsX5_carryOut wsX6_remove := goodIn_ca (goodIn_r _ [86, 87, 88, 89, 13, 90, 91, 92, 93, 94, 15, 95, 96, 97, 98, 99, 100, 101, 102, 56, 57, 58, 59, 60, 61, 62, 63, 68, 69, 70, 71, 72, 73, 74, 75, 76, 77, 78, 79, 80, 81, 82, 178] (by decide +kernel) (by decide +kernel)) (goodIn_sub (fun _ h => List.mem_cons_of_mem _ (List.mem_append_right _ h)) (by decide +kernel))
set_option maxRecDepth 20000 in
theorem gX5_carryOut_X6_remove : GoodIn wsX5_carryOut (wsV RX5 82 RX6 yX6_remove wsX6_remove) := goodIn_app (goodIn_of _ (by decide +kernel)) ggX5_carryOut_X6_remove
set_option maxRecDepth 20000 in
theorem ggX5_carryOut_X6_shift : GoodIn wsX5_carryOut wsX6_shift := goodIn_ca (goodIn_r _ [106, 68, 69, 70, 13, 71, 15, 72, 73, 74, 99, 100, 101, 102, 56, 57, 58, 59, 60, 61, 62, 63, 75, 76, 77, 78, 79, 80, 81, 82, 64, 65, 66, 67, 178] (by decide +kernel) (by decide +kernel)) (goodIn_sub (fun _ h => List.mem_cons_of_mem _ (List.mem_append_right _ h)) (by decide +kernel))
set_option maxRecDepth 20000 in
theorem gX5_carryOut_X6_shift : GoodIn wsX5_carryOut (wsV RX5 85 RX6 yX6_shift wsX6_shift) := goodIn_app (goodIn_of _ (by decide +kernel)) ggX5_carryOut_X6_shift
set_option maxRecDepth 20000 in
theorem ggX5_carryOut_X6_addStains : GoodIn wsX5_carryOut wsX6_addStains := goodIn_ca (goodIn_r _ [110, 111, 112, 113, 13, 114, 36, 37, 38, 39, 15, 20, 21, 22, 23, 178] (by decide +kernel) (by decide +kernel)) (goodIn_sub (fun _ h => List.mem_cons_of_mem _ (List.mem_append_right _ h)) (by decide +kernel))
set_option maxRecDepth 20000 in
theorem gX5_carryOut_X6_addStains : GoodIn wsX5_carryOut (wsV RX5 88 RX6 yX6_addStains wsX6_addStains) := goodIn_app (goodIn_of _ (by decide +kernel)) ggX5_carryOut_X6_addStains
set_option maxRecDepth 20000 in
theorem ggX5_carryOut_X6_clean : GoodIn wsX5_carryOut wsX6_clean := goodIn_ca (goodIn_r _ [118, 15, 111, 112, 113, 13, 114, 36, 37, 38, 39, 20, 21, 22, 23, 178] (by decide +kernel) (by decide +kernel)) (goodIn_sub (fun _ h => List.mem_cons_of_mem _ (List.mem_append_right _ h)) (by decide +kernel))
set_option maxRecDepth 20000 in
theorem gX5_carryOut_X6_clean : GoodIn wsX5_carryOut (wsV RX5 91 RX6 yX6_clean wsX6_clean) := goodIn_app (goodIn_of _ (by decide +kernel)) ggX5_carryOut_X6_clean
set_option maxRecDepth 20000 in
theorem ggX5_carryOut_X5_readByHost : GoodIn wsX5_carryOut wsX5_readByHost := goodIn_ca (goodIn_r _ [122, 123, 2, 124, 125, 126, 127, 128, 129, 130, 131, 132, 133, 134, 57, 58, 13, 59, 60, 61, 62, 63, 15, 135, 69, 70, 71, 72, 73, 74, 136, 49, 50, 51, 36, 37, 38, 39, 137, 138, 139, 140, 141, 112, 113, 114, 142, 143, 144, 145, 146, 147, 148, 149, 150, 151, 152, 153, 154, 155, 156, 157, 158, 159, 160, 161, 162, 163, 164, 165, 166, 167, 168, 169, 170, 171, 79, 80, 81, 82, 172, 173, 174, 175, 176, 177, 179, 180, 181, 182, 183, 184, 185, 178] (by decide +kernel) (by decide +kernel)) (goodIn_sub (fun _ h => List.mem_cons_of_mem _ (List.mem_append_right _ h)) (by decide +kernel))
set_option maxRecDepth 20000 in
theorem gX5_carryOut_X5_readByHost : GoodIn wsX5_carryOut (wsV RX5 94 RX5 yX5_readByHost wsX5_readByHost) := goodIn_app (goodIn_of _ (by decide +kernel)) ggX5_carryOut_X5_readByHost
theorem dX5_carryOut_0 : decode cX5_carryOut 0 = .ok (.getstatic 25, 3) := by decide +kernel
theorem dX5_carryOut_3 : decode cX5_carryOut 3 = .ok (.aload_n 1, 1) := by decide +kernel
theorem dX5_carryOut_4 : decode cX5_carryOut 4 = .ok (.invokevirtual 31, 3) := by decide +kernel
theorem dX5_carryOut_7 : decode cX5_carryOut 7 = .ok (.iaload, 1) := by decide +kernel
theorem dX5_carryOut_8 : decode cX5_carryOut 8 = .ok (.tableswitch 130 1 8 #[48, 57, 71, 80, 90, 99, 111, 121], 48) := by decide +kernel
theorem dX5_carryOut_56 : decode cX5_carryOut 56 = .ok (.aload_n 0, 1) := by decide +kernel
theorem dX5_carryOut_57 : decode cX5_carryOut 57 = .ok (.getfield 12, 3) := by decide +kernel
theorem dX5_carryOut_60 : decode cX5_carryOut 60 = .ok (.iload_n 2, 1) := by decide +kernel
theorem dX5_carryOut_61 : decode cX5_carryOut 61 = .ok (.invokevirtual 67, 3) := by decide +kernel
theorem dX5_carryOut_64 : decode cX5_carryOut 64 = .ok (.ireturn, 1) := by decide +kernel
theorem dX5_carryOut_65 : decode cX5_carryOut 65 = .ok (.aload_n 0, 1) := by decide +kernel
theorem dX5_carryOut_66 : decode cX5_carryOut 66 = .ok (.getfield 12, 3) := by decide +kernel
theorem dX5_carryOut_69 : decode cX5_carryOut 69 = .ok (.iload_n 2, 1) := by decide +kernel
theorem dX5_carryOut_70 : decode cX5_carryOut 70 = .ok (.iload_n 3, 1) := by decide +kernel
theorem dX5_carryOut_71 : decode cX5_carryOut 71 = .ok (.iload_n 3, 1) := by decide +kernel
theorem dX5_carryOut_72 : decode cX5_carryOut 72 = .ok (.invokestatic 70, 3) := by decide +kernel
theorem dX5_carryOut_75 : decode cX5_carryOut 75 = .ok (.invokevirtual 73, 3) := by decide +kernel
theorem dX5_carryOut_78 : decode cX5_carryOut 78 = .ok (.ireturn, 1) := by decide +kernel
theorem dX5_carryOut_79 : decode cX5_carryOut 79 = .ok (.aload_n 0, 1) := by decide +kernel
theorem dX5_carryOut_80 : decode cX5_carryOut 80 = .ok (.getfield 12, 3) := by decide +kernel
theorem dX5_carryOut_83 : decode cX5_carryOut 83 = .ok (.iload_n 2, 1) := by decide +kernel
theorem dX5_carryOut_84 : decode cX5_carryOut 84 = .ok (.invokevirtual 76, 3) := by decide +kernel
theorem dX5_carryOut_87 : decode cX5_carryOut 87 = .ok (.ireturn, 1) := by decide +kernel
theorem dX5_carryOut_88 : decode cX5_carryOut 88 = .ok (.aload_n 0, 1) := by decide +kernel
theorem dX5_carryOut_89 : decode cX5_carryOut 89 = .ok (.getfield 12, 3) := by decide +kernel
theorem dX5_carryOut_92 : decode cX5_carryOut 92 = .ok (.iload_n 2, 1) := by decide +kernel
theorem dX5_carryOut_93 : decode cX5_carryOut 93 = .ok (.iload_n 3, 1) := by decide +kernel
theorem dX5_carryOut_94 : decode cX5_carryOut 94 = .ok (.invokevirtual 79, 3) := by decide +kernel
theorem dX5_carryOut_97 : decode cX5_carryOut 97 = .ok (.ireturn, 1) := by decide +kernel
theorem dX5_carryOut_98 : decode cX5_carryOut 98 = .ok (.aload_n 0, 1) := by decide +kernel
theorem dX5_carryOut_99 : decode cX5_carryOut 99 = .ok (.getfield 12, 3) := by decide +kernel
theorem dX5_carryOut_102 : decode cX5_carryOut 102 = .ok (.iload_n 2, 1) := by decide +kernel
theorem dX5_carryOut_103 : decode cX5_carryOut 103 = .ok (.invokevirtual 82, 3) := by decide +kernel
theorem dX5_carryOut_106 : decode cX5_carryOut 106 = .ok (.ireturn, 1) := by decide +kernel
theorem dX5_carryOut_107 : decode cX5_carryOut 107 = .ok (.aload_n 0, 1) := by decide +kernel
theorem dX5_carryOut_108 : decode cX5_carryOut 108 = .ok (.getfield 12, 3) := by decide +kernel
theorem dX5_carryOut_111 : decode cX5_carryOut 111 = .ok (.iload_n 2, 1) := by decide +kernel
theorem dX5_carryOut_112 : decode cX5_carryOut 112 = .ok (.iload_n 3, 1) := by decide +kernel
theorem dX5_carryOut_113 : decode cX5_carryOut 113 = .ok (.iload 4, 2) := by decide +kernel
theorem dX5_carryOut_115 : decode cX5_carryOut 115 = .ok (.invokevirtual 85, 3) := by decide +kernel
theorem dX5_carryOut_118 : decode cX5_carryOut 118 = .ok (.ireturn, 1) := by decide +kernel
theorem dX5_carryOut_119 : decode cX5_carryOut 119 = .ok (.aload_n 0, 1) := by decide +kernel
theorem dX5_carryOut_120 : decode cX5_carryOut 120 = .ok (.getfield 12, 3) := by decide +kernel
theorem dX5_carryOut_123 : decode cX5_carryOut 123 = .ok (.iload_n 2, 1) := by decide +kernel
theorem dX5_carryOut_124 : decode cX5_carryOut 124 = .ok (.iload_n 3, 1) := by decide +kernel
theorem dX5_carryOut_125 : decode cX5_carryOut 125 = .ok (.invokevirtual 88, 3) := by decide +kernel
theorem dX5_carryOut_128 : decode cX5_carryOut 128 = .ok (.ireturn, 1) := by decide +kernel
theorem dX5_carryOut_129 : decode cX5_carryOut 129 = .ok (.aload_n 0, 1) := by decide +kernel
theorem dX5_carryOut_130 : decode cX5_carryOut 130 = .ok (.getfield 12, 3) := by decide +kernel
theorem dX5_carryOut_133 : decode cX5_carryOut 133 = .ok (.iload_n 2, 1) := by decide +kernel
theorem dX5_carryOut_134 : decode cX5_carryOut 134 = .ok (.invokevirtual 91, 3) := by decide +kernel
theorem dX5_carryOut_137 : decode cX5_carryOut 137 = .ok (.ireturn, 1) := by decide +kernel
theorem dX5_carryOut_138 : decode cX5_carryOut 138 = .ok (.aload_n 0, 1) := by decide +kernel
theorem dX5_carryOut_139 : decode cX5_carryOut 139 = .ok (.iload_n 2, 1) := by decide +kernel
theorem dX5_carryOut_140 : decode cX5_carryOut 140 = .ok (.invokevirtual 94, 3) := by decide +kernel
theorem dX5_carryOut_143 : decode cX5_carryOut 143 = .ok (.ireturn, 1) := by decide +kernel
set_option maxRecDepth 20000 in
theorem ggX5_readByHost_X4_hear : GoodIn wsX5_readByHost wsX4_hear := goodIn_ca (goodIn_r _ [7, 8, 9, 10, 11, 12, 13, 14, 15, 16, 17, 18, 19, 20, 21, 22, 23, 24, 25, 26, 27, 28, 29, 30, 31, 32, 33, 34, 35, 36, 37, 38, 39, 40, 41, 42, 43, 44, 45, 86, 87, 88, 89, 90, 91, 92, 93] (by decide +kernel) (by decide +kernel)) (goodIn_sub (fun _ h => List.mem_cons_of_mem _ (List.mem_append_right _ h)) (by decide +kernel))
set_option maxRecDepth 20000 in
theorem gX5_readByHost_X4_hear : GoodIn wsX5_readByHost (wsV RX5 97 RX4 yX4_hear wsX4_hear) := goodIn_app (goodIn_of _ (by decide +kernel)) ggX5_readByHost_X4_hear
set_option maxRecDepth 20000 in
theorem ggX5_readByHost_X4_phraseCount : GoodIn wsX5_readByHost wsX4_phraseCount := goodIn_ca (goodIn_r _ [49, 50, 51, 52, 6, 53, 8, 54, 55, 56, 57, 10, 58, 59, 60, 61, 62, 63, 64, 65, 66, 67, 86, 87, 88, 89, 90, 91, 92] (by decide +kernel) (by decide +kernel)) (goodIn_sub (fun _ h => List.mem_cons_of_mem _ (List.mem_append_right _ h)) (by decide +kernel))
set_option maxRecDepth 20000 in
theorem gX5_readByHost_X4_phraseCount : GoodIn wsX5_readByHost (wsV RX5 101 RX4 yX4_phraseCount wsX4_phraseCount) := goodIn_app (goodIn_of _ (by decide +kernel)) ggX5_readByHost_X4_phraseCount
set_option maxRecDepth 20000 in
theorem ggX5_readByHost_X6_noteReading : GoodIn wsX5_readByHost wsX6_noteReading := goodIn_ca (goodIn_r _ [71, 22, 72, 73, 74, 16, 75, 18, 19, 20, 21, 76, 77, 78, 79, 80, 81, 82, 83, 93] (by decide +kernel) (by decide +kernel)) (goodIn_sub (fun _ h => List.mem_cons_of_mem _ (List.mem_append_right _ h)) (by decide +kernel))
set_option maxRecDepth 20000 in
theorem gX5_readByHost_X6_noteReading : GoodIn wsX5_readByHost (wsV RX5 104 RX6 yX6_noteReading wsX6_noteReading) := goodIn_app (goodIn_of _ (by decide +kernel)) ggX5_readByHost_X6_noteReading
theorem dX5_readByHost_0 : decode cX5_readByHost 0 = .ok (.aload_n 0, 1) := by decide +kernel
theorem dX5_readByHost_1 : decode cX5_readByHost 1 = .ok (.getfield 21, 3) := by decide +kernel
theorem dX5_readByHost_4 : decode cX5_readByHost 4 = .ok (.aload_n 0, 1) := by decide +kernel
theorem dX5_readByHost_5 : decode cX5_readByHost 5 = .ok (.getfield 12, 3) := by decide +kernel
theorem dX5_readByHost_8 : decode cX5_readByHost 8 = .ok (.iload_n 1, 1) := by decide +kernel
theorem dX5_readByHost_9 : decode cX5_readByHost 9 = .ok (.invokevirtual 97, 3) := by decide +kernel
theorem dX5_readByHost_12 : decode cX5_readByHost 12 = .ok (.aload_n 0, 1) := by decide +kernel
theorem dX5_readByHost_13 : decode cX5_readByHost 13 = .ok (.getfield 21, 3) := by decide +kernel
theorem dX5_readByHost_16 : decode cX5_readByHost 16 = .ok (.invokevirtual 101, 3) := by decide +kernel
theorem dX5_readByHost_19 : decode cX5_readByHost 19 = .ok (.istore_n 2, 1) := by decide +kernel
theorem dX5_readByHost_20 : decode cX5_readByHost 20 = .ok (.aload_n 0, 1) := by decide +kernel
theorem dX5_readByHost_21 : decode cX5_readByHost 21 = .ok (.getfield 12, 3) := by decide +kernel
theorem dX5_readByHost_24 : decode cX5_readByHost 24 = .ok (.iload_n 1, 1) := by decide +kernel
theorem dX5_readByHost_25 : decode cX5_readByHost 25 = .ok (.iload_n 2, 1) := by decide +kernel
theorem dX5_readByHost_26 : decode cX5_readByHost 26 = .ok (.invokevirtual 104, 3) := by decide +kernel
theorem dX5_readByHost_29 : decode cX5_readByHost 29 = .ok (.iload_n 2, 1) := by decide +kernel
theorem dX5_readByHost_30 : decode cX5_readByHost 30 = .ok (.ireturn, 1) := by decide +kernel
set_option maxRecDepth 20000 in
theorem ggX5_judgeNew_X6_napkins : GoodIn wsX5_judgeNew wsX6_napkins := goodIn_ca (goodIn_r _ [6, 7, 13] (by decide +kernel) (by decide +kernel)) (goodIn_sub (fun _ h => List.mem_cons_of_mem _ (List.mem_append_right _ h)) (by decide +kernel))
set_option maxRecDepth 20000 in
theorem gX5_judgeNew_X6_napkins : GoodIn wsX5_judgeNew (wsV RX5 108 RX6 yX6_napkins wsX6_napkins) := goodIn_app (goodIn_of _ (by decide +kernel)) ggX5_judgeNew_X6_napkins
set_option maxRecDepth 20000 in
theorem ggX5_judgeNew_X8_refusedFor : GoodIn wsX5_judgeNew wsX8_refusedFor := goodIn_r _ [10] (by decide +kernel) (by decide +kernel)
set_option maxRecDepth 20000 in
theorem gX5_judgeNew_X8_refusedFor_n111 : GoodIn wsX5_judgeNew (wsX8_refusedFor) := ggX5_judgeNew_X8_refusedFor
theorem dX5_judgeNew_0 : decode cX5_judgeNew 0 = .ok (.iload_n 1, 1) := by decide +kernel
theorem dX5_judgeNew_1 : decode cX5_judgeNew 1 = .ok (.ifCond .lt 8, 3) := by decide +kernel
theorem dX5_judgeNew_4 : decode cX5_judgeNew 4 = .ok (.iload_n 1, 1) := by decide +kernel
theorem dX5_judgeNew_5 : decode cX5_judgeNew 5 = .ok (.iconst 4, 1) := by decide +kernel
theorem dX5_judgeNew_6 : decode cX5_judgeNew 6 = .ok (.if_icmp .lt 6, 3) := by decide +kernel
theorem dX5_judgeNew_9 : decode cX5_judgeNew 9 = .ok (.bipush (-2), 2) := by decide +kernel
theorem dX5_judgeNew_11 : decode cX5_judgeNew 11 = .ok (.ireturn, 1) := by decide +kernel
theorem dX5_judgeNew_12 : decode cX5_judgeNew 12 = .ok (.aload_n 0, 1) := by decide +kernel
theorem dX5_judgeNew_13 : decode cX5_judgeNew 13 = .ok (.getfield 12, 3) := by decide +kernel
theorem dX5_judgeNew_16 : decode cX5_judgeNew 16 = .ok (.invokevirtual 108, 3) := by decide +kernel
theorem dX5_judgeNew_19 : decode cX5_judgeNew 19 = .ok (.bipush 10, 2) := by decide +kernel
theorem dX5_judgeNew_21 : decode cX5_judgeNew 21 = .ok (.if_icmp .ge 7, 3) := by decide +kernel
theorem dX5_judgeNew_24 : decode cX5_judgeNew 24 = .ok (.iconst 0, 1) := by decide +kernel
theorem dX5_judgeNew_25 : decode cX5_judgeNew 25 = .ok (.goto 9, 3) := by decide +kernel
theorem dX5_judgeNew_28 : decode cX5_judgeNew 28 = .ok (.iconst 1, 1) := by decide +kernel
theorem dX5_judgeNew_29 : decode cX5_judgeNew 29 = .ok (.bipush 10, 2) := by decide +kernel
theorem dX5_judgeNew_31 : decode cX5_judgeNew 31 = .ok (.invokestatic 111, 3) := by decide +kernel
theorem dX5_judgeNew_34 : decode cX5_judgeNew 34 = .ok (.ireturn, 1) := by decide +kernel
set_option maxRecDepth 20000 in
theorem ggX5_judgeFold_X6_hasNapkin : GoodIn wsX5_judgeFold wsX6_hasNapkin := goodIn_ca (goodIn_r _ [6, 7, 29] (by decide +kernel) (by decide +kernel)) (goodIn_sub (fun _ h => List.mem_cons_of_mem _ (List.mem_append_right _ h)) (by decide +kernel))
set_option maxRecDepth 20000 in
theorem gX5_judgeFold_X6_hasNapkin : GoodIn wsX5_judgeFold (wsV RX5 114 RX6 yX6_hasNapkin wsX6_hasNapkin) := goodIn_app (goodIn_of _ (by decide +kernel)) ggX5_judgeFold_X6_hasNapkin
set_option maxRecDepth 20000 in
theorem ggX5_judgeFold_X6_foldOf : GoodIn wsX5_judgeFold wsX6_foldOf := goodIn_ca (goodIn_r _ [11, 12, 13, 14, 5, 15, 7, 29] (by decide +kernel) (by decide +kernel)) (goodIn_sub (fun _ h => List.mem_cons_of_mem _ (List.mem_append_right _ h)) (by decide +kernel))
set_option maxRecDepth 20000 in
theorem gX5_judgeFold_X6_foldOf : GoodIn wsX5_judgeFold (wsV RX5 118 RX6 yX6_foldOf wsX6_foldOf) := goodIn_app (goodIn_of _ (by decide +kernel)) ggX5_judgeFold_X6_foldOf
set_option maxRecDepth 20000 in
theorem ggX5_judgeFold_X8_refusedFor : GoodIn wsX5_judgeFold wsX8_refusedFor := goodIn_r _ [18] (by decide +kernel) (by decide +kernel)
set_option maxRecDepth 20000 in
theorem gX5_judgeFold_X8_refusedFor_n111 : GoodIn wsX5_judgeFold (wsX8_refusedFor) := ggX5_judgeFold_X8_refusedFor
set_option maxRecDepth 20000 in
theorem ggX5_judgeFold_X6_creasesOf : GoodIn wsX5_judgeFold wsX6_creasesOf := goodIn_ca (goodIn_r _ [22, 12, 13, 14, 5, 15, 7, 29] (by decide +kernel) (by decide +kernel)) (goodIn_sub (fun _ h => List.mem_cons_of_mem _ (List.mem_append_right _ h)) (by decide +kernel))
set_option maxRecDepth 20000 in
theorem gX5_judgeFold_X6_creasesOf : GoodIn wsX5_judgeFold (wsV RX5 121 RX6 yX6_creasesOf wsX6_creasesOf) := goodIn_app (goodIn_of _ (by decide +kernel)) ggX5_judgeFold_X6_creasesOf
set_option maxRecDepth 20000 in
theorem ggX5_judgeFold_X5_creasesFor : GoodIn wsX5_judgeFold wsX5_creasesFor := goodIn_ca (goodIn_r _ [26] (by decide +kernel) (by decide +kernel)) (goodIn_sub (fun _ h => List.mem_cons_of_mem _ (List.mem_append_right _ h)) (by decide +kernel))
set_option maxRecDepth 20000 in
theorem gX5_judgeFold_X5_creasesFor : GoodIn wsX5_judgeFold (va_wsS RX5 70 yX5_creasesFor wsX5_creasesFor) := goodIn_app (goodIn_of _ (by decide +kernel)) ggX5_judgeFold_X5_creasesFor
theorem dX5_judgeFold_0 : decode cX5_judgeFold 0 = .ok (.aload_n 0, 1) := by decide +kernel
theorem dX5_judgeFold_1 : decode cX5_judgeFold 1 = .ok (.getfield 12, 3) := by decide +kernel
theorem dX5_judgeFold_4 : decode cX5_judgeFold 4 = .ok (.iload_n 1, 1) := by decide +kernel
theorem dX5_judgeFold_5 : decode cX5_judgeFold 5 = .ok (.invokevirtual 114, 3) := by decide +kernel
theorem dX5_judgeFold_8 : decode cX5_judgeFold 8 = .ok (.ifCond .ne 5, 3) := by decide +kernel
theorem dX5_judgeFold_11 : decode cX5_judgeFold 11 = .ok (.iconst (-1), 1) := by decide +kernel
theorem dX5_judgeFold_12 : decode cX5_judgeFold 12 = .ok (.ireturn, 1) := by decide +kernel
theorem dX5_judgeFold_13 : decode cX5_judgeFold 13 = .ok (.iload_n 2, 1) := by decide +kernel
theorem dX5_judgeFold_14 : decode cX5_judgeFold 14 = .ok (.iconst 1, 1) := by decide +kernel
theorem dX5_judgeFold_15 : decode cX5_judgeFold 15 = .ok (.if_icmp .lt 8, 3) := by decide +kernel
theorem dX5_judgeFold_18 : decode cX5_judgeFold 18 = .ok (.iload_n 2, 1) := by decide +kernel
theorem dX5_judgeFold_19 : decode cX5_judgeFold 19 = .ok (.iconst 4, 1) := by decide +kernel
theorem dX5_judgeFold_20 : decode cX5_judgeFold 20 = .ok (.if_icmp .le 6, 3) := by decide +kernel
theorem dX5_judgeFold_23 : decode cX5_judgeFold 23 = .ok (.bipush (-2), 2) := by decide +kernel
theorem dX5_judgeFold_25 : decode cX5_judgeFold 25 = .ok (.ireturn, 1) := by decide +kernel
theorem dX5_judgeFold_26 : decode cX5_judgeFold 26 = .ok (.aload_n 0, 1) := by decide +kernel
theorem dX5_judgeFold_27 : decode cX5_judgeFold 27 = .ok (.getfield 12, 3) := by decide +kernel
theorem dX5_judgeFold_30 : decode cX5_judgeFold 30 = .ok (.iload_n 1, 1) := by decide +kernel
theorem dX5_judgeFold_31 : decode cX5_judgeFold 31 = .ok (.invokevirtual 118, 3) := by decide +kernel
theorem dX5_judgeFold_34 : decode cX5_judgeFold 34 = .ok (.iload_n 2, 1) := by decide +kernel
theorem dX5_judgeFold_35 : decode cX5_judgeFold 35 = .ok (.if_icmp .ne 9, 3) := by decide +kernel
theorem dX5_judgeFold_38 : decode cX5_judgeFold 38 = .ok (.iconst 2, 1) := by decide +kernel
theorem dX5_judgeFold_39 : decode cX5_judgeFold 39 = .ok (.iload_n 2, 1) := by decide +kernel
theorem dX5_judgeFold_40 : decode cX5_judgeFold 40 = .ok (.invokestatic 111, 3) := by decide +kernel
theorem dX5_judgeFold_43 : decode cX5_judgeFold 43 = .ok (.ireturn, 1) := by decide +kernel
theorem dX5_judgeFold_44 : decode cX5_judgeFold 44 = .ok (.aload_n 0, 1) := by decide +kernel
theorem dX5_judgeFold_45 : decode cX5_judgeFold 45 = .ok (.getfield 12, 3) := by decide +kernel
theorem dX5_judgeFold_48 : decode cX5_judgeFold 48 = .ok (.iload_n 1, 1) := by decide +kernel
theorem dX5_judgeFold_49 : decode cX5_judgeFold 49 = .ok (.invokevirtual 121, 3) := by decide +kernel
theorem dX5_judgeFold_52 : decode cX5_judgeFold 52 = .ok (.istore_n 3, 1) := by decide +kernel
theorem dX5_judgeFold_53 : decode cX5_judgeFold 53 = .ok (.iload_n 3, 1) := by decide +kernel
theorem dX5_judgeFold_54 : decode cX5_judgeFold 54 = .ok (.iload_n 2, 1) := by decide +kernel
theorem dX5_judgeFold_55 : decode cX5_judgeFold 55 = .ok (.invokestatic 70, 3) := by decide +kernel
theorem dX5_judgeFold_58 : decode cX5_judgeFold 58 = .ok (.iadd, 1) := by decide +kernel
theorem dX5_judgeFold_59 : decode cX5_judgeFold 59 = .ok (.bipush 12, 2) := by decide +kernel
theorem dX5_judgeFold_61 : decode cX5_judgeFold 61 = .ok (.if_icmp .gt 7, 3) := by decide +kernel
theorem dX5_judgeFold_64 : decode cX5_judgeFold 64 = .ok (.iconst 0, 1) := by decide +kernel
theorem dX5_judgeFold_65 : decode cX5_judgeFold 65 = .ok (.goto 8, 3) := by decide +kernel
theorem dX5_judgeFold_68 : decode cX5_judgeFold 68 = .ok (.iconst 3, 1) := by decide +kernel
theorem dX5_judgeFold_69 : decode cX5_judgeFold 69 = .ok (.iload_n 3, 1) := by decide +kernel
theorem dX5_judgeFold_70 : decode cX5_judgeFold 70 = .ok (.invokestatic 111, 3) := by decide +kernel
theorem dX5_judgeFold_73 : decode cX5_judgeFold 73 = .ok (.ireturn, 1) := by decide +kernel
set_option maxRecDepth 20000 in
theorem ggX5_judgeOpen_X6_hasNapkin : GoodIn wsX5_judgeOpen wsX6_hasNapkin := goodIn_ca (goodIn_r _ [6, 7, 21] (by decide +kernel) (by decide +kernel)) (goodIn_sub (fun _ h => List.mem_cons_of_mem _ (List.mem_append_right _ h)) (by decide +kernel))
set_option maxRecDepth 20000 in
theorem gX5_judgeOpen_X6_hasNapkin : GoodIn wsX5_judgeOpen (wsV RX5 114 RX6 yX6_hasNapkin wsX6_hasNapkin) := goodIn_app (goodIn_of _ (by decide +kernel)) ggX5_judgeOpen_X6_hasNapkin
set_option maxRecDepth 20000 in
theorem ggX5_judgeOpen_X6_foldOf : GoodIn wsX5_judgeOpen wsX6_foldOf := goodIn_ca (goodIn_r _ [11, 12, 13, 14, 5, 15, 7, 21] (by decide +kernel) (by decide +kernel)) (goodIn_sub (fun _ h => List.mem_cons_of_mem _ (List.mem_append_right _ h)) (by decide +kernel))
set_option maxRecDepth 20000 in
theorem gX5_judgeOpen_X6_foldOf : GoodIn wsX5_judgeOpen (wsV RX5 118 RX6 yX6_foldOf wsX6_foldOf) := goodIn_app (goodIn_of _ (by decide +kernel)) ggX5_judgeOpen_X6_foldOf
set_option maxRecDepth 20000 in
theorem ggX5_judgeOpen_X8_refusedFor : GoodIn wsX5_judgeOpen wsX8_refusedFor := goodIn_r _ [18] (by decide +kernel) (by decide +kernel)
set_option maxRecDepth 20000 in
theorem gX5_judgeOpen_X8_refusedFor_n111 : GoodIn wsX5_judgeOpen (wsX8_refusedFor) := ggX5_judgeOpen_X8_refusedFor
theorem dX5_judgeOpen_0 : decode cX5_judgeOpen 0 = .ok (.aload_n 0, 1) := by decide +kernel
theorem dX5_judgeOpen_1 : decode cX5_judgeOpen 1 = .ok (.getfield 12, 3) := by decide +kernel
theorem dX5_judgeOpen_4 : decode cX5_judgeOpen 4 = .ok (.iload_n 1, 1) := by decide +kernel
theorem dX5_judgeOpen_5 : decode cX5_judgeOpen 5 = .ok (.invokevirtual 114, 3) := by decide +kernel
theorem dX5_judgeOpen_8 : decode cX5_judgeOpen 8 = .ok (.ifCond .ne 5, 3) := by decide +kernel
theorem dX5_judgeOpen_11 : decode cX5_judgeOpen 11 = .ok (.iconst (-1), 1) := by decide +kernel
theorem dX5_judgeOpen_12 : decode cX5_judgeOpen 12 = .ok (.ireturn, 1) := by decide +kernel
theorem dX5_judgeOpen_13 : decode cX5_judgeOpen 13 = .ok (.aload_n 0, 1) := by decide +kernel
theorem dX5_judgeOpen_14 : decode cX5_judgeOpen 14 = .ok (.getfield 12, 3) := by decide +kernel
theorem dX5_judgeOpen_17 : decode cX5_judgeOpen 17 = .ok (.iload_n 1, 1) := by decide +kernel
theorem dX5_judgeOpen_18 : decode cX5_judgeOpen 18 = .ok (.invokevirtual 118, 3) := by decide +kernel
theorem dX5_judgeOpen_21 : decode cX5_judgeOpen 21 = .ok (.ifCond .eq 7, 3) := by decide +kernel
theorem dX5_judgeOpen_24 : decode cX5_judgeOpen 24 = .ok (.iconst 0, 1) := by decide +kernel
theorem dX5_judgeOpen_25 : decode cX5_judgeOpen 25 = .ok (.goto 8, 3) := by decide +kernel
theorem dX5_judgeOpen_28 : decode cX5_judgeOpen 28 = .ok (.iconst 2, 1) := by decide +kernel
theorem dX5_judgeOpen_29 : decode cX5_judgeOpen 29 = .ok (.iconst 0, 1) := by decide +kernel
theorem dX5_judgeOpen_30 : decode cX5_judgeOpen 30 = .ok (.invokestatic 111, 3) := by decide +kernel
theorem dX5_judgeOpen_33 : decode cX5_judgeOpen 33 = .ok (.ireturn, 1) := by decide +kernel
set_option maxRecDepth 20000 in
theorem ggX5_judgeLay_X6_hasNapkin : GoodIn wsX5_judgeLay wsX6_hasNapkin := goodIn_ca (goodIn_r _ [6, 7, 31] (by decide +kernel) (by decide +kernel)) (goodIn_sub (fun _ h => List.mem_cons_of_mem _ (List.mem_append_right _ h)) (by decide +kernel))
set_option maxRecDepth 20000 in
theorem gX5_judgeLay_X6_hasNapkin : GoodIn wsX5_judgeLay (wsV RX5 114 RX6 yX6_hasNapkin wsX6_hasNapkin) := goodIn_app (goodIn_of _ (by decide +kernel)) ggX5_judgeLay_X6_hasNapkin
set_option maxRecDepth 20000 in
theorem ggX5_judgeLay_X8_isTable : GoodIn wsX5_judgeLay wsX8_isTable := goodIn_r _ [10] (by decide +kernel) (by decide +kernel)
set_option maxRecDepth 20000 in
theorem gX5_judgeLay_X8_isTable_n124 : GoodIn wsX5_judgeLay (wsX8_isTable) := ggX5_judgeLay_X8_isTable
set_option maxRecDepth 20000 in
theorem ggX5_judgeLay_X6_tableUnder : GoodIn wsX5_judgeLay wsX6_tableUnder := goodIn_ca (goodIn_r _ [14, 15, 16, 17, 5, 18, 7, 31] (by decide +kernel) (by decide +kernel)) (goodIn_sub (fun _ h => List.mem_cons_of_mem _ (List.mem_append_right _ h)) (by decide +kernel))
set_option maxRecDepth 20000 in
theorem gX5_judgeLay_X6_tableUnder : GoodIn wsX5_judgeLay (wsV RX5 127 RX6 yX6_tableUnder wsX6_tableUnder) := goodIn_app (goodIn_of _ (by decide +kernel)) ggX5_judgeLay_X6_tableUnder
set_option maxRecDepth 20000 in
theorem ggX5_judgeLay_X8_refusedFor : GoodIn wsX5_judgeLay wsX8_refusedFor := goodIn_r _ [20] (by decide +kernel) (by decide +kernel)
set_option maxRecDepth 20000 in
theorem gX5_judgeLay_X8_refusedFor_n111 : GoodIn wsX5_judgeLay (wsX8_refusedFor) := ggX5_judgeLay_X8_refusedFor
set_option maxRecDepth 20000 in
theorem ggX5_judgeLay_X6_laidOn : GoodIn wsX5_judgeLay wsX6_laidOn := goodIn_ca (goodIn_r _ [24, 25, 26, 27, 5, 28, 7, 31] (by decide +kernel) (by decide +kernel)) (goodIn_sub (fun _ h => List.mem_cons_of_mem _ (List.mem_append_right _ h)) (by decide +kernel))
set_option maxRecDepth 20000 in
theorem gX5_judgeLay_X6_laidOn : GoodIn wsX5_judgeLay (wsV RX5 130 RX6 yX6_laidOn wsX6_laidOn) := goodIn_app (goodIn_of _ (by decide +kernel)) ggX5_judgeLay_X6_laidOn
theorem dX5_judgeLay_0 : decode cX5_judgeLay 0 = .ok (.aload_n 0, 1) := by decide +kernel
theorem dX5_judgeLay_1 : decode cX5_judgeLay 1 = .ok (.getfield 12, 3) := by decide +kernel
theorem dX5_judgeLay_4 : decode cX5_judgeLay 4 = .ok (.iload_n 1, 1) := by decide +kernel
theorem dX5_judgeLay_5 : decode cX5_judgeLay 5 = .ok (.invokevirtual 114, 3) := by decide +kernel
theorem dX5_judgeLay_8 : decode cX5_judgeLay 8 = .ok (.ifCond .eq 10, 3) := by decide +kernel
theorem dX5_judgeLay_11 : decode cX5_judgeLay 11 = .ok (.iload_n 2, 1) := by decide +kernel
theorem dX5_judgeLay_12 : decode cX5_judgeLay 12 = .ok (.invokestatic 124, 3) := by decide +kernel
theorem dX5_judgeLay_15 : decode cX5_judgeLay 15 = .ok (.ifCond .ne 5, 3) := by decide +kernel
theorem dX5_judgeLay_18 : decode cX5_judgeLay 18 = .ok (.iconst (-1), 1) := by decide +kernel
theorem dX5_judgeLay_19 : decode cX5_judgeLay 19 = .ok (.ireturn, 1) := by decide +kernel
theorem dX5_judgeLay_20 : decode cX5_judgeLay 20 = .ok (.aload_n 0, 1) := by decide +kernel
theorem dX5_judgeLay_21 : decode cX5_judgeLay 21 = .ok (.getfield 12, 3) := by decide +kernel
theorem dX5_judgeLay_24 : decode cX5_judgeLay 24 = .ok (.iload_n 1, 1) := by decide +kernel
theorem dX5_judgeLay_25 : decode cX5_judgeLay 25 = .ok (.invokevirtual 127, 3) := by decide +kernel
theorem dX5_judgeLay_28 : decode cX5_judgeLay 28 = .ok (.iconst (-1), 1) := by decide +kernel
theorem dX5_judgeLay_29 : decode cX5_judgeLay 29 = .ok (.if_icmp .eq 16, 3) := by decide +kernel
theorem dX5_judgeLay_32 : decode cX5_judgeLay 32 = .ok (.iconst 4, 1) := by decide +kernel
theorem dX5_judgeLay_33 : decode cX5_judgeLay 33 = .ok (.aload_n 0, 1) := by decide +kernel
theorem dX5_judgeLay_34 : decode cX5_judgeLay 34 = .ok (.getfield 12, 3) := by decide +kernel
theorem dX5_judgeLay_37 : decode cX5_judgeLay 37 = .ok (.iload_n 1, 1) := by decide +kernel
theorem dX5_judgeLay_38 : decode cX5_judgeLay 38 = .ok (.invokevirtual 127, 3) := by decide +kernel
theorem dX5_judgeLay_41 : decode cX5_judgeLay 41 = .ok (.invokestatic 111, 3) := by decide +kernel
theorem dX5_judgeLay_44 : decode cX5_judgeLay 44 = .ok (.ireturn, 1) := by decide +kernel
theorem dX5_judgeLay_45 : decode cX5_judgeLay 45 = .ok (.aload_n 0, 1) := by decide +kernel
theorem dX5_judgeLay_46 : decode cX5_judgeLay 46 = .ok (.getfield 12, 3) := by decide +kernel
theorem dX5_judgeLay_49 : decode cX5_judgeLay 49 = .ok (.iload_n 2, 1) := by decide +kernel
theorem dX5_judgeLay_50 : decode cX5_judgeLay 50 = .ok (.invokevirtual 130, 3) := by decide +kernel
theorem dX5_judgeLay_53 : decode cX5_judgeLay 53 = .ok (.bipush 6, 2) := by decide +kernel
theorem dX5_judgeLay_55 : decode cX5_judgeLay 55 = .ok (.if_icmp .ge 7, 3) := by decide +kernel
theorem dX5_judgeLay_58 : decode cX5_judgeLay 58 = .ok (.iconst 0, 1) := by decide +kernel
theorem dX5_judgeLay_59 : decode cX5_judgeLay 59 = .ok (.goto 9, 3) := by decide +kernel
theorem dX5_judgeLay_62 : decode cX5_judgeLay 62 = .ok (.iconst 1, 1) := by decide +kernel
theorem dX5_judgeLay_63 : decode cX5_judgeLay 63 = .ok (.bipush 6, 2) := by decide +kernel
theorem dX5_judgeLay_65 : decode cX5_judgeLay 65 = .ok (.invokestatic 111, 3) := by decide +kernel
theorem dX5_judgeLay_68 : decode cX5_judgeLay 68 = .ok (.ireturn, 1) := by decide +kernel
set_option maxRecDepth 20000 in
theorem ggX5_judgeTake_X6_hasNapkin : GoodIn wsX5_judgeTake wsX6_hasNapkin := goodIn_ca (goodIn_r _ [6, 7, 21] (by decide +kernel) (by decide +kernel)) (goodIn_sub (fun _ h => List.mem_cons_of_mem _ (List.mem_append_right _ h)) (by decide +kernel))
set_option maxRecDepth 20000 in
theorem gX5_judgeTake_X6_hasNapkin : GoodIn wsX5_judgeTake (wsV RX5 114 RX6 yX6_hasNapkin wsX6_hasNapkin) := goodIn_app (goodIn_of _ (by decide +kernel)) ggX5_judgeTake_X6_hasNapkin
set_option maxRecDepth 20000 in
theorem ggX5_judgeTake_X6_tableUnder : GoodIn wsX5_judgeTake wsX6_tableUnder := goodIn_ca (goodIn_r _ [11, 12, 13, 14, 5, 15, 7, 21] (by decide +kernel) (by decide +kernel)) (goodIn_sub (fun _ h => List.mem_cons_of_mem _ (List.mem_append_right _ h)) (by decide +kernel))
set_option maxRecDepth 20000 in
theorem gX5_judgeTake_X6_tableUnder : GoodIn wsX5_judgeTake (wsV RX5 127 RX6 yX6_tableUnder wsX6_tableUnder) := goodIn_app (goodIn_of _ (by decide +kernel)) ggX5_judgeTake_X6_tableUnder
set_option maxRecDepth 20000 in
theorem ggX5_judgeTake_X8_refusedFor : GoodIn wsX5_judgeTake wsX8_refusedFor := goodIn_r _ [18] (by decide +kernel) (by decide +kernel)
set_option maxRecDepth 20000 in
theorem gX5_judgeTake_X8_refusedFor_n111 : GoodIn wsX5_judgeTake (wsX8_refusedFor) := ggX5_judgeTake_X8_refusedFor
theorem dX5_judgeTake_0 : decode cX5_judgeTake 0 = .ok (.aload_n 0, 1) := by decide +kernel
theorem dX5_judgeTake_1 : decode cX5_judgeTake 1 = .ok (.getfield 12, 3) := by decide +kernel
theorem dX5_judgeTake_4 : decode cX5_judgeTake 4 = .ok (.iload_n 1, 1) := by decide +kernel
theorem dX5_judgeTake_5 : decode cX5_judgeTake 5 = .ok (.invokevirtual 114, 3) := by decide +kernel
theorem dX5_judgeTake_8 : decode cX5_judgeTake 8 = .ok (.ifCond .ne 5, 3) := by decide +kernel
theorem dX5_judgeTake_11 : decode cX5_judgeTake 11 = .ok (.iconst (-1), 1) := by decide +kernel
theorem dX5_judgeTake_12 : decode cX5_judgeTake 12 = .ok (.ireturn, 1) := by decide +kernel
theorem dX5_judgeTake_13 : decode cX5_judgeTake 13 = .ok (.aload_n 0, 1) := by decide +kernel
theorem dX5_judgeTake_14 : decode cX5_judgeTake 14 = .ok (.getfield 12, 3) := by decide +kernel
theorem dX5_judgeTake_17 : decode cX5_judgeTake 17 = .ok (.iload_n 1, 1) := by decide +kernel
theorem dX5_judgeTake_18 : decode cX5_judgeTake 18 = .ok (.invokevirtual 127, 3) := by decide +kernel
theorem dX5_judgeTake_21 : decode cX5_judgeTake 21 = .ok (.iconst (-1), 1) := by decide +kernel
theorem dX5_judgeTake_22 : decode cX5_judgeTake 22 = .ok (.if_icmp .eq 7, 3) := by decide +kernel
theorem dX5_judgeTake_25 : decode cX5_judgeTake 25 = .ok (.iconst 0, 1) := by decide +kernel
theorem dX5_judgeTake_26 : decode cX5_judgeTake 26 = .ok (.goto 8, 3) := by decide +kernel
theorem dX5_judgeTake_29 : decode cX5_judgeTake 29 = .ok (.iconst 5, 1) := by decide +kernel
theorem dX5_judgeTake_30 : decode cX5_judgeTake 30 = .ok (.iload_n 1, 1) := by decide +kernel
theorem dX5_judgeTake_31 : decode cX5_judgeTake 31 = .ok (.invokestatic 111, 3) := by decide +kernel
theorem dX5_judgeTake_34 : decode cX5_judgeTake 34 = .ok (.ireturn, 1) := by decide +kernel
set_option maxRecDepth 20000 in
theorem ggX5_judgeMove_X8_isTable : GoodIn wsX5_judgeMove wsX8_isTable := goodIn_r _ [4] (by decide +kernel) (by decide +kernel)
set_option maxRecDepth 20000 in
theorem gX5_judgeMove_X8_isTable_n124 : GoodIn wsX5_judgeMove (wsX8_isTable) := ggX5_judgeMove_X8_isTable
set_option maxRecDepth 20000 in
theorem ggX5_judgeMove_X6_hasPlace : GoodIn wsX5_judgeMove wsX6_hasPlace := goodIn_ca (goodIn_r _ [9, 10, 11, 12, 8, 13, 14, 15, 16, 17, 18, 23] (by decide +kernel) (by decide +kernel)) (goodIn_sub (fun _ h => List.mem_cons_of_mem _ (List.mem_append_right _ h)) (by decide +kernel))
set_option maxRecDepth 20000 in
theorem gX5_judgeMove_X6_hasPlace : GoodIn wsX5_judgeMove (wsV RX5 133 RX6 yX6_hasPlace wsX6_hasPlace) := goodIn_app (goodIn_of _ (by decide +kernel)) ggX5_judgeMove_X6_hasPlace
set_option maxRecDepth 20000 in
theorem ggX5_judgeMove_X8_refusedFor : GoodIn wsX5_judgeMove wsX8_refusedFor := goodIn_r _ [20] (by decide +kernel) (by decide +kernel)
set_option maxRecDepth 20000 in
theorem gX5_judgeMove_X8_refusedFor_n111 : GoodIn wsX5_judgeMove (wsX8_refusedFor) := ggX5_judgeMove_X8_refusedFor
theorem dX5_judgeMove_0 : decode cX5_judgeMove 0 = .ok (.iload_n 1, 1) := by decide +kernel
theorem dX5_judgeMove_1 : decode cX5_judgeMove 1 = .ok (.invokestatic 124, 3) := by decide +kernel
theorem dX5_judgeMove_4 : decode cX5_judgeMove 4 = .ok (.ifCond .eq 27, 3) := by decide +kernel
theorem dX5_judgeMove_7 : decode cX5_judgeMove 7 = .ok (.aload_n 0, 1) := by decide +kernel
theorem dX5_judgeMove_8 : decode cX5_judgeMove 8 = .ok (.getfield 12, 3) := by decide +kernel
theorem dX5_judgeMove_11 : decode cX5_judgeMove 11 = .ok (.iload_n 1, 1) := by decide +kernel
theorem dX5_judgeMove_12 : decode cX5_judgeMove 12 = .ok (.iload_n 2, 1) := by decide +kernel
theorem dX5_judgeMove_13 : decode cX5_judgeMove 13 = .ok (.invokevirtual 133, 3) := by decide +kernel
theorem dX5_judgeMove_16 : decode cX5_judgeMove 16 = .ok (.ifCond .eq 15, 3) := by decide +kernel
theorem dX5_judgeMove_19 : decode cX5_judgeMove 19 = .ok (.aload_n 0, 1) := by decide +kernel
theorem dX5_judgeMove_20 : decode cX5_judgeMove 20 = .ok (.getfield 12, 3) := by decide +kernel
theorem dX5_judgeMove_23 : decode cX5_judgeMove 23 = .ok (.iload_n 1, 1) := by decide +kernel
theorem dX5_judgeMove_24 : decode cX5_judgeMove 24 = .ok (.iload_n 3, 1) := by decide +kernel
theorem dX5_judgeMove_25 : decode cX5_judgeMove 25 = .ok (.invokevirtual 133, 3) := by decide +kernel
theorem dX5_judgeMove_28 : decode cX5_judgeMove 28 = .ok (.ifCond .ne 5, 3) := by decide +kernel
theorem dX5_judgeMove_31 : decode cX5_judgeMove 31 = .ok (.iconst (-1), 1) := by decide +kernel
theorem dX5_judgeMove_32 : decode cX5_judgeMove 32 = .ok (.ireturn, 1) := by decide +kernel
theorem dX5_judgeMove_33 : decode cX5_judgeMove 33 = .ok (.iload_n 2, 1) := by decide +kernel
theorem dX5_judgeMove_34 : decode cX5_judgeMove 34 = .ok (.iload_n 3, 1) := by decide +kernel
theorem dX5_judgeMove_35 : decode cX5_judgeMove 35 = .ok (.if_icmp .eq 7, 3) := by decide +kernel
theorem dX5_judgeMove_38 : decode cX5_judgeMove 38 = .ok (.iconst 0, 1) := by decide +kernel
theorem dX5_judgeMove_39 : decode cX5_judgeMove 39 = .ok (.goto 8, 3) := by decide +kernel
theorem dX5_judgeMove_42 : decode cX5_judgeMove 42 = .ok (.iconst 2, 1) := by decide +kernel
theorem dX5_judgeMove_43 : decode cX5_judgeMove 43 = .ok (.iload_n 3, 1) := by decide +kernel
theorem dX5_judgeMove_44 : decode cX5_judgeMove 44 = .ok (.invokestatic 111, 3) := by decide +kernel
theorem dX5_judgeMove_47 : decode cX5_judgeMove 47 = .ok (.ireturn, 1) := by decide +kernel
set_option maxRecDepth 20000 in
theorem ggX5_judgeStain_X6_hasNapkin : GoodIn wsX5_judgeStain wsX6_hasNapkin := goodIn_ca (goodIn_r _ [6, 7, 21] (by decide +kernel) (by decide +kernel)) (goodIn_sub (fun _ h => List.mem_cons_of_mem _ (List.mem_append_right _ h)) (by decide +kernel))
set_option maxRecDepth 20000 in
theorem gX5_judgeStain_X6_hasNapkin : GoodIn wsX5_judgeStain (wsV RX5 114 RX6 yX6_hasNapkin wsX6_hasNapkin) := goodIn_app (goodIn_of _ (by decide +kernel)) ggX5_judgeStain_X6_hasNapkin
set_option maxRecDepth 20000 in
theorem ggX5_judgeStain_X6_stainsOf : GoodIn wsX5_judgeStain wsX6_stainsOf := goodIn_ca (goodIn_r _ [11, 12, 13, 14, 5, 15, 7, 21] (by decide +kernel) (by decide +kernel)) (goodIn_sub (fun _ h => List.mem_cons_of_mem _ (List.mem_append_right _ h)) (by decide +kernel))
set_option maxRecDepth 20000 in
theorem gX5_judgeStain_X6_stainsOf : GoodIn wsX5_judgeStain (wsV RX5 137 RX6 yX6_stainsOf wsX6_stainsOf) := goodIn_app (goodIn_of _ (by decide +kernel)) ggX5_judgeStain_X6_stainsOf
set_option maxRecDepth 20000 in
theorem ggX5_judgeStain_X8_refusedFor : GoodIn wsX5_judgeStain wsX8_refusedFor := goodIn_r _ [18] (by decide +kernel) (by decide +kernel)
set_option maxRecDepth 20000 in
theorem gX5_judgeStain_X8_refusedFor_n111 : GoodIn wsX5_judgeStain (wsX8_refusedFor) := ggX5_judgeStain_X8_refusedFor
theorem dX5_judgeStain_0 : decode cX5_judgeStain 0 = .ok (.aload_n 0, 1) := by decide +kernel
theorem dX5_judgeStain_1 : decode cX5_judgeStain 1 = .ok (.getfield 12, 3) := by decide +kernel
theorem dX5_judgeStain_4 : decode cX5_judgeStain 4 = .ok (.iload_n 1, 1) := by decide +kernel
theorem dX5_judgeStain_5 : decode cX5_judgeStain 5 = .ok (.invokevirtual 114, 3) := by decide +kernel
theorem dX5_judgeStain_8 : decode cX5_judgeStain 8 = .ok (.ifCond .ne 5, 3) := by decide +kernel
theorem dX5_judgeStain_11 : decode cX5_judgeStain 11 = .ok (.iconst (-1), 1) := by decide +kernel
theorem dX5_judgeStain_12 : decode cX5_judgeStain 12 = .ok (.ireturn, 1) := by decide +kernel
theorem dX5_judgeStain_13 : decode cX5_judgeStain 13 = .ok (.iload_n 2, 1) := by decide +kernel
theorem dX5_judgeStain_14 : decode cX5_judgeStain 14 = .ok (.iconst 1, 1) := by decide +kernel
theorem dX5_judgeStain_15 : decode cX5_judgeStain 15 = .ok (.if_icmp .lt 9, 3) := by decide +kernel
theorem dX5_judgeStain_18 : decode cX5_judgeStain 18 = .ok (.iload_n 2, 1) := by decide +kernel
theorem dX5_judgeStain_19 : decode cX5_judgeStain 19 = .ok (.bipush 9, 2) := by decide +kernel
theorem dX5_judgeStain_21 : decode cX5_judgeStain 21 = .ok (.if_icmp .le 6, 3) := by decide +kernel
theorem dX5_judgeStain_24 : decode cX5_judgeStain 24 = .ok (.bipush (-2), 2) := by decide +kernel
theorem dX5_judgeStain_26 : decode cX5_judgeStain 26 = .ok (.ireturn, 1) := by decide +kernel
theorem dX5_judgeStain_27 : decode cX5_judgeStain 27 = .ok (.aload_n 0, 1) := by decide +kernel
theorem dX5_judgeStain_28 : decode cX5_judgeStain 28 = .ok (.getfield 12, 3) := by decide +kernel
theorem dX5_judgeStain_31 : decode cX5_judgeStain 31 = .ok (.iload_n 1, 1) := by decide +kernel
theorem dX5_judgeStain_32 : decode cX5_judgeStain 32 = .ok (.invokevirtual 137, 3) := by decide +kernel
theorem dX5_judgeStain_35 : decode cX5_judgeStain 35 = .ok (.istore_n 3, 1) := by decide +kernel
theorem dX5_judgeStain_36 : decode cX5_judgeStain 36 = .ok (.iload_n 3, 1) := by decide +kernel
theorem dX5_judgeStain_37 : decode cX5_judgeStain 37 = .ok (.iload_n 2, 1) := by decide +kernel
theorem dX5_judgeStain_38 : decode cX5_judgeStain 38 = .ok (.iadd, 1) := by decide +kernel
theorem dX5_judgeStain_39 : decode cX5_judgeStain 39 = .ok (.bipush 9, 2) := by decide +kernel
theorem dX5_judgeStain_41 : decode cX5_judgeStain 41 = .ok (.if_icmp .gt 7, 3) := by decide +kernel
theorem dX5_judgeStain_44 : decode cX5_judgeStain 44 = .ok (.iconst 0, 1) := by decide +kernel
theorem dX5_judgeStain_45 : decode cX5_judgeStain 45 = .ok (.goto 9, 3) := by decide +kernel
theorem dX5_judgeStain_48 : decode cX5_judgeStain 48 = .ok (.bipush 6, 2) := by decide +kernel
theorem dX5_judgeStain_50 : decode cX5_judgeStain 50 = .ok (.iload_n 3, 1) := by decide +kernel
theorem dX5_judgeStain_51 : decode cX5_judgeStain 51 = .ok (.invokestatic 111, 3) := by decide +kernel
theorem dX5_judgeStain_54 : decode cX5_judgeStain 54 = .ok (.ireturn, 1) := by decide +kernel
set_option maxRecDepth 20000 in
theorem ggX5_judgeWash_X6_hasNapkin : GoodIn wsX5_judgeWash wsX6_hasNapkin := goodIn_ca (goodIn_r _ [6, 7, 29] (by decide +kernel) (by decide +kernel)) (goodIn_sub (fun _ h => List.mem_cons_of_mem _ (List.mem_append_right _ h)) (by decide +kernel))
set_option maxRecDepth 20000 in
theorem gX5_judgeWash_X6_hasNapkin : GoodIn wsX5_judgeWash (wsV RX5 114 RX6 yX6_hasNapkin wsX6_hasNapkin) := goodIn_app (goodIn_of _ (by decide +kernel)) ggX5_judgeWash_X6_hasNapkin
set_option maxRecDepth 20000 in
theorem ggX5_judgeWash_X6_tableUnder : GoodIn wsX5_judgeWash wsX6_tableUnder := goodIn_ca (goodIn_r _ [11, 12, 13, 14, 5, 15, 7, 29] (by decide +kernel) (by decide +kernel)) (goodIn_sub (fun _ h => List.mem_cons_of_mem _ (List.mem_append_right _ h)) (by decide +kernel))
set_option maxRecDepth 20000 in
theorem gX5_judgeWash_X6_tableUnder : GoodIn wsX5_judgeWash (wsV RX5 127 RX6 yX6_tableUnder wsX6_tableUnder) := goodIn_app (goodIn_of _ (by decide +kernel)) ggX5_judgeWash_X6_tableUnder
set_option maxRecDepth 20000 in
theorem ggX5_judgeWash_X8_refusedFor : GoodIn wsX5_judgeWash wsX8_refusedFor := goodIn_r _ [18] (by decide +kernel) (by decide +kernel)
set_option maxRecDepth 20000 in
theorem gX5_judgeWash_X8_refusedFor_n111 : GoodIn wsX5_judgeWash (wsX8_refusedFor) := ggX5_judgeWash_X8_refusedFor
set_option maxRecDepth 20000 in
theorem ggX5_judgeWash_X6_stainsOf : GoodIn wsX5_judgeWash wsX6_stainsOf := goodIn_ca (goodIn_r _ [22, 23, 24, 25, 5, 26, 7, 29] (by decide +kernel) (by decide +kernel)) (goodIn_sub (fun _ h => List.mem_cons_of_mem _ (List.mem_append_right _ h)) (by decide +kernel))
set_option maxRecDepth 20000 in
theorem gX5_judgeWash_X6_stainsOf : GoodIn wsX5_judgeWash (wsV RX5 137 RX6 yX6_stainsOf wsX6_stainsOf) := goodIn_app (goodIn_of _ (by decide +kernel)) ggX5_judgeWash_X6_stainsOf
theorem dX5_judgeWash_0 : decode cX5_judgeWash 0 = .ok (.aload_n 0, 1) := by decide +kernel
theorem dX5_judgeWash_1 : decode cX5_judgeWash 1 = .ok (.getfield 12, 3) := by decide +kernel
theorem dX5_judgeWash_4 : decode cX5_judgeWash 4 = .ok (.iload_n 1, 1) := by decide +kernel
theorem dX5_judgeWash_5 : decode cX5_judgeWash 5 = .ok (.invokevirtual 114, 3) := by decide +kernel
theorem dX5_judgeWash_8 : decode cX5_judgeWash 8 = .ok (.ifCond .ne 5, 3) := by decide +kernel
theorem dX5_judgeWash_11 : decode cX5_judgeWash 11 = .ok (.iconst (-1), 1) := by decide +kernel
theorem dX5_judgeWash_12 : decode cX5_judgeWash 12 = .ok (.ireturn, 1) := by decide +kernel
theorem dX5_judgeWash_13 : decode cX5_judgeWash 13 = .ok (.aload_n 0, 1) := by decide +kernel
theorem dX5_judgeWash_14 : decode cX5_judgeWash 14 = .ok (.getfield 12, 3) := by decide +kernel
theorem dX5_judgeWash_17 : decode cX5_judgeWash 17 = .ok (.iload_n 1, 1) := by decide +kernel
theorem dX5_judgeWash_18 : decode cX5_judgeWash 18 = .ok (.invokevirtual 127, 3) := by decide +kernel
theorem dX5_judgeWash_21 : decode cX5_judgeWash 21 = .ok (.iconst (-1), 1) := by decide +kernel
theorem dX5_judgeWash_22 : decode cX5_judgeWash 22 = .ok (.if_icmp .eq 16, 3) := by decide +kernel
theorem dX5_judgeWash_25 : decode cX5_judgeWash 25 = .ok (.iconst 4, 1) := by decide +kernel
theorem dX5_judgeWash_26 : decode cX5_judgeWash 26 = .ok (.aload_n 0, 1) := by decide +kernel
theorem dX5_judgeWash_27 : decode cX5_judgeWash 27 = .ok (.getfield 12, 3) := by decide +kernel
theorem dX5_judgeWash_30 : decode cX5_judgeWash 30 = .ok (.iload_n 1, 1) := by decide +kernel
theorem dX5_judgeWash_31 : decode cX5_judgeWash 31 = .ok (.invokevirtual 127, 3) := by decide +kernel
theorem dX5_judgeWash_34 : decode cX5_judgeWash 34 = .ok (.invokestatic 111, 3) := by decide +kernel
theorem dX5_judgeWash_37 : decode cX5_judgeWash 37 = .ok (.ireturn, 1) := by decide +kernel
theorem dX5_judgeWash_38 : decode cX5_judgeWash 38 = .ok (.aload_n 0, 1) := by decide +kernel
theorem dX5_judgeWash_39 : decode cX5_judgeWash 39 = .ok (.getfield 12, 3) := by decide +kernel
theorem dX5_judgeWash_42 : decode cX5_judgeWash 42 = .ok (.iload_n 1, 1) := by decide +kernel
theorem dX5_judgeWash_43 : decode cX5_judgeWash 43 = .ok (.invokevirtual 137, 3) := by decide +kernel
theorem dX5_judgeWash_46 : decode cX5_judgeWash 46 = .ok (.ifCond .le 7, 3) := by decide +kernel
theorem dX5_judgeWash_49 : decode cX5_judgeWash 49 = .ok (.iconst 0, 1) := by decide +kernel
theorem dX5_judgeWash_50 : decode cX5_judgeWash 50 = .ok (.goto 9, 3) := by decide +kernel
theorem dX5_judgeWash_53 : decode cX5_judgeWash 53 = .ok (.bipush 7, 2) := by decide +kernel
theorem dX5_judgeWash_55 : decode cX5_judgeWash 55 = .ok (.iload_n 1, 1) := by decide +kernel
theorem dX5_judgeWash_56 : decode cX5_judgeWash 56 = .ok (.invokestatic 111, 3) := by decide +kernel
theorem dX5_judgeWash_59 : decode cX5_judgeWash 59 = .ok (.ireturn, 1) := by decide +kernel
set_option maxRecDepth 20000 in
theorem ggX5_judgeRead_X8_isTable : GoodIn wsX5_judgeRead wsX8_isTable := goodIn_r _ [5] (by decide +kernel) (by decide +kernel)
