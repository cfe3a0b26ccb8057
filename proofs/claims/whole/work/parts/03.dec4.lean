theorem dX9_rightly_5 : decode cX9_rightly 5 = .ok (.invokestatic 144, 3) := by decide +kernel
theorem dX9_rightly_8 : decode cX9_rightly 8 = .ok (.ireturn, 1) := by decide +kernel
set_option maxRecDepth 20000 in
theorem ggX9_wrongAt_X9_countOf : GoodIn wsX9_wrongAt wsX9_countOf := goodIn_ca (goodIn_r _ [5, 6, 7, 8, 9, 4, 10, 25, 26, 27, 28, 29, 30, 31, 32, 33, 34, 35, 36, 37, 38, 39, 40, 41, 42, 43, 44] (by decide +kernel) (by decide +kernel)) (goodIn_sub (fun _ h => List.mem_cons_of_mem _ (List.mem_append_right _ h)) (by decide +kernel))
set_option maxRecDepth 20000 in
theorem gX9_wrongAt_X9_countOf : GoodIn wsX9_wrongAt (wsV RX9 132 RX9 yX9_countOf wsX9_countOf) := goodIn_app (goodIn_of _ (by decide +kernel)) ggX9_wrongAt_X9_countOf
set_option maxRecDepth 20000 in
theorem ggX9_wrongAt_X9_foldAt : GoodIn wsX9_wrongAt wsX9_foldAt := goodIn_ca (goodIn_r _ [14, 6, 15, 16, 17, 4, 18, 7, 8, 9, 10, 25, 26, 27, 28, 29, 30, 31, 32, 33, 34, 35, 36, 37, 38, 39, 40, 41, 42, 43, 44] (by decide +kernel) (by decide +kernel)) (goodIn_sub (fun _ h => List.mem_cons_of_mem _ (List.mem_append_right _ h)) (by decide +kernel))
set_option maxRecDepth 20000 in
theorem gX9_wrongAt_X9_foldAt : GoodIn wsX9_wrongAt (wsV RX9 135 RX9 yX9_foldAt wsX9_foldAt) := goodIn_app (goodIn_of _ (by decide +kernel)) ggX9_wrongAt_X9_foldAt
set_option maxRecDepth 20000 in
theorem ggX9_wrongAt_X9_goesOn : GoodIn wsX9_wrongAt wsX9_goesOn := goodIn_r _ [21] (by decide +kernel) (by decide +kernel)
set_option maxRecDepth 20000 in
theorem gX9_wrongAt_X9_goesOn : GoodIn wsX9_wrongAt (va_wsS RX9 138 yX9_goesOn wsX9_goesOn) := goodIn_app (goodIn_of _ (by decide +kernel)) ggX9_wrongAt_X9_goesOn
set_option maxRecDepth 20000 in
theorem ggX9_wrongAt_X9_isEnd : GoodIn wsX9_wrongAt wsX9_isEnd := goodIn_r _ [24] (by decide +kernel) (by decide +kernel)
set_option maxRecDepth 20000 in
theorem gX9_wrongAt_X9_isEnd : GoodIn wsX9_wrongAt (va_wsS RX9 144 yX9_isEnd wsX9_isEnd) := goodIn_app (goodIn_of _ (by decide +kernel)) ggX9_wrongAt_X9_isEnd
theorem dX9_wrongAt_0 : decode cX9_wrongAt 0 = .ok (.iconst 0, 1) := by decide +kernel
theorem dX9_wrongAt_1 : decode cX9_wrongAt 1 = .ok (.istore_n 2, 1) := by decide +kernel
theorem dX9_wrongAt_2 : decode cX9_wrongAt 2 = .ok (.aload_n 0, 1) := by decide +kernel
theorem dX9_wrongAt_3 : decode cX9_wrongAt 3 = .ok (.iload_n 1, 1) := by decide +kernel
theorem dX9_wrongAt_4 : decode cX9_wrongAt 4 = .ok (.iconst 0, 1) := by decide +kernel
theorem dX9_wrongAt_5 : decode cX9_wrongAt 5 = .ok (.invokevirtual 132, 3) := by decide +kernel
theorem dX9_wrongAt_8 : decode cX9_wrongAt 8 = .ok (.istore_n 3, 1) := by decide +kernel
theorem dX9_wrongAt_9 : decode cX9_wrongAt 9 = .ok (.iconst 0, 1) := by decide +kernel
theorem dX9_wrongAt_10 : decode cX9_wrongAt 10 = .ok (.istore 4, 2) := by decide +kernel
theorem dX9_wrongAt_12 : decode cX9_wrongAt 12 = .ok (.iload 4, 2) := by decide +kernel
theorem dX9_wrongAt_14 : decode cX9_wrongAt 14 = .ok (.iload_n 3, 1) := by decide +kernel
theorem dX9_wrongAt_15 : decode cX9_wrongAt 15 = .ok (.if_icmp .ge 29, 3) := by decide +kernel
theorem dX9_wrongAt_18 : decode cX9_wrongAt 18 = .ok (.iload_n 2, 1) := by decide +kernel
theorem dX9_wrongAt_19 : decode cX9_wrongAt 19 = .ok (.aload_n 0, 1) := by decide +kernel
theorem dX9_wrongAt_20 : decode cX9_wrongAt 20 = .ok (.iload_n 1, 1) := by decide +kernel
theorem dX9_wrongAt_21 : decode cX9_wrongAt 21 = .ok (.iload 4, 2) := by decide +kernel
theorem dX9_wrongAt_23 : decode cX9_wrongAt 23 = .ok (.invokevirtual 135, 3) := by decide +kernel
theorem dX9_wrongAt_26 : decode cX9_wrongAt 26 = .ok (.invokestatic 138, 3) := by decide +kernel
theorem dX9_wrongAt_29 : decode cX9_wrongAt 29 = .ok (.istore_n 2, 1) := by decide +kernel
theorem dX9_wrongAt_30 : decode cX9_wrongAt 30 = .ok (.iload_n 2, 1) := by decide +kernel
theorem dX9_wrongAt_31 : decode cX9_wrongAt 31 = .ok (.iconst 4, 1) := by decide +kernel
theorem dX9_wrongAt_32 : decode cX9_wrongAt 32 = .ok (.if_icmp .ne 6, 3) := by decide +kernel
theorem dX9_wrongAt_35 : decode cX9_wrongAt 35 = .ok (.iload 4, 2) := by decide +kernel
theorem dX9_wrongAt_37 : decode cX9_wrongAt 37 = .ok (.ireturn, 1) := by decide +kernel
theorem dX9_wrongAt_38 : decode cX9_wrongAt 38 = .ok (.iinc 4 1, 3) := by decide +kernel
theorem dX9_wrongAt_41 : decode cX9_wrongAt 41 = .ok (.goto (-29), 3) := by decide +kernel
theorem dX9_wrongAt_44 : decode cX9_wrongAt 44 = .ok (.iload_n 2, 1) := by decide +kernel
theorem dX9_wrongAt_45 : decode cX9_wrongAt 45 = .ok (.invokestatic 144, 3) := by decide +kernel
theorem dX9_wrongAt_48 : decode cX9_wrongAt 48 = .ok (.ifCond .eq 7, 3) := by decide +kernel
theorem dX9_wrongAt_51 : decode cX9_wrongAt 51 = .ok (.iconst (-1), 1) := by decide +kernel
theorem dX9_wrongAt_52 : decode cX9_wrongAt 52 = .ok (.goto 4, 3) := by decide +kernel
theorem dX9_wrongAt_55 : decode cX9_wrongAt 55 = .ok (.iload_n 3, 1) := by decide +kernel
theorem dX9_wrongAt_56 : decode cX9_wrongAt 56 = .ok (.ireturn, 1) := by decide +kernel
set_option maxRecDepth 20000 in
theorem ggX9_phrasesOf_X9_rightly : GoodIn wsX9_phrasesOf wsX9_rightly := goodIn_ca (goodIn_r _ [5, 6, 7, 8, 4, 9, 10, 11, 12, 13, 14, 15, 16, 17, 18, 19, 20, 21, 22, 23, 24, 25, 26, 27, 28, 29, 30, 31, 32, 33, 34, 35, 36, 37, 38, 39, 40, 41, 42, 43, 44, 45, 46, 47, 48, 49, 50, 51, 52] (by decide +kernel) (by decide +kernel)) (goodIn_sub (fun _ h => List.mem_cons_of_mem _ (List.mem_append_right _ h)) (by decide +kernel))
set_option maxRecDepth 20000 in
theorem gX9_phrasesOf_X9_rightly : GoodIn wsX9_phrasesOf (wsV RX9 147 RX9 yX9_rightly wsX9_rightly) := goodIn_app (goodIn_of _ (by decide +kernel)) ggX9_phrasesOf_X9_rightly
set_option maxRecDepth 20000 in
theorem ggX9_phrasesOf_X9_countOf : GoodIn wsX9_phrasesOf wsX9_countOf := goodIn_ca (goodIn_r _ [13, 14, 15, 16, 17, 4, 18, 33, 34, 35, 36, 37, 38, 39, 40, 41, 42, 43, 44, 45, 46, 47, 48, 49, 50, 51, 52] (by decide +kernel) (by decide +kernel)) (goodIn_sub (fun _ h => List.mem_cons_of_mem _ (List.mem_append_right _ h)) (by decide +kernel))
set_option maxRecDepth 20000 in
theorem gX9_phrasesOf_X9_countOf : GoodIn wsX9_phrasesOf (wsV RX9 132 RX9 yX9_countOf wsX9_countOf) := goodIn_app (goodIn_of _ (by decide +kernel)) ggX9_phrasesOf_X9_countOf
theorem dX9_phrasesOf_0 : decode cX9_phrasesOf 0 = .ok (.aload_n 0, 1) := by decide +kernel
theorem dX9_phrasesOf_1 : decode cX9_phrasesOf 1 = .ok (.iload_n 1, 1) := by decide +kernel
theorem dX9_phrasesOf_2 : decode cX9_phrasesOf 2 = .ok (.invokevirtual 147, 3) := by decide +kernel
theorem dX9_phrasesOf_5 : decode cX9_phrasesOf 5 = .ok (.ifCond .eq 14, 3) := by decide +kernel
theorem dX9_phrasesOf_8 : decode cX9_phrasesOf 8 = .ok (.aload_n 0, 1) := by decide +kernel
theorem dX9_phrasesOf_9 : decode cX9_phrasesOf 9 = .ok (.iload_n 1, 1) := by decide +kernel
theorem dX9_phrasesOf_10 : decode cX9_phrasesOf 10 = .ok (.iconst 4, 1) := by decide +kernel
theorem dX9_phrasesOf_11 : decode cX9_phrasesOf 11 = .ok (.invokevirtual 132, 3) := by decide +kernel
theorem dX9_phrasesOf_14 : decode cX9_phrasesOf 14 = .ok (.iconst 1, 1) := by decide +kernel
theorem dX9_phrasesOf_15 : decode cX9_phrasesOf 15 = .ok (.iadd, 1) := by decide +kernel
theorem dX9_phrasesOf_16 : decode cX9_phrasesOf 16 = .ok (.goto 4, 3) := by decide +kernel
theorem dX9_phrasesOf_19 : decode cX9_phrasesOf 19 = .ok (.iconst 0, 1) := by decide +kernel
theorem dX9_phrasesOf_20 : decode cX9_phrasesOf 20 = .ok (.ireturn, 1) := by decide +kernel
set_option maxRecDepth 20000 in
theorem ggX9_doubtOf_X9_countOf : GoodIn wsX9_doubtOf wsX9_countOf := goodIn_ca (goodIn_r _ [6, 1, 7, 8, 9, 5, 10, 15, 16, 17, 18, 19, 20, 21, 22, 23, 24, 25, 26, 27, 28, 29, 30, 31, 32, 33, 34] (by decide +kernel) (by decide +kernel)) (goodIn_sub (fun _ h => List.mem_cons_of_mem _ (List.mem_append_right _ h)) (by decide +kernel))
set_option maxRecDepth 20000 in
theorem gX9_doubtOf_X9_countOf : GoodIn wsX9_doubtOf (wsV RX9 132 RX9 yX9_countOf wsX9_countOf) := goodIn_app (goodIn_of _ (by decide +kernel)) ggX9_doubtOf_X9_countOf
set_option maxRecDepth 20000 in
theorem ggX9_doubtOf_X9_saidAt : GoodIn wsX9_doubtOf wsX9_saidAt := goodIn_ca (goodIn_r _ [14, 1, 7, 8, 9, 5, 10, 15, 16, 17, 18, 19, 20, 21, 22, 23, 24, 25, 26, 27, 28, 29, 30, 31, 32, 33, 34] (by decide +kernel) (by decide +kernel)) (goodIn_sub (fun _ h => List.mem_cons_of_mem _ (List.mem_append_right _ h)) (by decide +kernel))
set_option maxRecDepth 20000 in
theorem gX9_doubtOf_X9_saidAt : GoodIn wsX9_doubtOf (wsV RX9 129 RX9 yX9_saidAt wsX9_saidAt) := goodIn_app (goodIn_of _ (by decide +kernel)) ggX9_doubtOf_X9_saidAt
theorem dX9_doubtOf_0 : decode cX9_doubtOf 0 = .ok (.iconst 0, 1) := by decide +kernel
theorem dX9_doubtOf_1 : decode cX9_doubtOf 1 = .ok (.istore_n 2, 1) := by decide +kernel
theorem dX9_doubtOf_2 : decode cX9_doubtOf 2 = .ok (.iconst 0, 1) := by decide +kernel
theorem dX9_doubtOf_3 : decode cX9_doubtOf 3 = .ok (.istore_n 3, 1) := by decide +kernel
theorem dX9_doubtOf_4 : decode cX9_doubtOf 4 = .ok (.iload_n 3, 1) := by decide +kernel
theorem dX9_doubtOf_5 : decode cX9_doubtOf 5 = .ok (.aload_n 0, 1) := by decide +kernel
theorem dX9_doubtOf_6 : decode cX9_doubtOf 6 = .ok (.iload_n 1, 1) := by decide +kernel
theorem dX9_doubtOf_7 : decode cX9_doubtOf 7 = .ok (.iconst 0, 1) := by decide +kernel
theorem dX9_doubtOf_8 : decode cX9_doubtOf 8 = .ok (.invokevirtual 132, 3) := by decide +kernel
theorem dX9_doubtOf_11 : decode cX9_doubtOf 11 = .ok (.if_icmp .ge 26, 3) := by decide +kernel
theorem dX9_doubtOf_14 : decode cX9_doubtOf 14 = .ok (.iload_n 2, 1) := by decide +kernel
theorem dX9_doubtOf_15 : decode cX9_doubtOf 15 = .ok (.aload_n 0, 1) := by decide +kernel
theorem dX9_doubtOf_16 : decode cX9_doubtOf 16 = .ok (.getfield 7, 3) := by decide +kernel
theorem dX9_doubtOf_19 : decode cX9_doubtOf 19 = .ok (.bipush 35, 2) := by decide +kernel
theorem dX9_doubtOf_21 : decode cX9_doubtOf 21 = .ok (.aload_n 0, 1) := by decide +kernel
theorem dX9_doubtOf_22 : decode cX9_doubtOf 22 = .ok (.iload_n 1, 1) := by decide +kernel
theorem dX9_doubtOf_23 : decode cX9_doubtOf 23 = .ok (.iload_n 3, 1) := by decide +kernel
theorem dX9_doubtOf_24 : decode cX9_doubtOf 24 = .ok (.invokevirtual 129, 3) := by decide +kernel
theorem dX9_doubtOf_27 : decode cX9_doubtOf 27 = .ok (.iadd, 1) := by decide +kernel
theorem dX9_doubtOf_28 : decode cX9_doubtOf 28 = .ok (.iaload, 1) := by decide +kernel
theorem dX9_doubtOf_29 : decode cX9_doubtOf 29 = .ok (.iadd, 1) := by decide +kernel
theorem dX9_doubtOf_30 : decode cX9_doubtOf 30 = .ok (.istore_n 2, 1) := by decide +kernel
theorem dX9_doubtOf_31 : decode cX9_doubtOf 31 = .ok (.iinc 3 1, 3) := by decide +kernel
theorem dX9_doubtOf_34 : decode cX9_doubtOf 34 = .ok (.goto (-30), 3) := by decide +kernel
theorem dX9_doubtOf_37 : decode cX9_doubtOf 37 = .ok (.iload_n 2, 1) := by decide +kernel
theorem dX9_doubtOf_38 : decode cX9_doubtOf 38 = .ok (.ireturn, 1) := by decide +kernel
set_option maxRecDepth 20000 in
theorem ggX9_hosts_X9_isTable : GoodIn wsX9_hosts wsX9_isTable := goodIn_r _ [5, 6, 7, 4, 8] (by decide +kernel) (by decide +kernel)
set_option maxRecDepth 20000 in
theorem gX9_hosts_X9_isTable : GoodIn wsX9_hosts (va_wsS RX9 100 yX9_isTable wsX9_isTable) := goodIn_app (goodIn_of _ (by decide +kernel)) ggX9_hosts_X9_isTable
set_option maxRecDepth 20000 in
theorem ggX9_hosts_X9_fails : GoodIn wsX9_hosts wsX9_fails := goodIn_r _ [12, 13, 14, 61, 62, 63, 64, 65, 66, 67, 68, 69, 70, 71, 72, 73, 74, 75, 76, 77, 78, 79, 80] (by decide +kernel) (by decide +kernel)
set_option maxRecDepth 20000 in
theorem gX9_hosts_X9_fails : GoodIn wsX9_hosts (wsV RX9 70 RX9 yX9_fails wsX9_fails) := goodIn_app (goodIn_of _ (by decide +kernel)) ggX9_hosts_X9_fails
set_option maxRecDepth 20000 in
theorem ggX9_hosts_X9_countOf : GoodIn wsX9_hosts wsX9_countOf := goodIn_ca (goodIn_r _ [18, 1, 19, 20, 21, 4, 22, 61, 62, 63, 64, 65, 66, 67, 68, 69, 70, 71, 72, 73, 74, 75, 76, 77, 78, 79, 80] (by decide +kernel) (by decide +kernel)) (goodIn_sub (fun _ h => List.mem_cons_of_mem _ (List.mem_append_right _ h)) (by decide +kernel))
set_option maxRecDepth 20000 in
theorem gX9_hosts_X9_countOf : GoodIn wsX9_hosts (wsV RX9 132 RX9 yX9_countOf wsX9_countOf) := goodIn_app (goodIn_of _ (by decide +kernel)) ggX9_hosts_X9_countOf
set_option maxRecDepth 20000 in
theorem ggX9_hosts_X9_refused : GoodIn wsX9_hosts wsX9_refused := goodIn_r _ [26, 27, 28, 29, 30, 13, 14, 61, 62, 63, 64, 65, 66, 67, 68, 69, 70, 71, 72, 73, 74, 75, 76, 77, 78, 79, 80] (by decide +kernel) (by decide +kernel)
set_option maxRecDepth 20000 in
theorem gX9_hosts_X9_refused : GoodIn wsX9_hosts (wsV RX9 74 RX9 yX9_refused wsX9_refused) := goodIn_app (goodIn_of _ (by decide +kernel)) ggX9_hosts_X9_refused
set_option maxRecDepth 20000 in
theorem ggX9_hosts_X9_phrasesOf : GoodIn wsX9_hosts wsX9_phrasesOf := goodIn_ca (goodIn_r _ [34, 35, 36, 37, 4, 38, 39, 40, 41, 42, 15, 16, 17, 18, 1, 19, 20, 21, 22, 43, 44, 45, 46, 47, 48, 49, 50, 51, 52, 53, 54, 55, 56, 61, 62, 63, 64, 65, 66, 67, 68, 69, 70, 71, 72, 73, 74, 75, 76, 77, 78, 79, 80] (by decide +kernel) (by decide +kernel)) (goodIn_sub (fun _ h => List.mem_cons_of_mem _ (List.mem_append_right _ h)) (by decide +kernel))
set_option maxRecDepth 20000 in
theorem gX9_hosts_X9_phrasesOf : GoodIn wsX9_hosts (wsV RX9 150 RX9 yX9_phrasesOf wsX9_phrasesOf) := goodIn_app (goodIn_of _ (by decide +kernel)) ggX9_hosts_X9_phrasesOf
set_option maxRecDepth 20000 in
theorem ggX9_hosts_X9_done : GoodIn wsX9_hosts wsX9_done := goodIn_r _ [60, 13, 61, 62, 63, 64, 65, 66, 67, 68, 69, 70, 71, 72, 73, 74, 75, 76, 77, 78, 79, 80] (by decide +kernel) (by decide +kernel)
set_option maxRecDepth 20000 in
theorem gX9_hosts_X9_done : GoodIn wsX9_hosts (wsV RX9 78 RX9 yX9_done wsX9_done) := goodIn_app (goodIn_of _ (by decide +kernel)) ggX9_hosts_X9_done
theorem dX9_hosts_0 : decode cX9_hosts 0 = .ok (.iload_n 1, 1) := by decide +kernel
theorem dX9_hosts_1 : decode cX9_hosts 1 = .ok (.invokestatic 100, 3) := by decide +kernel
theorem dX9_hosts_4 : decode cX9_hosts 4 = .ok (.ifCond .ne 9, 3) := by decide +kernel
theorem dX9_hosts_7 : decode cX9_hosts 7 = .ok (.aload_n 0, 1) := by decide +kernel
theorem dX9_hosts_8 : decode cX9_hosts 8 = .ok (.iconst 1, 1) := by decide +kernel
theorem dX9_hosts_9 : decode cX9_hosts 9 = .ok (.invokevirtual 70, 3) := by decide +kernel
theorem dX9_hosts_12 : decode cX9_hosts 12 = .ok (.ireturn, 1) := by decide +kernel
theorem dX9_hosts_13 : decode cX9_hosts 13 = .ok (.aload_n 0, 1) := by decide +kernel
theorem dX9_hosts_14 : decode cX9_hosts 14 = .ok (.iload_n 1, 1) := by decide +kernel
theorem dX9_hosts_15 : decode cX9_hosts 15 = .ok (.iconst 0, 1) := by decide +kernel
theorem dX9_hosts_16 : decode cX9_hosts 16 = .ok (.invokevirtual 132, 3) := by decide +kernel
theorem dX9_hosts_19 : decode cX9_hosts 19 = .ok (.ifCond .ne 20, 3) := by decide +kernel
theorem dX9_hosts_22 : decode cX9_hosts 22 = .ok (.aload_n 0, 1) := by decide +kernel
theorem dX9_hosts_23 : decode cX9_hosts 23 = .ok (.bipush 8, 2) := by decide +kernel
theorem dX9_hosts_25 : decode cX9_hosts 25 = .ok (.aload_n 0, 1) := by decide +kernel
theorem dX9_hosts_26 : decode cX9_hosts 26 = .ok (.getfield 7, 3) := by decide +kernel
theorem dX9_hosts_29 : decode cX9_hosts 29 = .ok (.bipush 55, 2) := by decide +kernel
theorem dX9_hosts_31 : decode cX9_hosts 31 = .ok (.iload_n 1, 1) := by decide +kernel
theorem dX9_hosts_32 : decode cX9_hosts 32 = .ok (.iadd, 1) := by decide +kernel
theorem dX9_hosts_33 : decode cX9_hosts 33 = .ok (.iaload, 1) := by decide +kernel
theorem dX9_hosts_34 : decode cX9_hosts 34 = .ok (.iconst 2, 1) := by decide +kernel
theorem dX9_hosts_35 : decode cX9_hosts 35 = .ok (.invokevirtual 74, 3) := by decide +kernel
theorem dX9_hosts_38 : decode cX9_hosts 38 = .ok (.ireturn, 1) := by decide +kernel
theorem dX9_hosts_39 : decode cX9_hosts 39 = .ok (.aload_n 0, 1) := by decide +kernel
theorem dX9_hosts_40 : decode cX9_hosts 40 = .ok (.iload_n 1, 1) := by decide +kernel
theorem dX9_hosts_41 : decode cX9_hosts 41 = .ok (.invokevirtual 150, 3) := by decide +kernel
theorem dX9_hosts_44 : decode cX9_hosts 44 = .ok (.istore_n 2, 1) := by decide +kernel
theorem dX9_hosts_45 : decode cX9_hosts 45 = .ok (.aload_n 0, 1) := by decide +kernel
theorem dX9_hosts_46 : decode cX9_hosts 46 = .ok (.getfield 7, 3) := by decide +kernel
theorem dX9_hosts_49 : decode cX9_hosts 49 = .ok (.bipush 58, 2) := by decide +kernel
theorem dX9_hosts_51 : decode cX9_hosts 51 = .ok (.iload_n 1, 1) := by decide +kernel
theorem dX9_hosts_52 : decode cX9_hosts 52 = .ok (.iadd, 1) := by decide +kernel
theorem dX9_hosts_53 : decode cX9_hosts 53 = .ok (.dup2, 1) := by decide +kernel
theorem dX9_hosts_54 : decode cX9_hosts 54 = .ok (.iaload, 1) := by decide +kernel
theorem dX9_hosts_55 : decode cX9_hosts 55 = .ok (.iconst 1, 1) := by decide +kernel
theorem dX9_hosts_56 : decode cX9_hosts 56 = .ok (.iadd, 1) := by decide +kernel
theorem dX9_hosts_57 : decode cX9_hosts 57 = .ok (.iastore, 1) := by decide +kernel
theorem dX9_hosts_58 : decode cX9_hosts 58 = .ok (.aload_n 0, 1) := by decide +kernel
theorem dX9_hosts_59 : decode cX9_hosts 59 = .ok (.getfield 7, 3) := by decide +kernel
theorem dX9_hosts_62 : decode cX9_hosts 62 = .ok (.iconst 1, 1) := by decide +kernel
theorem dX9_hosts_63 : decode cX9_hosts 63 = .ok (.dup2, 1) := by decide +kernel
theorem dX9_hosts_64 : decode cX9_hosts 64 = .ok (.iaload, 1) := by decide +kernel
theorem dX9_hosts_65 : decode cX9_hosts 65 = .ok (.iload_n 2, 1) := by decide +kernel
theorem dX9_hosts_66 : decode cX9_hosts 66 = .ok (.iadd, 1) := by decide +kernel
theorem dX9_hosts_67 : decode cX9_hosts 67 = .ok (.iastore, 1) := by decide +kernel
theorem dX9_hosts_68 : decode cX9_hosts 68 = .ok (.aload_n 0, 1) := by decide +kernel
theorem dX9_hosts_69 : decode cX9_hosts 69 = .ok (.getfield 7, 3) := by decide +kernel
theorem dX9_hosts_72 : decode cX9_hosts 72 = .ok (.iconst 2, 1) := by decide +kernel
theorem dX9_hosts_73 : decode cX9_hosts 73 = .ok (.dup2, 1) := by decide +kernel
theorem dX9_hosts_74 : decode cX9_hosts 74 = .ok (.iaload, 1) := by decide +kernel
theorem dX9_hosts_75 : decode cX9_hosts 75 = .ok (.iload_n 2, 1) := by decide +kernel
theorem dX9_hosts_76 : decode cX9_hosts 76 = .ok (.ifCond .ne 7, 3) := by decide +kernel
theorem dX9_hosts_79 : decode cX9_hosts 79 = .ok (.iconst 1, 1) := by decide +kernel
theorem dX9_hosts_80 : decode cX9_hosts 80 = .ok (.goto 4, 3) := by decide +kernel
theorem dX9_hosts_83 : decode cX9_hosts 83 = .ok (.iconst 0, 1) := by decide +kernel
theorem dX9_hosts_84 : decode cX9_hosts 84 = .ok (.iadd, 1) := by decide +kernel
theorem dX9_hosts_85 : decode cX9_hosts 85 = .ok (.iastore, 1) := by decide +kernel
theorem dX9_hosts_86 : decode cX9_hosts 86 = .ok (.aload_n 0, 1) := by decide +kernel
theorem dX9_hosts_87 : decode cX9_hosts 87 = .ok (.getfield 7, 3) := by decide +kernel
theorem dX9_hosts_90 : decode cX9_hosts 90 = .ok (.bipush 61, 2) := by decide +kernel
theorem dX9_hosts_92 : decode cX9_hosts 92 = .ok (.iload_n 1, 1) := by decide +kernel
theorem dX9_hosts_93 : decode cX9_hosts 93 = .ok (.iadd, 1) := by decide +kernel
theorem dX9_hosts_94 : decode cX9_hosts 94 = .ok (.dup2, 1) := by decide +kernel
theorem dX9_hosts_95 : decode cX9_hosts 95 = .ok (.iaload, 1) := by decide +kernel
theorem dX9_hosts_96 : decode cX9_hosts 96 = .ok (.iload_n 2, 1) := by decide +kernel
theorem dX9_hosts_97 : decode cX9_hosts 97 = .ok (.ifCond .ne 7, 3) := by decide +kernel
theorem dX9_hosts_100 : decode cX9_hosts 100 = .ok (.iconst 1, 1) := by decide +kernel
theorem dX9_hosts_101 : decode cX9_hosts 101 = .ok (.goto 4, 3) := by decide +kernel
theorem dX9_hosts_104 : decode cX9_hosts 104 = .ok (.iconst 0, 1) := by decide +kernel
theorem dX9_hosts_105 : decode cX9_hosts 105 = .ok (.iadd, 1) := by decide +kernel
theorem dX9_hosts_106 : decode cX9_hosts 106 = .ok (.iastore, 1) := by decide +kernel
theorem dX9_hosts_107 : decode cX9_hosts 107 = .ok (.aload_n 0, 1) := by decide +kernel
theorem dX9_hosts_108 : decode cX9_hosts 108 = .ok (.iload_n 2, 1) := by decide +kernel
theorem dX9_hosts_109 : decode cX9_hosts 109 = .ok (.invokevirtual 78, 3) := by decide +kernel
theorem dX9_hosts_112 : decode cX9_hosts 112 = .ok (.ireturn, 1) := by decide +kernel
set_option maxRecDepth 20000 in
theorem ggX9_host_X9_looksBack : GoodIn wsX9_host wsX9_looksBack := goodIn_ca (goodIn_r _ [5, 6, 7, 8, 9, 4, 10, 79, 80, 81, 82, 83, 84, 85, 86, 87, 88, 89, 90, 91, 92, 93, 94, 95, 96, 97, 98] (by decide +kernel) (by decide +kernel)) (goodIn_sub (fun _ h => List.mem_cons_of_mem _ (List.mem_append_right _ h)) (by decide +kernel))
set_option maxRecDepth 20000 in
theorem gX9_host_X9_looksBack : GoodIn wsX9_host (wsV RX9 81 RX9 yX9_looksBack wsX9_looksBack) := goodIn_app (goodIn_of _ (by decide +kernel)) ggX9_host_X9_looksBack
set_option maxRecDepth 20000 in
theorem ggX9_host_X9_hosts : GoodIn wsX9_host wsX9_hosts := goodIn_ca (goodIn_r _ [14, 6, 15, 16, 4, 17, 18, 19, 20, 21, 22, 23, 24, 25, 26, 27, 28, 29, 30, 31, 32, 33, 34, 35, 36, 37, 38, 39, 40, 41, 42, 43, 44, 45, 46, 47, 48, 49, 50, 51, 52, 53, 54, 55, 56, 57, 58, 59, 60, 61, 62, 63, 64, 65, 66, 67, 68, 69, 70, 71, 72, 79, 80, 81, 82, 83, 84, 85, 86, 87, 88, 89, 90, 91, 92, 93, 94, 95, 96, 97, 98] (by decide +kernel) (by decide +kernel)) (goodIn_sub (fun _ h => List.mem_cons_of_mem _ (List.mem_append_right _ h)) (by decide +kernel))
set_option maxRecDepth 20000 in
theorem gX9_host_X9_hosts : GoodIn wsX9_host (wsV RX9 153 RX9 yX9_hosts wsX9_hosts) := goodIn_app (goodIn_of _ (by decide +kernel)) ggX9_host_X9_hosts
set_option maxRecDepth 20000 in
theorem ggX9_host_X9_kept : GoodIn wsX9_host wsX9_kept := goodIn_ca (goodIn_r _ [76, 25, 7, 6, 77, 78, 8, 9, 4, 10, 79, 80, 81, 82, 83, 84, 85, 86, 87, 88, 89, 90, 91, 92, 93, 94, 95, 96, 97, 98] (by decide +kernel) (by decide +kernel)) (goodIn_sub (fun _ h => List.mem_cons_of_mem _ (List.mem_append_right _ h)) (by decide +kernel))
set_option maxRecDepth 20000 in
theorem gX9_host_X9_kept : GoodIn wsX9_host (wsV RX9 87 RX9 yX9_kept wsX9_kept) := goodIn_app (goodIn_of _ (by decide +kernel)) ggX9_host_X9_kept
theorem dX9_host_0 : decode cX9_host 0 = .ok (.aload_n 0, 1) := by decide +kernel
theorem dX9_host_1 : decode cX9_host 1 = .ok (.invokevirtual 81, 3) := by decide +kernel
theorem dX9_host_4 : decode cX9_host 4 = .ok (.aload_n 0, 1) := by decide +kernel
theorem dX9_host_5 : decode cX9_host 5 = .ok (.aload_n 0, 1) := by decide +kernel
theorem dX9_host_6 : decode cX9_host 6 = .ok (.iload_n 1, 1) := by decide +kernel
theorem dX9_host_7 : decode cX9_host 7 = .ok (.invokevirtual 153, 3) := by decide +kernel
theorem dX9_host_10 : decode cX9_host 10 = .ok (.invokevirtual 87, 3) := by decide +kernel
theorem dX9_host_13 : decode cX9_host 13 = .ok (.ireturn, 1) := by decide +kernel
set_option maxRecDepth 20000 in
theorem ggX9_napkinOf_X9_isNapkin : GoodIn wsX9_napkinOf wsX9_isNapkin := goodIn_ca (goodIn_r _ [6, 1, 7, 8, 5, 9, 28, 29, 30, 31, 32, 33, 34, 35, 36, 37, 38, 39, 40, 41, 42, 43, 44, 45, 46, 47] (by decide +kernel) (by decide +kernel)) (goodIn_sub (fun _ h => List.mem_cons_of_mem _ (List.mem_append_right _ h)) (by decide +kernel))
set_option maxRecDepth 20000 in
theorem gX9_napkinOf_X9_isNapkin : GoodIn wsX9_napkinOf (wsV RX9 90 RX9 yX9_isNapkin wsX9_isNapkin) := goodIn_app (goodIn_of _ (by decide +kernel)) ggX9_napkinOf_X9_isNapkin
set_option maxRecDepth 20000 in
theorem ggX9_napkinOf_X9_fails : GoodIn wsX9_napkinOf wsX9_fails := goodIn_r _ [13, 14, 15, 28, 29, 30, 31, 32, 33, 34, 35, 36, 37, 38, 39, 40, 41, 42, 43, 44, 45, 46, 47] (by decide +kernel) (by decide +kernel)
set_option maxRecDepth 20000 in
theorem gX9_napkinOf_X9_fails : GoodIn wsX9_napkinOf (wsV RX9 70 RX9 yX9_fails wsX9_fails) := goodIn_app (goodIn_of _ (by decide +kernel)) ggX9_napkinOf_X9_fails
set_option maxRecDepth 20000 in
theorem ggX9_napkinOf_X9_seatOf : GoodIn wsX9_napkinOf wsX9_seatOf := goodIn_ca (goodIn_r _ [19, 1, 20, 21, 22, 5, 23, 28, 29, 30, 31, 32, 33, 34, 35, 36, 37, 38, 39, 40, 41, 42, 43, 44, 45, 46, 47] (by decide +kernel) (by decide +kernel)) (goodIn_sub (fun _ h => List.mem_cons_of_mem _ (List.mem_append_right _ h)) (by decide +kernel))
set_option maxRecDepth 20000 in
theorem gX9_napkinOf_X9_seatOf : GoodIn wsX9_napkinOf (wsV RX9 103 RX9 yX9_seatOf wsX9_seatOf) := goodIn_app (goodIn_of _ (by decide +kernel)) ggX9_napkinOf_X9_seatOf
set_option maxRecDepth 20000 in
theorem ggX9_napkinOf_X9_done : GoodIn wsX9_napkinOf wsX9_done := goodIn_r _ [27, 14, 28, 29, 30, 31, 32, 33, 34, 35, 36, 37, 38, 39, 40, 41, 42, 43, 44, 45, 46, 47] (by decide +kernel) (by decide +kernel)
set_option maxRecDepth 20000 in
theorem gX9_napkinOf_X9_done : GoodIn wsX9_napkinOf (wsV RX9 78 RX9 yX9_done wsX9_done) := goodIn_app (goodIn_of _ (by decide +kernel)) ggX9_napkinOf_X9_done
theorem dX9_napkinOf_0 : decode cX9_napkinOf 0 = .ok (.aload_n 0, 1) := by decide +kernel
theorem dX9_napkinOf_1 : decode cX9_napkinOf 1 = .ok (.iload_n 1, 1) := by decide +kernel
theorem dX9_napkinOf_2 : decode cX9_napkinOf 2 = .ok (.invokevirtual 90, 3) := by decide +kernel
theorem dX9_napkinOf_5 : decode cX9_napkinOf 5 = .ok (.ifCond .ne 9, 3) := by decide +kernel
theorem dX9_napkinOf_8 : decode cX9_napkinOf 8 = .ok (.aload_n 0, 1) := by decide +kernel
theorem dX9_napkinOf_9 : decode cX9_napkinOf 9 = .ok (.iconst 1, 1) := by decide +kernel
theorem dX9_napkinOf_10 : decode cX9_napkinOf 10 = .ok (.invokevirtual 70, 3) := by decide +kernel
theorem dX9_napkinOf_13 : decode cX9_napkinOf 13 = .ok (.ireturn, 1) := by decide +kernel
theorem dX9_napkinOf_14 : decode cX9_napkinOf 14 = .ok (.aload_n 0, 1) := by decide +kernel
theorem dX9_napkinOf_15 : decode cX9_napkinOf 15 = .ok (.iload_n 1, 1) := by decide +kernel
theorem dX9_napkinOf_16 : decode cX9_napkinOf 16 = .ok (.invokevirtual 103, 3) := by decide +kernel
theorem dX9_napkinOf_19 : decode cX9_napkinOf 19 = .ok (.istore_n 3, 1) := by decide +kernel
theorem dX9_napkinOf_20 : decode cX9_napkinOf 20 = .ok (.iload_n 2, 1) := by decide +kernel
theorem dX9_napkinOf_21 : decode cX9_napkinOf 21 = .ok (.tableswitch 148 0 6 #[43, 56, 70, 84, 98, 116, 134], 43) := by decide +kernel
theorem dX9_napkinOf_64 : decode cX9_napkinOf 64 = .ok (.aload_n 0, 1) := by decide +kernel
theorem dX9_napkinOf_65 : decode cX9_napkinOf 65 = .ok (.aload_n 0, 1) := by decide +kernel
theorem dX9_napkinOf_66 : decode cX9_napkinOf 66 = .ok (.getfield 7, 3) := by decide +kernel
theorem dX9_napkinOf_69 : decode cX9_napkinOf 69 = .ok (.iconst 5, 1) := by decide +kernel
theorem dX9_napkinOf_70 : decode cX9_napkinOf 70 = .ok (.iload_n 1, 1) := by decide +kernel
theorem dX9_napkinOf_71 : decode cX9_napkinOf 71 = .ok (.iadd, 1) := by decide +kernel
theorem dX9_napkinOf_72 : decode cX9_napkinOf 72 = .ok (.iaload, 1) := by decide +kernel
theorem dX9_napkinOf_73 : decode cX9_napkinOf 73 = .ok (.invokevirtual 78, 3) := by decide +kernel
theorem dX9_napkinOf_76 : decode cX9_napkinOf 76 = .ok (.ireturn, 1) := by decide +kernel
theorem dX9_napkinOf_77 : decode cX9_napkinOf 77 = .ok (.aload_n 0, 1) := by decide +kernel
theorem dX9_napkinOf_78 : decode cX9_napkinOf 78 = .ok (.aload_n 0, 1) := by decide +kernel
theorem dX9_napkinOf_79 : decode cX9_napkinOf 79 = .ok (.getfield 7, 3) := by decide +kernel
theorem dX9_napkinOf_82 : decode cX9_napkinOf 82 = .ok (.bipush 15, 2) := by decide +kernel
theorem dX9_napkinOf_84 : decode cX9_napkinOf 84 = .ok (.iload_n 1, 1) := by decide +kernel
theorem dX9_napkinOf_85 : decode cX9_napkinOf 85 = .ok (.iadd, 1) := by decide +kernel
theorem dX9_napkinOf_86 : decode cX9_napkinOf 86 = .ok (.iaload, 1) := by decide +kernel
theorem dX9_napkinOf_87 : decode cX9_napkinOf 87 = .ok (.invokevirtual 78, 3) := by decide +kernel
theorem dX9_napkinOf_90 : decode cX9_napkinOf 90 = .ok (.ireturn, 1) := by decide +kernel
theorem dX9_napkinOf_91 : decode cX9_napkinOf 91 = .ok (.aload_n 0, 1) := by decide +kernel
theorem dX9_napkinOf_92 : decode cX9_napkinOf 92 = .ok (.aload_n 0, 1) := by decide +kernel
theorem dX9_napkinOf_93 : decode cX9_napkinOf 93 = .ok (.getfield 7, 3) := by decide +kernel
theorem dX9_napkinOf_96 : decode cX9_napkinOf 96 = .ok (.bipush 25, 2) := by decide +kernel
theorem dX9_napkinOf_98 : decode cX9_napkinOf 98 = .ok (.iload_n 1, 1) := by decide +kernel
theorem dX9_napkinOf_99 : decode cX9_napkinOf 99 = .ok (.iadd, 1) := by decide +kernel
theorem dX9_napkinOf_100 : decode cX9_napkinOf 100 = .ok (.iaload, 1) := by decide +kernel
theorem dX9_napkinOf_101 : decode cX9_napkinOf 101 = .ok (.invokevirtual 78, 3) := by decide +kernel
theorem dX9_napkinOf_104 : decode cX9_napkinOf 104 = .ok (.ireturn, 1) := by decide +kernel
theorem dX9_napkinOf_105 : decode cX9_napkinOf 105 = .ok (.aload_n 0, 1) := by decide +kernel
theorem dX9_napkinOf_106 : decode cX9_napkinOf 106 = .ok (.aload_n 0, 1) := by decide +kernel
theorem dX9_napkinOf_107 : decode cX9_napkinOf 107 = .ok (.getfield 7, 3) := by decide +kernel
theorem dX9_napkinOf_110 : decode cX9_napkinOf 110 = .ok (.bipush 35, 2) := by decide +kernel
theorem dX9_napkinOf_112 : decode cX9_napkinOf 112 = .ok (.iload_n 1, 1) := by decide +kernel
theorem dX9_napkinOf_113 : decode cX9_napkinOf 113 = .ok (.iadd, 1) := by decide +kernel
theorem dX9_napkinOf_114 : decode cX9_napkinOf 114 = .ok (.iaload, 1) := by decide +kernel
theorem dX9_napkinOf_115 : decode cX9_napkinOf 115 = .ok (.invokevirtual 78, 3) := by decide +kernel
theorem dX9_napkinOf_118 : decode cX9_napkinOf 118 = .ok (.ireturn, 1) := by decide +kernel
theorem dX9_napkinOf_119 : decode cX9_napkinOf 119 = .ok (.aload_n 0, 1) := by decide +kernel
theorem dX9_napkinOf_120 : decode cX9_napkinOf 120 = .ok (.iload_n 3, 1) := by decide +kernel
theorem dX9_napkinOf_121 : decode cX9_napkinOf 121 = .ok (.iconst (-1), 1) := by decide +kernel
theorem dX9_napkinOf_122 : decode cX9_napkinOf 122 = .ok (.if_icmp .ne 7, 3) := by decide +kernel
theorem dX9_napkinOf_125 : decode cX9_napkinOf 125 = .ok (.iconst (-1), 1) := by decide +kernel
theorem dX9_napkinOf_126 : decode cX9_napkinOf 126 = .ok (.goto 7, 3) := by decide +kernel
theorem dX9_napkinOf_129 : decode cX9_napkinOf 129 = .ok (.iload_n 3, 1) := by decide +kernel
theorem dX9_napkinOf_130 : decode cX9_napkinOf 130 = .ok (.bipush 10, 2) := by decide +kernel
theorem dX9_napkinOf_132 : decode cX9_napkinOf 132 = .ok (.idiv, 1) := by decide +kernel
theorem dX9_napkinOf_133 : decode cX9_napkinOf 133 = .ok (.invokevirtual 78, 3) := by decide +kernel
theorem dX9_napkinOf_136 : decode cX9_napkinOf 136 = .ok (.ireturn, 1) := by decide +kernel
theorem dX9_napkinOf_137 : decode cX9_napkinOf 137 = .ok (.aload_n 0, 1) := by decide +kernel
theorem dX9_napkinOf_138 : decode cX9_napkinOf 138 = .ok (.iload_n 3, 1) := by decide +kernel
theorem dX9_napkinOf_139 : decode cX9_napkinOf 139 = .ok (.iconst (-1), 1) := by decide +kernel
theorem dX9_napkinOf_140 : decode cX9_napkinOf 140 = .ok (.if_icmp .ne 7, 3) := by decide +kernel
theorem dX9_napkinOf_143 : decode cX9_napkinOf 143 = .ok (.iconst (-1), 1) := by decide +kernel
theorem dX9_napkinOf_144 : decode cX9_napkinOf 144 = .ok (.goto 7, 3) := by decide +kernel
theorem dX9_napkinOf_147 : decode cX9_napkinOf 147 = .ok (.iload_n 3, 1) := by decide +kernel
theorem dX9_napkinOf_148 : decode cX9_napkinOf 148 = .ok (.bipush 10, 2) := by decide +kernel
theorem dX9_napkinOf_150 : decode cX9_napkinOf 150 = .ok (.irem, 1) := by decide +kernel
theorem dX9_napkinOf_151 : decode cX9_napkinOf 151 = .ok (.invokevirtual 78, 3) := by decide +kernel
theorem dX9_napkinOf_154 : decode cX9_napkinOf 154 = .ok (.ireturn, 1) := by decide +kernel
theorem dX9_napkinOf_155 : decode cX9_napkinOf 155 = .ok (.aload_n 0, 1) := by decide +kernel
theorem dX9_napkinOf_156 : decode cX9_napkinOf 156 = .ok (.aload_n 0, 1) := by decide +kernel
theorem dX9_napkinOf_157 : decode cX9_napkinOf 157 = .ok (.getfield 7, 3) := by decide +kernel
theorem dX9_napkinOf_160 : decode cX9_napkinOf 160 = .ok (.bipush 45, 2) := by decide +kernel
theorem dX9_napkinOf_162 : decode cX9_napkinOf 162 = .ok (.iload_n 1, 1) := by decide +kernel
theorem dX9_napkinOf_163 : decode cX9_napkinOf 163 = .ok (.iadd, 1) := by decide +kernel
theorem dX9_napkinOf_164 : decode cX9_napkinOf 164 = .ok (.iaload, 1) := by decide +kernel
theorem dX9_napkinOf_165 : decode cX9_napkinOf 165 = .ok (.invokevirtual 78, 3) := by decide +kernel
theorem dX9_napkinOf_168 : decode cX9_napkinOf 168 = .ok (.ireturn, 1) := by decide +kernel
theorem dX9_napkinOf_169 : decode cX9_napkinOf 169 = .ok (.aload_n 0, 1) := by decide +kernel
theorem dX9_napkinOf_170 : decode cX9_napkinOf 170 = .ok (.iconst 2, 1) := by decide +kernel
theorem dX9_napkinOf_171 : decode cX9_napkinOf 171 = .ok (.invokevirtual 70, 3) := by decide +kernel
theorem dX9_napkinOf_174 : decode cX9_napkinOf 174 = .ok (.ireturn, 1) := by decide +kernel
set_option maxRecDepth 20000 in
theorem ggX9_tableOf_X9_isTable : GoodIn wsX9_tableOf wsX9_isTable := goodIn_r _ [5, 6, 7, 4, 8] (by decide +kernel) (by decide +kernel)
set_option maxRecDepth 20000 in
theorem gX9_tableOf_X9_isTable : GoodIn wsX9_tableOf (va_wsS RX9 100 yX9_isTable wsX9_isTable) := goodIn_app (goodIn_of _ (by decide +kernel)) ggX9_tableOf_X9_isTable
set_option maxRecDepth 20000 in
theorem ggX9_tableOf_X9_fails : GoodIn wsX9_tableOf wsX9_fails := goodIn_r _ [12, 13, 14, 27, 28, 29, 30, 31, 32, 33, 34, 35, 36, 37, 38, 39, 40, 41, 42, 43, 44, 45, 46] (by decide +kernel) (by decide +kernel)
set_option maxRecDepth 20000 in
theorem gX9_tableOf_X9_fails : GoodIn wsX9_tableOf (wsV RX9 70 RX9 yX9_fails wsX9_fails) := goodIn_app (goodIn_of _ (by decide +kernel)) ggX9_tableOf_X9_fails
set_option maxRecDepth 20000 in
theorem ggX9_tableOf_X9_done : GoodIn wsX9_tableOf wsX9_done := goodIn_r _ [18, 13, 27, 28, 29, 30, 31, 32, 33, 34, 35, 36, 37, 38, 39, 40, 41, 42, 43, 44, 45, 46] (by decide +kernel) (by decide +kernel)
set_option maxRecDepth 20000 in
theorem gX9_tableOf_X9_done : GoodIn wsX9_tableOf (wsV RX9 78 RX9 yX9_done wsX9_done) := goodIn_app (goodIn_of _ (by decide +kernel)) ggX9_tableOf_X9_done
set_option maxRecDepth 20000 in
theorem ggX9_tableOf_X9_countOf : GoodIn wsX9_tableOf wsX9_countOf := goodIn_ca (goodIn_r _ [22, 1, 23, 24, 25, 4, 26, 27, 28, 29, 30, 31, 32, 33, 34, 35, 36, 37, 38, 39, 40, 41, 42, 43, 44, 45, 46] (by decide +kernel) (by decide +kernel)) (goodIn_sub (fun _ h => List.mem_cons_of_mem _ (List.mem_append_right _ h)) (by decide +kernel))
set_option maxRecDepth 20000 in
theorem gX9_tableOf_X9_countOf : GoodIn wsX9_tableOf (wsV RX9 132 RX9 yX9_countOf wsX9_countOf) := goodIn_app (goodIn_of _ (by decide +kernel)) ggX9_tableOf_X9_countOf
theorem dX9_tableOf_0 : decode cX9_tableOf 0 = .ok (.iload_n 1, 1) := by decide +kernel
theorem dX9_tableOf_1 : decode cX9_tableOf 1 = .ok (.invokestatic 100, 3) := by decide +kernel
theorem dX9_tableOf_4 : decode cX9_tableOf 4 = .ok (.ifCond .ne 9, 3) := by decide +kernel
theorem dX9_tableOf_7 : decode cX9_tableOf 7 = .ok (.aload_n 0, 1) := by decide +kernel
theorem dX9_tableOf_8 : decode cX9_tableOf 8 = .ok (.iconst 1, 1) := by decide +kernel
theorem dX9_tableOf_9 : decode cX9_tableOf 9 = .ok (.invokevirtual 70, 3) := by decide +kernel
theorem dX9_tableOf_12 : decode cX9_tableOf 12 = .ok (.ireturn, 1) := by decide +kernel
theorem dX9_tableOf_13 : decode cX9_tableOf 13 = .ok (.iload_n 2, 1) := by decide +kernel
theorem dX9_tableOf_14 : decode cX9_tableOf 14 = .ok (.tableswitch 113 0 5 #[38, 52, 63, 74, 85, 99], 38) := by decide +kernel
theorem dX9_tableOf_52 : decode cX9_tableOf 52 = .ok (.aload_n 0, 1) := by decide +kernel
theorem dX9_tableOf_53 : decode cX9_tableOf 53 = .ok (.aload_n 0, 1) := by decide +kernel
theorem dX9_tableOf_54 : decode cX9_tableOf 54 = .ok (.getfield 7, 3) := by decide +kernel
theorem dX9_tableOf_57 : decode cX9_tableOf 57 = .ok (.bipush 55, 2) := by decide +kernel
theorem dX9_tableOf_59 : decode cX9_tableOf 59 = .ok (.iload_n 1, 1) := by decide +kernel
theorem dX9_tableOf_60 : decode cX9_tableOf 60 = .ok (.iadd, 1) := by decide +kernel
theorem dX9_tableOf_61 : decode cX9_tableOf 61 = .ok (.iaload, 1) := by decide +kernel
theorem dX9_tableOf_62 : decode cX9_tableOf 62 = .ok (.invokevirtual 78, 3) := by decide +kernel
theorem dX9_tableOf_65 : decode cX9_tableOf 65 = .ok (.ireturn, 1) := by decide +kernel
theorem dX9_tableOf_66 : decode cX9_tableOf 66 = .ok (.aload_n 0, 1) := by decide +kernel
theorem dX9_tableOf_67 : decode cX9_tableOf 67 = .ok (.aload_n 0, 1) := by decide +kernel
theorem dX9_tableOf_68 : decode cX9_tableOf 68 = .ok (.iload_n 1, 1) := by decide +kernel
theorem dX9_tableOf_69 : decode cX9_tableOf 69 = .ok (.iconst 0, 1) := by decide +kernel
theorem dX9_tableOf_70 : decode cX9_tableOf 70 = .ok (.invokevirtual 132, 3) := by decide +kernel
theorem dX9_tableOf_73 : decode cX9_tableOf 73 = .ok (.invokevirtual 78, 3) := by decide +kernel
theorem dX9_tableOf_76 : decode cX9_tableOf 76 = .ok (.ireturn, 1) := by decide +kernel
theorem dX9_tableOf_77 : decode cX9_tableOf 77 = .ok (.aload_n 0, 1) := by decide +kernel
theorem dX9_tableOf_78 : decode cX9_tableOf 78 = .ok (.aload_n 0, 1) := by decide +kernel
theorem dX9_tableOf_79 : decode cX9_tableOf 79 = .ok (.iload_n 1, 1) := by decide +kernel
theorem dX9_tableOf_80 : decode cX9_tableOf 80 = .ok (.iconst 1, 1) := by decide +kernel
theorem dX9_tableOf_81 : decode cX9_tableOf 81 = .ok (.invokevirtual 132, 3) := by decide +kernel
theorem dX9_tableOf_84 : decode cX9_tableOf 84 = .ok (.invokevirtual 78, 3) := by decide +kernel
theorem dX9_tableOf_87 : decode cX9_tableOf 87 = .ok (.ireturn, 1) := by decide +kernel
theorem dX9_tableOf_88 : decode cX9_tableOf 88 = .ok (.aload_n 0, 1) := by decide +kernel
theorem dX9_tableOf_89 : decode cX9_tableOf 89 = .ok (.aload_n 0, 1) := by decide +kernel
theorem dX9_tableOf_90 : decode cX9_tableOf 90 = .ok (.iload_n 1, 1) := by decide +kernel
theorem dX9_tableOf_91 : decode cX9_tableOf 91 = .ok (.iconst 4, 1) := by decide +kernel
theorem dX9_tableOf_92 : decode cX9_tableOf 92 = .ok (.invokevirtual 132, 3) := by decide +kernel
theorem dX9_tableOf_95 : decode cX9_tableOf 95 = .ok (.invokevirtual 78, 3) := by decide +kernel
theorem dX9_tableOf_98 : decode cX9_tableOf 98 = .ok (.ireturn, 1) := by decide +kernel
theorem dX9_tableOf_99 : decode cX9_tableOf 99 = .ok (.aload_n 0, 1) := by decide +kernel
theorem dX9_tableOf_100 : decode cX9_tableOf 100 = .ok (.aload_n 0, 1) := by decide +kernel
theorem dX9_tableOf_101 : decode cX9_tableOf 101 = .ok (.getfield 7, 3) := by decide +kernel
theorem dX9_tableOf_104 : decode cX9_tableOf 104 = .ok (.bipush 58, 2) := by decide +kernel
theorem dX9_tableOf_106 : decode cX9_tableOf 106 = .ok (.iload_n 1, 1) := by decide +kernel
theorem dX9_tableOf_107 : decode cX9_tableOf 107 = .ok (.iadd, 1) := by decide +kernel
theorem dX9_tableOf_108 : decode cX9_tableOf 108 = .ok (.iaload, 1) := by decide +kernel
theorem dX9_tableOf_109 : decode cX9_tableOf 109 = .ok (.invokevirtual 78, 3) := by decide +kernel
theorem dX9_tableOf_112 : decode cX9_tableOf 112 = .ok (.ireturn, 1) := by decide +kernel
theorem dX9_tableOf_113 : decode cX9_tableOf 113 = .ok (.aload_n 0, 1) := by decide +kernel
theorem dX9_tableOf_114 : decode cX9_tableOf 114 = .ok (.aload_n 0, 1) := by decide +kernel
theorem dX9_tableOf_115 : decode cX9_tableOf 115 = .ok (.getfield 7, 3) := by decide +kernel
theorem dX9_tableOf_118 : decode cX9_tableOf 118 = .ok (.bipush 61, 2) := by decide +kernel
theorem dX9_tableOf_120 : decode cX9_tableOf 120 = .ok (.iload_n 1, 1) := by decide +kernel
theorem dX9_tableOf_121 : decode cX9_tableOf 121 = .ok (.iadd, 1) := by decide +kernel
theorem dX9_tableOf_122 : decode cX9_tableOf 122 = .ok (.iaload, 1) := by decide +kernel
theorem dX9_tableOf_123 : decode cX9_tableOf 123 = .ok (.invokevirtual 78, 3) := by decide +kernel
theorem dX9_tableOf_126 : decode cX9_tableOf 126 = .ok (.ireturn, 1) := by decide +kernel
theorem dX9_tableOf_127 : decode cX9_tableOf 127 = .ok (.aload_n 0, 1) := by decide +kernel
theorem dX9_tableOf_128 : decode cX9_tableOf 128 = .ok (.iconst 2, 1) := by decide +kernel
theorem dX9_tableOf_129 : decode cX9_tableOf 129 = .ok (.invokevirtual 70, 3) := by decide +kernel
theorem dX9_tableOf_132 : decode cX9_tableOf 132 = .ok (.ireturn, 1) := by decide +kernel
set_option maxRecDepth 20000 in
theorem ggX9_seat_X9_isTable : GoodIn wsX9_seat wsX9_isTable := goodIn_r _ [5, 6, 7, 4, 8] (by decide +kernel) (by decide +kernel)
set_option maxRecDepth 20000 in
theorem gX9_seat_X9_isTable : GoodIn wsX9_seat (va_wsS RX9 100 yX9_isTable wsX9_isTable) := goodIn_app (goodIn_of _ (by decide +kernel)) ggX9_seat_X9_isTable
set_option maxRecDepth 20000 in
theorem ggX9_seat_X9_fails : GoodIn wsX9_seat wsX9_fails := goodIn_r _ [12, 13, 14, 23, 24, 25, 26, 27, 28, 29, 30, 31, 32, 33, 34, 35, 36, 37, 38, 39, 40, 41, 42] (by decide +kernel) (by decide +kernel)
set_option maxRecDepth 20000 in
theorem gX9_seat_X9_fails : GoodIn wsX9_seat (wsV RX9 70 RX9 yX9_fails wsX9_fails) := goodIn_app (goodIn_of _ (by decide +kernel)) ggX9_seat_X9_fails
set_option maxRecDepth 20000 in
theorem ggX9_seat_X9_in : GoodIn wsX9_seat wsX9_in := goodIn_r _ [8] (by decide +kernel) (by decide +kernel)
set_option maxRecDepth 20000 in
theorem gX9_seat_X9_in : GoodIn wsX9_seat (va_wsS RX9 62 yX9_in wsX9_in) := goodIn_app (goodIn_of _ (by decide +kernel)) ggX9_seat_X9_in
set_option maxRecDepth 20000 in
theorem ggX9_seat_X9_at : GoodIn wsX9_seat wsX9_at := goodIn_ca (goodIn_r _ [18, 1, 23, 24, 25, 26, 27, 28, 29, 30, 31, 32, 33, 34, 35, 36, 37, 38, 39, 40, 41, 42] (by decide +kernel) (by decide +kernel)) (goodIn_sub (fun _ h => List.mem_cons_of_mem _ (List.mem_append_right _ h)) (by decide +kernel))
set_option maxRecDepth 20000 in
theorem gX9_seat_X9_at : GoodIn wsX9_seat (wsV RX9 66 RX9 yX9_at wsX9_at) := goodIn_app (goodIn_of _ (by decide +kernel)) ggX9_seat_X9_at
set_option maxRecDepth 20000 in
theorem ggX9_seat_X9_done : GoodIn wsX9_seat wsX9_done := goodIn_r _ [22, 13, 23, 24, 25, 26, 27, 28, 29, 30, 31, 32, 33, 34, 35, 36, 37, 38, 39, 40, 41, 42] (by decide +kernel) (by decide +kernel)
set_option maxRecDepth 20000 in
theorem gX9_seat_X9_done : GoodIn wsX9_seat (wsV RX9 78 RX9 yX9_done wsX9_done) := goodIn_app (goodIn_of _ (by decide +kernel)) ggX9_seat_X9_done
theorem dX9_seat_0 : decode cX9_seat 0 = .ok (.iload_n 1, 1) := by decide +kernel
theorem dX9_seat_1 : decode cX9_seat 1 = .ok (.invokestatic 100, 3) := by decide +kernel
theorem dX9_seat_4 : decode cX9_seat 4 = .ok (.ifCond .ne 9, 3) := by decide +kernel
theorem dX9_seat_7 : decode cX9_seat 7 = .ok (.aload_n 0, 1) := by decide +kernel
theorem dX9_seat_8 : decode cX9_seat 8 = .ok (.iconst 1, 1) := by decide +kernel
theorem dX9_seat_9 : decode cX9_seat 9 = .ok (.invokevirtual 70, 3) := by decide +kernel
theorem dX9_seat_12 : decode cX9_seat 12 = .ok (.ireturn, 1) := by decide +kernel
theorem dX9_seat_13 : decode cX9_seat 13 = .ok (.iload_n 2, 1) := by decide +kernel
theorem dX9_seat_14 : decode cX9_seat 14 = .ok (.iconst 0, 1) := by decide +kernel
theorem dX9_seat_15 : decode cX9_seat 15 = .ok (.aload_n 0, 1) := by decide +kernel
theorem dX9_seat_16 : decode cX9_seat 16 = .ok (.getfield 7, 3) := by decide +kernel
theorem dX9_seat_19 : decode cX9_seat 19 = .ok (.bipush 55, 2) := by decide +kernel
theorem dX9_seat_21 : decode cX9_seat 21 = .ok (.iload_n 1, 1) := by decide +kernel
theorem dX9_seat_22 : decode cX9_seat 22 = .ok (.iadd, 1) := by decide +kernel
theorem dX9_seat_23 : decode cX9_seat 23 = .ok (.iaload, 1) := by decide +kernel
theorem dX9_seat_24 : decode cX9_seat 24 = .ok (.iconst 1, 1) := by decide +kernel
theorem dX9_seat_25 : decode cX9_seat 25 = .ok (.isub, 1) := by decide +kernel
theorem dX9_seat_26 : decode cX9_seat 26 = .ok (.invokestatic 62, 3) := by decide +kernel
theorem dX9_seat_29 : decode cX9_seat 29 = .ok (.ifCond .eq 16, 3) := by decide +kernel
theorem dX9_seat_32 : decode cX9_seat 32 = .ok (.aload_n 0, 1) := by decide +kernel
theorem dX9_seat_33 : decode cX9_seat 33 = .ok (.aload_n 0, 1) := by decide +kernel
theorem dX9_seat_34 : decode cX9_seat 34 = .ok (.iload_n 1, 1) := by decide +kernel
theorem dX9_seat_35 : decode cX9_seat 35 = .ok (.iload_n 2, 1) := by decide +kernel
theorem dX9_seat_36 : decode cX9_seat 36 = .ok (.invokevirtual 66, 3) := by decide +kernel
theorem dX9_seat_39 : decode cX9_seat 39 = .ok (.invokevirtual 78, 3) := by decide +kernel
theorem dX9_seat_42 : decode cX9_seat 42 = .ok (.goto 8, 3) := by decide +kernel
theorem dX9_seat_45 : decode cX9_seat 45 = .ok (.aload_n 0, 1) := by decide +kernel
theorem dX9_seat_46 : decode cX9_seat 46 = .ok (.iconst 2, 1) := by decide +kernel
theorem dX9_seat_47 : decode cX9_seat 47 = .ok (.invokevirtual 70, 3) := by decide +kernel
theorem dX9_seat_50 : decode cX9_seat 50 = .ok (.ireturn, 1) := by decide +kernel
set_option maxRecDepth 20000 in
theorem ggX9_said_X9_isTable : GoodIn wsX9_said wsX9_isTable := goodIn_r _ [4, 5, 6, 3, 7] (by decide +kernel) (by decide +kernel)
set_option maxRecDepth 20000 in
theorem gX9_said_X9_isTable : GoodIn wsX9_said (va_wsS RX9 100 yX9_isTable wsX9_isTable) := goodIn_app (goodIn_of _ (by decide +kernel)) ggX9_said_X9_isTable
set_option maxRecDepth 20000 in
theorem ggX9_said_X9_fails : GoodIn wsX9_said wsX9_fails := goodIn_r _ [11, 12, 13, 31, 32, 33, 34, 35, 36, 37, 38, 39, 40, 41, 42, 43, 44, 45, 46, 47, 48, 49, 50] (by decide +kernel) (by decide +kernel)
set_option maxRecDepth 20000 in
theorem gX9_said_X9_fails : GoodIn wsX9_said (wsV RX9 70 RX9 yX9_fails wsX9_fails) := goodIn_app (goodIn_of _ (by decide +kernel)) ggX9_said_X9_fails
set_option maxRecDepth 20000 in
theorem ggX9_said_X9_countOf : GoodIn wsX9_said wsX9_countOf := goodIn_ca (goodIn_r _ [17, 18, 19, 20, 21, 3, 22, 31, 32, 33, 34, 35, 36, 37, 38, 39, 40, 41, 42, 43, 44, 45, 46, 47, 48, 49, 50] (by decide +kernel) (by decide +kernel)) (goodIn_sub (fun _ h => List.mem_cons_of_mem _ (List.mem_append_right _ h)) (by decide +kernel))
set_option maxRecDepth 20000 in
theorem gX9_said_X9_countOf : GoodIn wsX9_said (wsV RX9 132 RX9 yX9_countOf wsX9_countOf) := goodIn_app (goodIn_of _ (by decide +kernel)) ggX9_said_X9_countOf
set_option maxRecDepth 20000 in
theorem ggX9_said_X9_in : GoodIn wsX9_said wsX9_in := goodIn_r _ [7] (by decide +kernel) (by decide +kernel)
set_option maxRecDepth 20000 in
theorem gX9_said_X9_in : GoodIn wsX9_said (va_wsS RX9 62 yX9_in wsX9_in) := goodIn_app (goodIn_of _ (by decide +kernel)) ggX9_said_X9_in
set_option maxRecDepth 20000 in
theorem ggX9_said_X9_saidAt : GoodIn wsX9_said wsX9_saidAt := goodIn_ca (goodIn_r _ [26, 18, 19, 20, 21, 3, 22, 31, 32, 33, 34, 35, 36, 37, 38, 39, 40, 41, 42, 43, 44, 45, 46, 47, 48, 49, 50] (by decide +kernel) (by decide +kernel)) (goodIn_sub (fun _ h => List.mem_cons_of_mem _ (List.mem_append_right _ h)) (by decide +kernel))
set_option maxRecDepth 20000 in
theorem gX9_said_X9_saidAt : GoodIn wsX9_said (wsV RX9 129 RX9 yX9_saidAt wsX9_saidAt) := goodIn_app (goodIn_of _ (by decide +kernel)) ggX9_said_X9_saidAt
set_option maxRecDepth 20000 in
theorem ggX9_said_X9_done : GoodIn wsX9_said wsX9_done := goodIn_r _ [30, 12, 31, 32, 33, 34, 35, 36, 37, 38, 39, 40, 41, 42, 43, 44, 45, 46, 47, 48, 49, 50] (by decide +kernel) (by decide +kernel)
set_option maxRecDepth 20000 in
theorem gX9_said_X9_done : GoodIn wsX9_said (wsV RX9 78 RX9 yX9_done wsX9_done) := goodIn_app (goodIn_of _ (by decide +kernel)) ggX9_said_X9_done
theorem dX9_said_0 : decode cX9_said 0 = .ok (.iload_n 1, 1) := by decide +kernel
theorem dX9_said_1 : decode cX9_said 1 = .ok (.invokestatic 100, 3) := by decide +kernel
theorem dX9_said_4 : decode cX9_said 4 = .ok (.ifCond .ne 9, 3) := by decide +kernel
theorem dX9_said_7 : decode cX9_said 7 = .ok (.aload_n 0, 1) := by decide +kernel
theorem dX9_said_8 : decode cX9_said 8 = .ok (.iconst 1, 1) := by decide +kernel
theorem dX9_said_9 : decode cX9_said 9 = .ok (.invokevirtual 70, 3) := by decide +kernel
theorem dX9_said_12 : decode cX9_said 12 = .ok (.ireturn, 1) := by decide +kernel
theorem dX9_said_13 : decode cX9_said 13 = .ok (.iload_n 2, 1) := by decide +kernel
theorem dX9_said_14 : decode cX9_said 14 = .ok (.iconst 0, 1) := by decide +kernel
theorem dX9_said_15 : decode cX9_said 15 = .ok (.aload_n 0, 1) := by decide +kernel
theorem dX9_said_16 : decode cX9_said 16 = .ok (.iload_n 1, 1) := by decide +kernel
theorem dX9_said_17 : decode cX9_said 17 = .ok (.iconst 0, 1) := by decide +kernel
theorem dX9_said_18 : decode cX9_said 18 = .ok (.invokevirtual 132, 3) := by decide +kernel
theorem dX9_said_21 : decode cX9_said 21 = .ok (.iconst 1, 1) := by decide +kernel
theorem dX9_said_22 : decode cX9_said 22 = .ok (.isub, 1) := by decide +kernel
theorem dX9_said_23 : decode cX9_said 23 = .ok (.invokestatic 62, 3) := by decide +kernel
theorem dX9_said_26 : decode cX9_said 26 = .ok (.ifCond .eq 16, 3) := by decide +kernel
theorem dX9_said_29 : decode cX9_said 29 = .ok (.aload_n 0, 1) := by decide +kernel
theorem dX9_said_30 : decode cX9_said 30 = .ok (.aload_n 0, 1) := by decide +kernel
theorem dX9_said_31 : decode cX9_said 31 = .ok (.iload_n 1, 1) := by decide +kernel
theorem dX9_said_32 : decode cX9_said 32 = .ok (.iload_n 2, 1) := by decide +kernel
theorem dX9_said_33 : decode cX9_said 33 = .ok (.invokevirtual 129, 3) := by decide +kernel
theorem dX9_said_36 : decode cX9_said 36 = .ok (.invokevirtual 78, 3) := by decide +kernel
theorem dX9_said_39 : decode cX9_said 39 = .ok (.goto 8, 3) := by decide +kernel
theorem dX9_said_42 : decode cX9_said 42 = .ok (.aload_n 0, 1) := by decide +kernel
theorem dX9_said_43 : decode cX9_said 43 = .ok (.iconst 2, 1) := by decide +kernel
theorem dX9_said_44 : decode cX9_said 44 = .ok (.invokevirtual 70, 3) := by decide +kernel
theorem dX9_said_47 : decode cX9_said 47 = .ok (.ireturn, 1) := by decide +kernel
set_option maxRecDepth 20000 in
theorem ggX9_wrong_X9_isTable : GoodIn wsX9_wrong wsX9_isTable := goodIn_r _ [4, 5, 6, 3, 7] (by decide +kernel) (by decide +kernel)
set_option maxRecDepth 20000 in
theorem gX9_wrong_X9_isTable : GoodIn wsX9_wrong (va_wsS RX9 100 yX9_isTable wsX9_isTable) := goodIn_app (goodIn_of _ (by decide +kernel)) ggX9_wrong_X9_isTable
set_option maxRecDepth 20000 in
theorem ggX9_wrong_X9_wrongAt : GoodIn wsX9_wrong wsX9_wrongAt := goodIn_ca (goodIn_r _ [11, 12, 13, 14, 3, 15, 16, 17, 18, 19, 20, 21, 22, 23, 24, 25, 26, 27, 28, 29, 30, 31, 32, 33, 34, 45, 46, 47, 48, 49, 50, 51, 52, 53, 54, 55, 56, 57, 58, 59, 60, 61, 62, 63, 64] (by decide +kernel) (by decide +kernel)) (goodIn_sub (fun _ h => List.mem_cons_of_mem _ (List.mem_append_right _ h)) (by decide +kernel))
set_option maxRecDepth 20000 in
theorem gX9_wrong_X9_wrongAt : GoodIn wsX9_wrong (wsV RX9 156 RX9 yX9_wrongAt wsX9_wrongAt) := goodIn_app (goodIn_of _ (by decide +kernel)) ggX9_wrong_X9_wrongAt
set_option maxRecDepth 20000 in
theorem ggX9_wrong_X9_done : GoodIn wsX9_wrong wsX9_done := goodIn_r _ [38, 39, 45, 46, 47, 48, 49, 50, 51, 52, 53, 54, 55, 56, 57, 58, 59, 60, 61, 62, 63, 64] (by decide +kernel) (by decide +kernel)
set_option maxRecDepth 20000 in
theorem gX9_wrong_X9_done : GoodIn wsX9_wrong (wsV RX9 78 RX9 yX9_done wsX9_done) := goodIn_app (goodIn_of _ (by decide +kernel)) ggX9_wrong_X9_done
set_option maxRecDepth 20000 in
theorem ggX9_wrong_X9_fails : GoodIn wsX9_wrong wsX9_fails := goodIn_r _ [43, 39, 44, 45, 46, 47, 48, 49, 50, 51, 52, 53, 54, 55, 56, 57, 58, 59, 60, 61, 62, 63, 64] (by decide +kernel) (by decide +kernel)
set_option maxRecDepth 20000 in
theorem gX9_wrong_X9_fails : GoodIn wsX9_wrong (wsV RX9 70 RX9 yX9_fails wsX9_fails) := goodIn_app (goodIn_of _ (by decide +kernel)) ggX9_wrong_X9_fails
theorem dX9_wrong_0 : decode cX9_wrong 0 = .ok (.iload_n 1, 1) := by decide +kernel
theorem dX9_wrong_1 : decode cX9_wrong 1 = .ok (.invokestatic 100, 3) := by decide +kernel
theorem dX9_wrong_4 : decode cX9_wrong 4 = .ok (.ifCond .eq 15, 3) := by decide +kernel
theorem dX9_wrong_7 : decode cX9_wrong 7 = .ok (.aload_n 0, 1) := by decide +kernel
theorem dX9_wrong_8 : decode cX9_wrong 8 = .ok (.aload_n 0, 1) := by decide +kernel
theorem dX9_wrong_9 : decode cX9_wrong 9 = .ok (.iload_n 1, 1) := by decide +kernel
theorem dX9_wrong_10 : decode cX9_wrong 10 = .ok (.invokevirtual 156, 3) := by decide +kernel
theorem dX9_wrong_13 : decode cX9_wrong 13 = .ok (.invokevirtual 78, 3) := by decide +kernel
theorem dX9_wrong_16 : decode cX9_wrong 16 = .ok (.goto 8, 3) := by decide +kernel
theorem dX9_wrong_19 : decode cX9_wrong 19 = .ok (.aload_n 0, 1) := by decide +kernel
theorem dX9_wrong_20 : decode cX9_wrong 20 = .ok (.iconst 1, 1) := by decide +kernel
theorem dX9_wrong_21 : decode cX9_wrong 21 = .ok (.invokevirtual 70, 3) := by decide +kernel
theorem dX9_wrong_24 : decode cX9_wrong 24 = .ok (.ireturn, 1) := by decide +kernel
set_option maxRecDepth 20000 in
theorem ggX9_wrongAgain_X9_wrong : GoodIn wsX9_wrongAgain wsX9_wrong := goodIn_ca (goodIn_r _ [5, 6, 7, 4, 8, 9, 10, 11, 12, 13, 14, 15, 16, 17, 18, 19, 20, 21, 22, 23, 24, 25, 26, 27, 28, 29, 30, 31, 32, 33, 34, 35, 36, 37, 38, 39, 40, 41, 42, 43, 44, 45, 46, 47, 48, 49, 50, 51, 52, 53, 54, 55, 56, 57, 58, 59, 60, 61, 62, 63, 64, 65, 66, 67, 68] (by decide +kernel) (by decide +kernel)) (goodIn_sub (fun _ h => List.mem_cons_of_mem _ (List.mem_append_right _ h)) (by decide +kernel))
set_option maxRecDepth 20000 in
theorem gX9_wrongAgain_X9_wrong : GoodIn wsX9_wrongAgain (wsV RX9 159 RX9 yX9_wrong wsX9_wrong) := goodIn_app (goodIn_of _ (by decide +kernel)) ggX9_wrongAgain_X9_wrong
theorem dX9_wrongAgain_0 : decode cX9_wrongAgain 0 = .ok (.aload_n 0, 1) := by decide +kernel
theorem dX9_wrongAgain_1 : decode cX9_wrongAgain 1 = .ok (.iload_n 1, 1) := by decide +kernel
theorem dX9_wrongAgain_2 : decode cX9_wrongAgain 2 = .ok (.invokevirtual 159, 3) := by decide +kernel
theorem dX9_wrongAgain_5 : decode cX9_wrongAgain 5 = .ok (.ireturn, 1) := by decide +kernel
set_option maxRecDepth 20000 in
theorem ggX9_isRight_X9_isTable : GoodIn wsX9_isRight wsX9_isTable := goodIn_r _ [5, 6, 7, 4, 8] (by decide +kernel) (by decide +kernel)
set_option maxRecDepth 20000 in
theorem gX9_isRight_X9_isTable : GoodIn wsX9_isRight (va_wsS RX9 100 yX9_isTable wsX9_isTable) := goodIn_app (goodIn_of _ (by decide +kernel)) ggX9_isRight_X9_isTable
set_option maxRecDepth 20000 in
theorem ggX9_isRight_X9_rightly : GoodIn wsX9_isRight wsX9_rightly := goodIn_ca (goodIn_r _ [12, 13, 14, 15, 4, 16, 17, 18, 19, 20, 21, 22, 23, 24, 25, 26, 27, 28, 29, 30, 31, 32, 33, 34, 35, 36, 37, 38, 39, 40, 41, 42, 43, 44, 45, 46, 47, 48, 49, 50, 51, 52, 53, 54, 55, 56, 57, 58, 59] (by decide +kernel) (by decide +kernel)) (goodIn_sub (fun _ h => List.mem_cons_of_mem _ (List.mem_append_right _ h)) (by decide +kernel))
set_option maxRecDepth 20000 in
theorem gX9_isRight_X9_rightly : GoodIn wsX9_isRight (wsV RX9 147 RX9 yX9_rightly wsX9_rightly) := goodIn_app (goodIn_of _ (by decide +kernel)) ggX9_isRight_X9_rightly
theorem dX9_isRight_0 : decode cX9_isRight 0 = .ok (.aload_n 0, 1) := by decide +kernel
theorem dX9_isRight_1 : decode cX9_isRight 1 = .ok (.iload_n 1, 1) := by decide +kernel
theorem dX9_isRight_2 : decode cX9_isRight 2 = .ok (.invokestatic 100, 3) := by decide +kernel
theorem dX9_isRight_5 : decode cX9_isRight 5 = .ok (.ifCond .eq 7, 3) := by decide +kernel
theorem dX9_isRight_8 : decode cX9_isRight 8 = .ok (.iconst 0, 1) := by decide +kernel
theorem dX9_isRight_9 : decode cX9_isRight 9 = .ok (.goto 4, 3) := by decide +kernel
theorem dX9_isRight_12 : decode cX9_isRight 12 = .ok (.iconst 1, 1) := by decide +kernel
theorem dX9_isRight_13 : decode cX9_isRight 13 = .ok (.putfield 36, 3) := by decide +kernel
theorem dX9_isRight_16 : decode cX9_isRight 16 = .ok (.aload_n 0, 1) := by decide +kernel
theorem dX9_isRight_17 : decode cX9_isRight 17 = .ok (.getfield 36, 3) := by decide +kernel
theorem dX9_isRight_20 : decode cX9_isRight 20 = .ok (.ifCond .ne 15, 3) := by decide +kernel
theorem dX9_isRight_23 : decode cX9_isRight 23 = .ok (.aload_n 0, 1) := by decide +kernel
theorem dX9_isRight_24 : decode cX9_isRight 24 = .ok (.iload_n 1, 1) := by decide +kernel
theorem dX9_isRight_25 : decode cX9_isRight 25 = .ok (.invokevirtual 147, 3) := by decide +kernel
theorem dX9_isRight_28 : decode cX9_isRight 28 = .ok (.ifCond .eq 7, 3) := by decide +kernel
theorem dX9_isRight_31 : decode cX9_isRight 31 = .ok (.iconst 1, 1) := by decide +kernel
theorem dX9_isRight_32 : decode cX9_isRight 32 = .ok (.goto 4, 3) := by decide +kernel
theorem dX9_isRight_35 : decode cX9_isRight 35 = .ok (.iconst 0, 1) := by decide +kernel
theorem dX9_isRight_36 : decode cX9_isRight 36 = .ok (.ireturn, 1) := by decide +kernel
set_option maxRecDepth 20000 in
theorem ggX9_phrases_X9_isTable : GoodIn wsX9_phrases wsX9_isTable := goodIn_r _ [4, 5, 6, 3, 7] (by decide +kernel) (by decide +kernel)
set_option maxRecDepth 20000 in
theorem gX9_phrases_X9_isTable : GoodIn wsX9_phrases (va_wsS RX9 100 yX9_isTable wsX9_isTable) := goodIn_app (goodIn_of _ (by decide +kernel)) ggX9_phrases_X9_isTable
set_option maxRecDepth 20000 in
theorem ggX9_phrases_X9_phrasesOf : GoodIn wsX9_phrases wsX9_phrasesOf := goodIn_ca (goodIn_r _ [11, 12, 13, 14, 3, 15, 16, 17, 18, 19, 20, 21, 22, 23, 24, 25, 26, 27, 28, 29, 30, 31, 32, 33, 34, 35, 36, 37, 38, 39, 40, 41, 42, 53, 54, 55, 56, 57, 58, 59, 60, 61, 62, 63, 64, 65, 66, 67, 68, 69, 70, 71, 72] (by decide +kernel) (by decide +kernel)) (goodIn_sub (fun _ h => List.mem_cons_of_mem _ (List.mem_append_right _ h)) (by decide +kernel))
set_option maxRecDepth 20000 in
theorem gX9_phrases_X9_phrasesOf : GoodIn wsX9_phrases (wsV RX9 150 RX9 yX9_phrasesOf wsX9_phrasesOf) := goodIn_app (goodIn_of _ (by decide +kernel)) ggX9_phrases_X9_phrasesOf
set_option maxRecDepth 20000 in
theorem ggX9_phrases_X9_done : GoodIn wsX9_phrases wsX9_done := goodIn_r _ [46, 47, 53, 54, 55, 56, 57, 58, 59, 60, 61, 62, 63, 64, 65, 66, 67, 68, 69, 70, 71, 72] (by decide +kernel) (by decide +kernel)
set_option maxRecDepth 20000 in
theorem gX9_phrases_X9_done : GoodIn wsX9_phrases (wsV RX9 78 RX9 yX9_done wsX9_done) := goodIn_app (goodIn_of _ (by decide +kernel)) ggX9_phrases_X9_done
set_option maxRecDepth 20000 in
theorem ggX9_phrases_X9_fails : GoodIn wsX9_phrases wsX9_fails := goodIn_r _ [51, 47, 52, 53, 54, 55, 56, 57, 58, 59, 60, 61, 62, 63, 64, 65, 66, 67, 68, 69, 70, 71, 72] (by decide +kernel) (by decide +kernel)
set_option maxRecDepth 20000 in
theorem gX9_phrases_X9_fails : GoodIn wsX9_phrases (wsV RX9 70 RX9 yX9_fails wsX9_fails) := goodIn_app (goodIn_of _ (by decide +kernel)) ggX9_phrases_X9_fails
theorem dX9_phrases_0 : decode cX9_phrases 0 = .ok (.iload_n 1, 1) := by decide +kernel
theorem dX9_phrases_1 : decode cX9_phrases 1 = .ok (.invokestatic 100, 3) := by decide +kernel
theorem dX9_phrases_4 : decode cX9_phrases 4 = .ok (.ifCond .eq 15, 3) := by decide +kernel
theorem dX9_phrases_7 : decode cX9_phrases 7 = .ok (.aload_n 0, 1) := by decide +kernel
theorem dX9_phrases_8 : decode cX9_phrases 8 = .ok (.aload_n 0, 1) := by decide +kernel
theorem dX9_phrases_9 : decode cX9_phrases 9 = .ok (.iload_n 1, 1) := by decide +kernel
theorem dX9_phrases_10 : decode cX9_phrases 10 = .ok (.invokevirtual 150, 3) := by decide +kernel
theorem dX9_phrases_13 : decode cX9_phrases 13 = .ok (.invokevirtual 78, 3) := by decide +kernel
theorem dX9_phrases_16 : decode cX9_phrases 16 = .ok (.goto 8, 3) := by decide +kernel
theorem dX9_phrases_19 : decode cX9_phrases 19 = .ok (.aload_n 0, 1) := by decide +kernel
theorem dX9_phrases_20 : decode cX9_phrases 20 = .ok (.iconst 1, 1) := by decide +kernel
theorem dX9_phrases_21 : decode cX9_phrases 21 = .ok (.invokevirtual 70, 3) := by decide +kernel
theorem dX9_phrases_24 : decode cX9_phrases 24 = .ok (.ireturn, 1) := by decide +kernel
set_option maxRecDepth 20000 in
theorem ggX9_beginOf_X9_foldAt : GoodIn wsX9_beginOf wsX9_foldAt := goodIn_ca (goodIn_r _ [5, 6, 7, 8, 9, 4, 10, 11, 12, 13, 14, 15, 16, 17, 18, 19, 20, 21, 22, 23, 24, 25, 26, 27, 28, 29, 30, 31, 32, 33, 34] (by decide +kernel) (by decide +kernel)) (goodIn_sub (fun _ h => List.mem_cons_of_mem _ (List.mem_append_right _ h)) (by decide +kernel))
set_option maxRecDepth 20000 in
theorem gX9_beginOf_X9_foldAt : GoodIn wsX9_beginOf (wsV RX9 135 RX9 yX9_foldAt wsX9_foldAt) := goodIn_app (goodIn_of _ (by decide +kernel)) ggX9_beginOf_X9_foldAt
theorem dX9_beginOf_0 : decode cX9_beginOf 0 = .ok (.iconst 0, 1) := by decide +kernel
theorem dX9_beginOf_1 : decode cX9_beginOf 1 = .ok (.istore_n 3, 1) := by decide +kernel
theorem dX9_beginOf_2 : decode cX9_beginOf 2 = .ok (.iconst 0, 1) := by decide +kernel
theorem dX9_beginOf_3 : decode cX9_beginOf 3 = .ok (.istore 4, 2) := by decide +kernel
theorem dX9_beginOf_5 : decode cX9_beginOf 5 = .ok (.iload 4, 2) := by decide +kernel
theorem dX9_beginOf_7 : decode cX9_beginOf 7 = .ok (.iload_n 2, 1) := by decide +kernel
theorem dX9_beginOf_8 : decode cX9_beginOf 8 = .ok (.if_icmp .ge 29, 3) := by decide +kernel
theorem dX9_beginOf_11 : decode cX9_beginOf 11 = .ok (.iload 4, 2) := by decide +kernel
theorem dX9_beginOf_13 : decode cX9_beginOf 13 = .ok (.aload_n 0, 1) := by decide +kernel
theorem dX9_beginOf_14 : decode cX9_beginOf 14 = .ok (.iload_n 1, 1) := by decide +kernel
theorem dX9_beginOf_15 : decode cX9_beginOf 15 = .ok (.iload_n 3, 1) := by decide +kernel
theorem dX9_beginOf_16 : decode cX9_beginOf 16 = .ok (.invokevirtual 135, 3) := by decide +kernel
theorem dX9_beginOf_19 : decode cX9_beginOf 19 = .ok (.iconst 4, 1) := by decide +kernel
theorem dX9_beginOf_20 : decode cX9_beginOf 20 = .ok (.if_icmp .ne 7, 3) := by decide +kernel
theorem dX9_beginOf_23 : decode cX9_beginOf 23 = .ok (.iconst 1, 1) := by decide +kernel
theorem dX9_beginOf_24 : decode cX9_beginOf 24 = .ok (.goto 4, 3) := by decide +kernel
theorem dX9_beginOf_27 : decode cX9_beginOf 27 = .ok (.iconst 0, 1) := by decide +kernel
theorem dX9_beginOf_28 : decode cX9_beginOf 28 = .ok (.iadd, 1) := by decide +kernel
theorem dX9_beginOf_29 : decode cX9_beginOf 29 = .ok (.istore 4, 2) := by decide +kernel
theorem dX9_beginOf_31 : decode cX9_beginOf 31 = .ok (.iinc 3 1, 3) := by decide +kernel
theorem dX9_beginOf_34 : decode cX9_beginOf 34 = .ok (.goto (-29), 3) := by decide +kernel
theorem dX9_beginOf_37 : decode cX9_beginOf 37 = .ok (.iload_n 3, 1) := by decide +kernel
theorem dX9_beginOf_38 : decode cX9_beginOf 38 = .ok (.ireturn, 1) := by decide +kernel
set_option maxRecDepth 20000 in
theorem ggX9_subjectsFrom_X9_foldAt : GoodIn wsX9_subjectsFrom wsX9_foldAt := goodIn_ca (goodIn_r _ [5, 6, 7, 8, 9, 4, 10, 11, 12, 13, 14, 15, 16, 17, 18, 19, 20, 21, 22, 23, 24, 25, 26, 27, 28, 29, 30, 31, 32, 33, 34] (by decide +kernel) (by decide +kernel)) (goodIn_sub (fun _ h => List.mem_cons_of_mem _ (List.mem_append_right _ h)) (by decide +kernel))
set_option maxRecDepth 20000 in
theorem gX9_subjectsFrom_X9_foldAt : GoodIn wsX9_subjectsFrom (wsV RX9 135 RX9 yX9_foldAt wsX9_foldAt) := goodIn_app (goodIn_of _ (by decide +kernel)) ggX9_subjectsFrom_X9_foldAt
theorem dX9_subjectsFrom_0 : decode cX9_subjectsFrom 0 = .ok (.iconst 0, 1) := by decide +kernel
theorem dX9_subjectsFrom_1 : decode cX9_subjectsFrom 1 = .ok (.istore_n 3, 1) := by decide +kernel
theorem dX9_subjectsFrom_2 : decode cX9_subjectsFrom 2 = .ok (.aload_n 0, 1) := by decide +kernel
theorem dX9_subjectsFrom_3 : decode cX9_subjectsFrom 3 = .ok (.iload_n 1, 1) := by decide +kernel
theorem dX9_subjectsFrom_4 : decode cX9_subjectsFrom 4 = .ok (.iload_n 2, 1) := by decide +kernel
theorem dX9_subjectsFrom_5 : decode cX9_subjectsFrom 5 = .ok (.iload_n 3, 1) := by decide +kernel
theorem dX9_subjectsFrom_6 : decode cX9_subjectsFrom 6 = .ok (.iadd, 1) := by decide +kernel
theorem dX9_subjectsFrom_7 : decode cX9_subjectsFrom 7 = .ok (.invokevirtual 135, 3) := by decide +kernel
theorem dX9_subjectsFrom_10 : decode cX9_subjectsFrom 10 = .ok (.iconst 1, 1) := by decide +kernel
theorem dX9_subjectsFrom_11 : decode cX9_subjectsFrom 11 = .ok (.if_icmp .ne 9, 3) := by decide +kernel
theorem dX9_subjectsFrom_14 : decode cX9_subjectsFrom 14 = .ok (.iinc 3 1, 3) := by decide +kernel
theorem dX9_subjectsFrom_17 : decode cX9_subjectsFrom 17 = .ok (.goto (-15), 3) := by decide +kernel
theorem dX9_subjectsFrom_20 : decode cX9_subjectsFrom 20 = .ok (.iload_n 3, 1) := by decide +kernel
theorem dX9_subjectsFrom_21 : decode cX9_subjectsFrom 21 = .ok (.ireturn, 1) := by decide +kernel
set_option maxRecDepth 20000 in
theorem ggX9_doAgree_X9_saidAt : GoodIn wsX9_doAgree wsX9_saidAt := goodIn_ca (goodIn_r _ [6, 1, 7, 8, 9, 5, 10, 11, 12, 13, 14, 15, 16, 17, 18, 19, 20, 21, 22, 23, 24, 25, 26, 27, 28, 29, 30] (by decide +kernel) (by decide +kernel)) (goodIn_sub (fun _ h => List.mem_cons_of_mem _ (List.mem_append_right _ h)) (by decide +kernel))
set_option maxRecDepth 20000 in
theorem gX9_doAgree_X9_saidAt : GoodIn wsX9_doAgree (wsV RX9 129 RX9 yX9_saidAt wsX9_saidAt) := goodIn_app (goodIn_of _ (by decide +kernel)) ggX9_doAgree_X9_saidAt
theorem dX9_doAgree_0 : decode cX9_doAgree 0 = .ok (.aload_n 0, 1) := by decide +kernel
theorem dX9_doAgree_1 : decode cX9_doAgree 1 = .ok (.getfield 7, 3) := by decide +kernel
theorem dX9_doAgree_4 : decode cX9_doAgree 4 = .ok (.iconst 5, 1) := by decide +kernel
theorem dX9_doAgree_5 : decode cX9_doAgree 5 = .ok (.aload_n 0, 1) := by decide +kernel
theorem dX9_doAgree_6 : decode cX9_doAgree 6 = .ok (.iload_n 1, 1) := by decide +kernel
theorem dX9_doAgree_7 : decode cX9_doAgree 7 = .ok (.iload_n 2, 1) := by decide +kernel
theorem dX9_doAgree_8 : decode cX9_doAgree 8 = .ok (.iload_n 3, 1) := by decide +kernel
theorem dX9_doAgree_9 : decode cX9_doAgree 9 = .ok (.iadd, 1) := by decide +kernel
theorem dX9_doAgree_10 : decode cX9_doAgree 10 = .ok (.invokevirtual 129, 3) := by decide +kernel
theorem dX9_doAgree_13 : decode cX9_doAgree 13 = .ok (.iadd, 1) := by decide +kernel
theorem dX9_doAgree_14 : decode cX9_doAgree 14 = .ok (.iaload, 1) := by decide +kernel
theorem dX9_doAgree_15 : decode cX9_doAgree 15 = .ok (.istore 4, 2) := by decide +kernel
theorem dX9_doAgree_17 : decode cX9_doAgree 17 = .ok (.iconst 0, 1) := by decide +kernel
theorem dX9_doAgree_18 : decode cX9_doAgree 18 = .ok (.istore 5, 2) := by decide +kernel
theorem dX9_doAgree_20 : decode cX9_doAgree 20 = .ok (.iload_n 2, 1) := by decide +kernel
theorem dX9_doAgree_21 : decode cX9_doAgree 21 = .ok (.istore 6, 2) := by decide +kernel
theorem dX9_doAgree_23 : decode cX9_doAgree 23 = .ok (.iload 6, 2) := by decide +kernel
theorem dX9_doAgree_25 : decode cX9_doAgree 25 = .ok (.iload_n 2, 1) := by decide +kernel
theorem dX9_doAgree_26 : decode cX9_doAgree 26 = .ok (.iload_n 3, 1) := by decide +kernel
theorem dX9_doAgree_27 : decode cX9_doAgree 27 = .ok (.iadd, 1) := by decide +kernel
theorem dX9_doAgree_28 : decode cX9_doAgree 28 = .ok (.if_icmp .ge 40, 3) := by decide +kernel
theorem dX9_doAgree_31 : decode cX9_doAgree 31 = .ok (.iload 5, 2) := by decide +kernel
theorem dX9_doAgree_33 : decode cX9_doAgree 33 = .ok (.ifCond .ne 22, 3) := by decide +kernel
theorem dX9_doAgree_36 : decode cX9_doAgree 36 = .ok (.aload_n 0, 1) := by decide +kernel
theorem dX9_doAgree_37 : decode cX9_doAgree 37 = .ok (.getfield 7, 3) := by decide +kernel
theorem dX9_doAgree_40 : decode cX9_doAgree 40 = .ok (.iconst 5, 1) := by decide +kernel
theorem dX9_doAgree_41 : decode cX9_doAgree 41 = .ok (.aload_n 0, 1) := by decide +kernel
theorem dX9_doAgree_42 : decode cX9_doAgree 42 = .ok (.iload_n 1, 1) := by decide +kernel
theorem dX9_doAgree_43 : decode cX9_doAgree 43 = .ok (.iload 6, 2) := by decide +kernel
theorem dX9_doAgree_45 : decode cX9_doAgree 45 = .ok (.invokevirtual 129, 3) := by decide +kernel
theorem dX9_doAgree_48 : decode cX9_doAgree 48 = .ok (.iadd, 1) := by decide +kernel
theorem dX9_doAgree_49 : decode cX9_doAgree 49 = .ok (.iaload, 1) := by decide +kernel
theorem dX9_doAgree_50 : decode cX9_doAgree 50 = .ok (.iload 4, 2) := by decide +kernel
theorem dX9_doAgree_52 : decode cX9_doAgree 52 = .ok (.if_icmp .ne 7, 3) := by decide +kernel
theorem dX9_doAgree_55 : decode cX9_doAgree 55 = .ok (.iconst 1, 1) := by decide +kernel
theorem dX9_doAgree_56 : decode cX9_doAgree 56 = .ok (.goto 4, 3) := by decide +kernel
theorem dX9_doAgree_59 : decode cX9_doAgree 59 = .ok (.iconst 0, 1) := by decide +kernel
theorem dX9_doAgree_60 : decode cX9_doAgree 60 = .ok (.istore 5, 2) := by decide +kernel
theorem dX9_doAgree_62 : decode cX9_doAgree 62 = .ok (.iinc 6 1, 3) := by decide +kernel
theorem dX9_doAgree_65 : decode cX9_doAgree 65 = .ok (.goto (-42), 3) := by decide +kernel
theorem dX9_doAgree_68 : decode cX9_doAgree 68 = .ok (.iload 5, 2) := by decide +kernel
theorem dX9_doAgree_70 : decode cX9_doAgree 70 = .ok (.ireturn, 1) := by decide +kernel
set_option maxRecDepth 20000 in
theorem ggX9_objectAt_X9_countOf : GoodIn wsX9_objectAt wsX9_countOf := goodIn_ca (goodIn_r _ [5, 6, 7, 8, 9, 4, 10, 19, 20, 21, 22, 23, 24, 25, 26, 27, 28, 29, 30, 31, 32, 33, 34, 35, 36, 37, 38] (by decide +kernel) (by decide +kernel)) (goodIn_sub (fun _ h => List.mem_cons_of_mem _ (List.mem_append_right _ h)) (by decide +kernel))
set_option maxRecDepth 20000 in
theorem gX9_objectAt_X9_countOf : GoodIn wsX9_objectAt (wsV RX9 132 RX9 yX9_countOf wsX9_countOf) := goodIn_app (goodIn_of _ (by decide +kernel)) ggX9_objectAt_X9_countOf
set_option maxRecDepth 20000 in
theorem ggX9_objectAt_X9_foldAt : GoodIn wsX9_objectAt wsX9_foldAt := goodIn_ca (goodIn_r _ [14, 6, 15, 16, 17, 4, 18, 7, 8, 9, 10, 19, 20, 21, 22, 23, 24, 25, 26, 27, 28, 29, 30, 31, 32, 33, 34, 35, 36, 37, 38] (by decide +kernel) (by decide +kernel)) (goodIn_sub (fun _ h => List.mem_cons_of_mem _ (List.mem_append_right _ h)) (by decide +kernel))
set_option maxRecDepth 20000 in
theorem gX9_objectAt_X9_foldAt : GoodIn wsX9_objectAt (wsV RX9 135 RX9 yX9_foldAt wsX9_foldAt) := goodIn_app (goodIn_of _ (by decide +kernel)) ggX9_objectAt_X9_foldAt
set_option maxRecDepth 20000 in
theorem ggX9_objectAt_X9_saidAt : GoodIn wsX9_objectAt wsX9_saidAt := goodIn_ca (goodIn_r _ [18, 6, 7, 8, 9, 4, 10, 19, 20, 21, 22, 23, 24, 25, 26, 27, 28, 29, 30, 31, 32, 33, 34, 35, 36, 37, 38] (by decide +kernel) (by decide +kernel)) (goodIn_sub (fun _ h => List.mem_cons_of_mem _ (List.mem_append_right _ h)) (by decide +kernel))
set_option maxRecDepth 20000 in
theorem gX9_objectAt_X9_saidAt : GoodIn wsX9_objectAt (wsV RX9 129 RX9 yX9_saidAt wsX9_saidAt) := goodIn_app (goodIn_of _ (by decide +kernel)) ggX9_objectAt_X9_saidAt
theorem dX9_objectAt_0 : decode cX9_objectAt 0 = .ok (.iload_n 2, 1) := by decide +kernel
theorem dX9_objectAt_1 : decode cX9_objectAt 1 = .ok (.aload_n 0, 1) := by decide +kernel
theorem dX9_objectAt_2 : decode cX9_objectAt 2 = .ok (.iload_n 1, 1) := by decide +kernel
theorem dX9_objectAt_3 : decode cX9_objectAt 3 = .ok (.iconst 0, 1) := by decide +kernel
theorem dX9_objectAt_4 : decode cX9_objectAt 4 = .ok (.invokevirtual 132, 3) := by decide +kernel
theorem dX9_objectAt_7 : decode cX9_objectAt 7 = .ok (.if_icmp .ge 22, 3) := by decide +kernel
theorem dX9_objectAt_10 : decode cX9_objectAt 10 = .ok (.aload_n 0, 1) := by decide +kernel
theorem dX9_objectAt_11 : decode cX9_objectAt 11 = .ok (.iload_n 1, 1) := by decide +kernel
theorem dX9_objectAt_12 : decode cX9_objectAt 12 = .ok (.iload_n 2, 1) := by decide +kernel
theorem dX9_objectAt_13 : decode cX9_objectAt 13 = .ok (.invokevirtual 135, 3) := by decide +kernel
theorem dX9_objectAt_16 : decode cX9_objectAt 16 = .ok (.iconst 3, 1) := by decide +kernel
theorem dX9_objectAt_17 : decode cX9_objectAt 17 = .ok (.if_icmp .ne 12, 3) := by decide +kernel
theorem dX9_objectAt_20 : decode cX9_objectAt 20 = .ok (.aload_n 0, 1) := by decide +kernel
theorem dX9_objectAt_21 : decode cX9_objectAt 21 = .ok (.iload_n 1, 1) := by decide +kernel
theorem dX9_objectAt_22 : decode cX9_objectAt 22 = .ok (.iload_n 2, 1) := by decide +kernel
theorem dX9_objectAt_23 : decode cX9_objectAt 23 = .ok (.invokevirtual 129, 3) := by decide +kernel
theorem dX9_objectAt_26 : decode cX9_objectAt 26 = .ok (.goto 4, 3) := by decide +kernel
theorem dX9_objectAt_29 : decode cX9_objectAt 29 = .ok (.iconst (-1), 1) := by decide +kernel
theorem dX9_objectAt_30 : decode cX9_objectAt 30 = .ok (.ireturn, 1) := by decide +kernel
set_option maxRecDepth 20000 in
theorem ggX9_phraseOf_X9_isTable : GoodIn wsX9_phraseOf wsX9_isTable := goodIn_r _ [4, 5, 6, 3, 7] (by decide +kernel) (by decide +kernel)
set_option maxRecDepth 20000 in
theorem gX9_phraseOf_X9_isTable : GoodIn wsX9_phraseOf (va_wsS RX9 100 yX9_isTable wsX9_isTable) := goodIn_app (goodIn_of _ (by decide +kernel)) ggX9_phraseOf_X9_isTable
set_option maxRecDepth 20000 in
theorem ggX9_phraseOf_X9_fails : GoodIn wsX9_phraseOf wsX9_fails := goodIn_r _ [11, 12, 13, 69, 70, 71, 72, 73, 74, 75, 76, 77, 78, 79, 80, 81, 82, 83, 84, 85, 86, 87, 88] (by decide +kernel) (by decide +kernel)
set_option maxRecDepth 20000 in
theorem gX9_phraseOf_X9_fails : GoodIn wsX9_phraseOf (wsV RX9 70 RX9 yX9_fails wsX9_fails) := goodIn_app (goodIn_of _ (by decide +kernel)) ggX9_phraseOf_X9_fails
set_option maxRecDepth 20000 in
theorem ggX9_phraseOf_X9_phrasesOf : GoodIn wsX9_phraseOf wsX9_phrasesOf := goodIn_ca (goodIn_r _ [17, 18, 19, 20, 3, 21, 22, 23, 24, 25, 26, 27, 28, 29, 30, 31, 32, 33, 34, 35, 36, 37, 38, 39, 40, 41, 42, 43, 44, 45, 46, 47, 48, 69, 70, 71, 72, 73, 74, 75, 76, 77, 78, 79, 80, 81, 82, 83, 84, 85, 86, 87, 88] (by decide +kernel) (by decide +kernel)) (goodIn_sub (fun _ h => List.mem_cons_of_mem _ (List.mem_append_right _ h)) (by decide +kernel))
set_option maxRecDepth 20000 in
theorem gX9_phraseOf_X9_phrasesOf : GoodIn wsX9_phraseOf (wsV RX9 150 RX9 yX9_phrasesOf wsX9_phrasesOf) := goodIn_app (goodIn_of _ (by decide +kernel)) ggX9_phraseOf_X9_phrasesOf
set_option maxRecDepth 20000 in
theorem ggX9_phraseOf_X9_in : GoodIn wsX9_phraseOf wsX9_in := goodIn_r _ [7] (by decide +kernel) (by decide +kernel)
set_option maxRecDepth 20000 in
theorem gX9_phraseOf_X9_in : GoodIn wsX9_phraseOf (va_wsS RX9 62 yX9_in wsX9_in) := goodIn_app (goodIn_of _ (by decide +kernel)) ggX9_phraseOf_X9_in
set_option maxRecDepth 20000 in
theorem ggX9_phraseOf_X9_beginOf : GoodIn wsX9_phraseOf wsX9_beginOf := goodIn_ca (goodIn_r _ [52, 35, 36, 37, 3, 38, 30, 39, 40, 41, 42, 31, 32, 33, 34, 69, 70, 71, 72, 73, 74, 75, 76, 77, 78, 79, 80, 81, 82, 83, 84, 85, 86, 87, 88] (by decide +kernel) (by decide +kernel)) (goodIn_sub (fun _ h => List.mem_cons_of_mem _ (List.mem_append_right _ h)) (by decide +kernel))
set_option maxRecDepth 20000 in
theorem gX9_phraseOf_X9_beginOf : GoodIn wsX9_phraseOf (wsV RX9 162 RX9 yX9_beginOf wsX9_beginOf) := goodIn_app (goodIn_of _ (by decide +kernel)) ggX9_phraseOf_X9_beginOf
set_option maxRecDepth 20000 in
theorem ggX9_phraseOf_X9_subjectsFrom : GoodIn wsX9_phraseOf wsX9_subjectsFrom := goodIn_ca (goodIn_r _ [56, 35, 36, 37, 3, 38, 30, 39, 40, 41, 42, 31, 32, 33, 34, 69, 70, 71, 72, 73, 74, 75, 76, 77, 78, 79, 80, 81, 82, 83, 84, 85, 86, 87, 88] (by decide +kernel) (by decide +kernel)) (goodIn_sub (fun _ h => List.mem_cons_of_mem _ (List.mem_append_right _ h)) (by decide +kernel))
set_option maxRecDepth 20000 in
theorem gX9_phraseOf_X9_subjectsFrom : GoodIn wsX9_phraseOf (wsV RX9 165 RX9 yX9_subjectsFrom wsX9_subjectsFrom) := goodIn_app (goodIn_of _ (by decide +kernel)) ggX9_phraseOf_X9_subjectsFrom
set_option maxRecDepth 20000 in
theorem ggX9_phraseOf_X9_done : GoodIn wsX9_phraseOf wsX9_done := goodIn_r _ [60, 12, 69, 70, 71, 72, 73, 74, 75, 76, 77, 78, 79, 80, 81, 82, 83, 84, 85, 86, 87, 88] (by decide +kernel) (by decide +kernel)
set_option maxRecDepth 20000 in
theorem gX9_phraseOf_X9_done : GoodIn wsX9_phraseOf (wsV RX9 78 RX9 yX9_done wsX9_done) := goodIn_app (goodIn_of _ (by decide +kernel)) ggX9_phraseOf_X9_done
set_option maxRecDepth 20000 in
theorem ggX9_phraseOf_X9_saidAt : GoodIn wsX9_phraseOf wsX9_saidAt := goodIn_ca (goodIn_r _ [42, 30, 31, 32, 33, 3, 34, 69, 70, 71, 72, 73, 74, 75, 76, 77, 78, 79, 80, 81, 82, 83, 84, 85, 86, 87, 88] (by decide +kernel) (by decide +kernel)) (goodIn_sub (fun _ h => List.mem_cons_of_mem _ (List.mem_append_right _ h)) (by decide +kernel))
set_option maxRecDepth 20000 in
theorem gX9_phraseOf_X9_saidAt : GoodIn wsX9_phraseOf (wsV RX9 129 RX9 yX9_saidAt wsX9_saidAt) := goodIn_app (goodIn_of _ (by decide +kernel)) ggX9_phraseOf_X9_saidAt
set_option maxRecDepth 20000 in
theorem ggX9_phraseOf_X9_objectAt : GoodIn wsX9_phraseOf wsX9_objectAt := goodIn_ca (goodIn_r _ [64, 26, 27, 28, 3, 29, 30, 31, 32, 33, 34, 35, 36, 37, 38, 39, 40, 41, 42, 69, 70, 71, 72, 73, 74, 75, 76, 77, 78, 79, 80, 81, 82, 83, 84, 85, 86, 87, 88] (by decide +kernel) (by decide +kernel)) (goodIn_sub (fun _ h => List.mem_cons_of_mem _ (List.mem_append_right _ h)) (by decide +kernel))
set_option maxRecDepth 20000 in
theorem gX9_phraseOf_X9_objectAt : GoodIn wsX9_phraseOf (wsV RX9 168 RX9 yX9_objectAt wsX9_objectAt) := goodIn_app (goodIn_of _ (by decide +kernel)) ggX9_phraseOf_X9_objectAt
set_option maxRecDepth 20000 in
theorem ggX9_phraseOf_X9_doAgree : GoodIn wsX9_phraseOf wsX9_doAgree := goodIn_ca (goodIn_r _ [68, 30, 39, 40, 41, 3, 42, 31, 32, 33, 34, 69, 70, 71, 72, 73, 74, 75, 76, 77, 78, 79, 80, 81, 82, 83, 84, 85, 86, 87, 88] (by decide +kernel) (by decide +kernel)) (goodIn_sub (fun _ h => List.mem_cons_of_mem _ (List.mem_append_right _ h)) (by decide +kernel))
set_option maxRecDepth 20000 in
theorem gX9_phraseOf_X9_doAgree : GoodIn wsX9_phraseOf (wsV RX9 171 RX9 yX9_doAgree wsX9_doAgree) := goodIn_app (goodIn_of _ (by decide +kernel)) ggX9_phraseOf_X9_doAgree
theorem dX9_phraseOf_0 : decode cX9_phraseOf 0 = .ok (.iload_n 1, 1) := by decide +kernel
theorem dX9_phraseOf_1 : decode cX9_phraseOf 1 = .ok (.invokestatic 100, 3) := by decide +kernel
theorem dX9_phraseOf_4 : decode cX9_phraseOf 4 = .ok (.ifCond .ne 9, 3) := by decide +kernel
theorem dX9_phraseOf_7 : decode cX9_phraseOf 7 = .ok (.aload_n 0, 1) := by decide +kernel
theorem dX9_phraseOf_8 : decode cX9_phraseOf 8 = .ok (.iconst 1, 1) := by decide +kernel
theorem dX9_phraseOf_9 : decode cX9_phraseOf 9 = .ok (.invokevirtual 70, 3) := by decide +kernel
theorem dX9_phraseOf_12 : decode cX9_phraseOf 12 = .ok (.ireturn, 1) := by decide +kernel
theorem dX9_phraseOf_13 : decode cX9_phraseOf 13 = .ok (.iload_n 2, 1) := by decide +kernel
theorem dX9_phraseOf_14 : decode cX9_phraseOf 14 = .ok (.iconst 0, 1) := by decide +kernel
theorem dX9_phraseOf_15 : decode cX9_phraseOf 15 = .ok (.aload_n 0, 1) := by decide +kernel
theorem dX9_phraseOf_16 : decode cX9_phraseOf 16 = .ok (.iload_n 1, 1) := by decide +kernel
theorem dX9_phraseOf_17 : decode cX9_phraseOf 17 = .ok (.invokevirtual 150, 3) := by decide +kernel
theorem dX9_phraseOf_20 : decode cX9_phraseOf 20 = .ok (.iconst 1, 1) := by decide +kernel
theorem dX9_phraseOf_21 : decode cX9_phraseOf 21 = .ok (.isub, 1) := by decide +kernel
theorem dX9_phraseOf_22 : decode cX9_phraseOf 22 = .ok (.invokestatic 62, 3) := by decide +kernel
theorem dX9_phraseOf_25 : decode cX9_phraseOf 25 = .ok (.ifCond .ne 9, 3) := by decide +kernel
theorem dX9_phraseOf_28 : decode cX9_phraseOf 28 = .ok (.aload_n 0, 1) := by decide +kernel
theorem dX9_phraseOf_29 : decode cX9_phraseOf 29 = .ok (.iconst 2, 1) := by decide +kernel
theorem dX9_phraseOf_30 : decode cX9_phraseOf 30 = .ok (.invokevirtual 70, 3) := by decide +kernel
theorem dX9_phraseOf_33 : decode cX9_phraseOf 33 = .ok (.ireturn, 1) := by decide +kernel
theorem dX9_phraseOf_34 : decode cX9_phraseOf 34 = .ok (.aload_n 0, 1) := by decide +kernel
theorem dX9_phraseOf_35 : decode cX9_phraseOf 35 = .ok (.iload_n 1, 1) := by decide +kernel
theorem dX9_phraseOf_36 : decode cX9_phraseOf 36 = .ok (.iload_n 2, 1) := by decide +kernel
theorem dX9_phraseOf_37 : decode cX9_phraseOf 37 = .ok (.invokevirtual 162, 3) := by decide +kernel
theorem dX9_phraseOf_40 : decode cX9_phraseOf 40 = .ok (.istore 4, 2) := by decide +kernel
theorem dX9_phraseOf_42 : decode cX9_phraseOf 42 = .ok (.aload_n 0, 1) := by decide +kernel
theorem dX9_phraseOf_43 : decode cX9_phraseOf 43 = .ok (.iload_n 1, 1) := by decide +kernel
theorem dX9_phraseOf_44 : decode cX9_phraseOf 44 = .ok (.iload 4, 2) := by decide +kernel
theorem dX9_phraseOf_46 : decode cX9_phraseOf 46 = .ok (.invokevirtual 165, 3) := by decide +kernel
theorem dX9_phraseOf_49 : decode cX9_phraseOf 49 = .ok (.istore 5, 2) := by decide +kernel
theorem dX9_phraseOf_51 : decode cX9_phraseOf 51 = .ok (.iload_n 3, 1) := by decide +kernel
theorem dX9_phraseOf_52 : decode cX9_phraseOf 52 = .ok (.tableswitch 93 0 3 #[32, 39, 54, 71], 32) := by decide +kernel
theorem dX9_phraseOf_84 : decode cX9_phraseOf 84 = .ok (.aload_n 0, 1) := by decide +kernel
theorem dX9_phraseOf_85 : decode cX9_phraseOf 85 = .ok (.iload 5, 2) := by decide +kernel
theorem dX9_phraseOf_87 : decode cX9_phraseOf 87 = .ok (.invokevirtual 78, 3) := by decide +kernel
theorem dX9_phraseOf_90 : decode cX9_phraseOf 90 = .ok (.ireturn, 1) := by decide +kernel
theorem dX9_phraseOf_91 : decode cX9_phraseOf 91 = .ok (.aload_n 0, 1) := by decide +kernel
theorem dX9_phraseOf_92 : decode cX9_phraseOf 92 = .ok (.aload_n 0, 1) := by decide +kernel
theorem dX9_phraseOf_93 : decode cX9_phraseOf 93 = .ok (.iload_n 1, 1) := by decide +kernel
theorem dX9_phraseOf_94 : decode cX9_phraseOf 94 = .ok (.iload 4, 2) := by decide +kernel
theorem dX9_phraseOf_96 : decode cX9_phraseOf 96 = .ok (.iload 5, 2) := by decide +kernel
theorem dX9_phraseOf_98 : decode cX9_phraseOf 98 = .ok (.iadd, 1) := by decide +kernel
theorem dX9_phraseOf_99 : decode cX9_phraseOf 99 = .ok (.invokevirtual 129, 3) := by decide +kernel
theorem dX9_phraseOf_102 : decode cX9_phraseOf 102 = .ok (.invokevirtual 78, 3) := by decide +kernel
theorem dX9_phraseOf_105 : decode cX9_phraseOf 105 = .ok (.ireturn, 1) := by decide +kernel
theorem dX9_phraseOf_106 : decode cX9_phraseOf 106 = .ok (.aload_n 0, 1) := by decide +kernel
theorem dX9_phraseOf_107 : decode cX9_phraseOf 107 = .ok (.aload_n 0, 1) := by decide +kernel
theorem dX9_phraseOf_108 : decode cX9_phraseOf 108 = .ok (.iload_n 1, 1) := by decide +kernel
theorem dX9_phraseOf_109 : decode cX9_phraseOf 109 = .ok (.iload 4, 2) := by decide +kernel
theorem dX9_phraseOf_111 : decode cX9_phraseOf 111 = .ok (.iload 5, 2) := by decide +kernel
theorem dX9_phraseOf_113 : decode cX9_phraseOf 113 = .ok (.iadd, 1) := by decide +kernel
theorem dX9_phraseOf_114 : decode cX9_phraseOf 114 = .ok (.iconst 1, 1) := by decide +kernel
theorem dX9_phraseOf_115 : decode cX9_phraseOf 115 = .ok (.iadd, 1) := by decide +kernel
theorem dX9_phraseOf_116 : decode cX9_phraseOf 116 = .ok (.invokevirtual 168, 3) := by decide +kernel
theorem dX9_phraseOf_119 : decode cX9_phraseOf 119 = .ok (.invokevirtual 78, 3) := by decide +kernel
theorem dX9_phraseOf_122 : decode cX9_phraseOf 122 = .ok (.ireturn, 1) := by decide +kernel
theorem dX9_phraseOf_123 : decode cX9_phraseOf 123 = .ok (.aload_n 0, 1) := by decide +kernel
theorem dX9_phraseOf_124 : decode cX9_phraseOf 124 = .ok (.aload_n 0, 1) := by decide +kernel
theorem dX9_phraseOf_125 : decode cX9_phraseOf 125 = .ok (.iload_n 1, 1) := by decide +kernel
theorem dX9_phraseOf_126 : decode cX9_phraseOf 126 = .ok (.iload 4, 2) := by decide +kernel
theorem dX9_phraseOf_128 : decode cX9_phraseOf 128 = .ok (.iload 5, 2) := by decide +kernel
theorem dX9_phraseOf_130 : decode cX9_phraseOf 130 = .ok (.invokevirtual 171, 3) := by decide +kernel
theorem dX9_phraseOf_133 : decode cX9_phraseOf 133 = .ok (.ifCond .eq 7, 3) := by decide +kernel
theorem dX9_phraseOf_136 : decode cX9_phraseOf 136 = .ok (.iconst 1, 1) := by decide +kernel
theorem dX9_phraseOf_137 : decode cX9_phraseOf 137 = .ok (.goto 4, 3) := by decide +kernel
theorem dX9_phraseOf_140 : decode cX9_phraseOf 140 = .ok (.iconst 0, 1) := by decide +kernel
theorem dX9_phraseOf_141 : decode cX9_phraseOf 141 = .ok (.invokevirtual 78, 3) := by decide +kernel
theorem dX9_phraseOf_144 : decode cX9_phraseOf 144 = .ok (.ireturn, 1) := by decide +kernel
theorem dX9_phraseOf_145 : decode cX9_phraseOf 145 = .ok (.aload_n 0, 1) := by decide +kernel
theorem dX9_phraseOf_146 : decode cX9_phraseOf 146 = .ok (.iconst 3, 1) := by decide +kernel
theorem dX9_phraseOf_147 : decode cX9_phraseOf 147 = .ok (.invokevirtual 70, 3) := by decide +kernel
theorem dX9_phraseOf_150 : decode cX9_phraseOf 150 = .ok (.ireturn, 1) := by decide +kernel
set_option maxRecDepth 20000 in
theorem ggX9_next_X9_isTable : GoodIn wsX9_next wsX9_isTable := goodIn_r _ [4, 5, 6, 3, 7] (by decide +kernel) (by decide +kernel)
set_option maxRecDepth 20000 in
theorem gX9_next_X9_isTable : GoodIn wsX9_next (va_wsS RX9 100 yX9_isTable wsX9_isTable) := goodIn_app (goodIn_of _ (by decide +kernel)) ggX9_next_X9_isTable
set_option maxRecDepth 20000 in
theorem ggX9_next_X9_fails : GoodIn wsX9_next wsX9_fails := goodIn_r _ [11, 12, 13, 42, 43, 44, 45, 46, 47, 48, 49, 50, 51, 52, 53, 54, 55, 56, 57, 58, 59, 60, 61] (by decide +kernel) (by decide +kernel)
set_option maxRecDepth 20000 in
theorem gX9_next_X9_fails : GoodIn wsX9_next (wsV RX9 70 RX9 yX9_fails wsX9_fails) := goodIn_app (goodIn_of _ (by decide +kernel)) ggX9_next_X9_fails
set_option maxRecDepth 20000 in
theorem ggX9_next_X9_stateOf : GoodIn wsX9_next wsX9_stateOf := goodIn_ca (goodIn_r _ [17, 18, 19, 20, 3, 21, 22, 23, 24, 25, 26, 27, 28, 29, 30, 31, 32, 33, 34, 35, 36, 37, 42, 43, 44, 45, 46, 47, 48, 49, 50, 51, 52, 53, 54, 55, 56, 57, 58, 59, 60, 61] (by decide +kernel) (by decide +kernel)) (goodIn_sub (fun _ h => List.mem_cons_of_mem _ (List.mem_append_right _ h)) (by decide +kernel))
set_option maxRecDepth 20000 in
theorem gX9_next_X9_stateOf : GoodIn wsX9_next (wsV RX9 141 RX9 yX9_stateOf wsX9_stateOf) := goodIn_app (goodIn_of _ (by decide +kernel)) ggX9_next_X9_stateOf
set_option maxRecDepth 20000 in
theorem ggX9_next_X9_goesOn : GoodIn wsX9_next wsX9_goesOn := goodIn_r _ [37] (by decide +kernel) (by decide +kernel)
set_option maxRecDepth 20000 in
theorem gX9_next_X9_goesOn : GoodIn wsX9_next (va_wsS RX9 138 yX9_goesOn wsX9_goesOn) := goodIn_app (goodIn_of _ (by decide +kernel)) ggX9_next_X9_goesOn
set_option maxRecDepth 20000 in
theorem ggX9_next_X9_done : GoodIn wsX9_next wsX9_done := goodIn_r _ [41, 12, 42, 43, 44, 45, 46, 47, 48, 49, 50, 51, 52, 53, 54, 55, 56, 57, 58, 59, 60, 61] (by decide +kernel) (by decide +kernel)
set_option maxRecDepth 20000 in
theorem gX9_next_X9_done : GoodIn wsX9_next (wsV RX9 78 RX9 yX9_done wsX9_done) := goodIn_app (goodIn_of _ (by decide +kernel)) ggX9_next_X9_done
theorem dX9_next_0 : decode cX9_next 0 = .ok (.iload_n 1, 1) := by decide +kernel
theorem dX9_next_1 : decode cX9_next 1 = .ok (.invokestatic 100, 3) := by decide +kernel
theorem dX9_next_4 : decode cX9_next 4 = .ok (.ifCond .ne 9, 3) := by decide +kernel
theorem dX9_next_7 : decode cX9_next 7 = .ok (.aload_n 0, 1) := by decide +kernel
theorem dX9_next_8 : decode cX9_next 8 = .ok (.iconst 1, 1) := by decide +kernel
theorem dX9_next_9 : decode cX9_next 9 = .ok (.invokevirtual 70, 3) := by decide +kernel
theorem dX9_next_12 : decode cX9_next 12 = .ok (.ireturn, 1) := by decide +kernel
theorem dX9_next_13 : decode cX9_next 13 = .ok (.iconst 0, 1) := by decide +kernel
theorem dX9_next_14 : decode cX9_next 14 = .ok (.istore_n 2, 1) := by decide +kernel
theorem dX9_next_15 : decode cX9_next 15 = .ok (.iconst 1, 1) := by decide +kernel
theorem dX9_next_16 : decode cX9_next 16 = .ok (.istore_n 3, 1) := by decide +kernel
theorem dX9_next_17 : decode cX9_next 17 = .ok (.iload_n 3, 1) := by decide +kernel
theorem dX9_next_18 : decode cX9_next 18 = .ok (.iconst 4, 1) := by decide +kernel
theorem dX9_next_19 : decode cX9_next 19 = .ok (.if_icmp .gt 32, 3) := by decide +kernel
theorem dX9_next_22 : decode cX9_next 22 = .ok (.iload_n 2, 1) := by decide +kernel
theorem dX9_next_23 : decode cX9_next 23 = .ok (.aload_n 0, 1) := by decide +kernel
theorem dX9_next_24 : decode cX9_next 24 = .ok (.iload_n 1, 1) := by decide +kernel
theorem dX9_next_25 : decode cX9_next 25 = .ok (.invokevirtual 141, 3) := by decide +kernel
theorem dX9_next_28 : decode cX9_next 28 = .ok (.iload_n 3, 1) := by decide +kernel
theorem dX9_next_29 : decode cX9_next 29 = .ok (.invokestatic 138, 3) := by decide +kernel
theorem dX9_next_32 : decode cX9_next 32 = .ok (.iconst 4, 1) := by decide +kernel
theorem dX9_next_33 : decode cX9_next 33 = .ok (.if_icmp .ne 7, 3) := by decide +kernel
theorem dX9_next_36 : decode cX9_next 36 = .ok (.iconst 0, 1) := by decide +kernel
theorem dX9_next_37 : decode cX9_next 37 = .ok (.goto 6, 3) := by decide +kernel
theorem dX9_next_40 : decode cX9_next 40 = .ok (.iconst 1, 1) := by decide +kernel
theorem dX9_next_41 : decode cX9_next 41 = .ok (.iload_n 3, 1) := by decide +kernel
theorem dX9_next_42 : decode cX9_next 42 = .ok (.ishl, 1) := by decide +kernel
theorem dX9_next_43 : decode cX9_next 43 = .ok (.ior, 1) := by decide +kernel
theorem dX9_next_44 : decode cX9_next 44 = .ok (.istore_n 2, 1) := by decide +kernel
theorem dX9_next_45 : decode cX9_next 45 = .ok (.iinc 3 1, 3) := by decide +kernel
theorem dX9_next_48 : decode cX9_next 48 = .ok (.goto (-31), 3) := by decide +kernel
theorem dX9_next_51 : decode cX9_next 51 = .ok (.aload_n 0, 1) := by decide +kernel
theorem dX9_next_52 : decode cX9_next 52 = .ok (.iload_n 2, 1) := by decide +kernel
theorem dX9_next_53 : decode cX9_next 53 = .ok (.invokevirtual 78, 3) := by decide +kernel
theorem dX9_next_56 : decode cX9_next 56 = .ok (.ireturn, 1) := by decide +kernel
set_option maxRecDepth 20000 in
theorem ggX9_leftOut_X9_countOf : GoodIn wsX9_leftOut wsX9_countOf := goodIn_ca (goodIn_r _ [5, 6, 7, 8, 9, 4, 10, 25, 26, 27, 28, 29, 30, 31, 32, 33, 34, 35, 36, 37, 38, 39, 40, 41, 42, 43, 44] (by decide +kernel) (by decide +kernel)) (goodIn_sub (fun _ h => List.mem_cons_of_mem _ (List.mem_append_right _ h)) (by decide +kernel))
set_option maxRecDepth 20000 in
theorem gX9_leftOut_X9_countOf : GoodIn wsX9_leftOut (wsV RX9 132 RX9 yX9_countOf wsX9_countOf) := goodIn_app (goodIn_of _ (by decide +kernel)) ggX9_leftOut_X9_countOf
set_option maxRecDepth 20000 in
theorem ggX9_leftOut_X9_foldAt : GoodIn wsX9_leftOut wsX9_foldAt := goodIn_ca (goodIn_r _ [14, 6, 15, 16, 17, 4, 18, 7, 8, 9, 10, 25, 26, 27, 28, 29, 30, 31, 32, 33, 34, 35, 36, 37, 38, 39, 40, 41, 42, 43, 44] (by decide +kernel) (by decide +kernel)) (goodIn_sub (fun _ h => List.mem_cons_of_mem _ (List.mem_append_right _ h)) (by decide +kernel))
set_option maxRecDepth 20000 in
theorem gX9_leftOut_X9_foldAt : GoodIn wsX9_leftOut (wsV RX9 135 RX9 yX9_foldAt wsX9_foldAt) := goodIn_app (goodIn_of _ (by decide +kernel)) ggX9_leftOut_X9_foldAt
set_option maxRecDepth 20000 in
theorem ggX9_leftOut_X9_goesOn : GoodIn wsX9_leftOut wsX9_goesOn := goodIn_r _ [21] (by decide +kernel) (by decide +kernel)
set_option maxRecDepth 20000 in
theorem gX9_leftOut_X9_goesOn : GoodIn wsX9_leftOut (va_wsS RX9 138 yX9_goesOn wsX9_goesOn) := goodIn_app (goodIn_of _ (by decide +kernel)) ggX9_leftOut_X9_goesOn
set_option maxRecDepth 20000 in
theorem ggX9_leftOut_X9_isEnd : GoodIn wsX9_leftOut wsX9_isEnd := goodIn_r _ [24] (by decide +kernel) (by decide +kernel)
set_option maxRecDepth 20000 in
theorem gX9_leftOut_X9_isEnd : GoodIn wsX9_leftOut (va_wsS RX9 144 yX9_isEnd wsX9_isEnd) := goodIn_app (goodIn_of _ (by decide +kernel)) ggX9_leftOut_X9_isEnd
theorem dX9_leftOut_0 : decode cX9_leftOut 0 = .ok (.iconst 0, 1) := by decide +kernel
theorem dX9_leftOut_1 : decode cX9_leftOut 1 = .ok (.istore_n 3, 1) := by decide +kernel
theorem dX9_leftOut_2 : decode cX9_leftOut 2 = .ok (.iconst 0, 1) := by decide +kernel
theorem dX9_leftOut_3 : decode cX9_leftOut 3 = .ok (.istore 4, 2) := by decide +kernel
theorem dX9_leftOut_5 : decode cX9_leftOut 5 = .ok (.iconst 0, 1) := by decide +kernel
theorem dX9_leftOut_6 : decode cX9_leftOut 6 = .ok (.istore 5, 2) := by decide +kernel
theorem dX9_leftOut_8 : decode cX9_leftOut 8 = .ok (.iload 5, 2) := by decide +kernel
theorem dX9_leftOut_10 : decode cX9_leftOut 10 = .ok (.aload_n 0, 1) := by decide +kernel
theorem dX9_leftOut_11 : decode cX9_leftOut 11 = .ok (.iload_n 1, 1) := by decide +kernel
theorem dX9_leftOut_12 : decode cX9_leftOut 12 = .ok (.iconst 0, 1) := by decide +kernel
theorem dX9_leftOut_13 : decode cX9_leftOut 13 = .ok (.invokevirtual 132, 3) := by decide +kernel
theorem dX9_leftOut_16 : decode cX9_leftOut 16 = .ok (.if_icmp .ge 62, 3) := by decide +kernel
theorem dX9_leftOut_19 : decode cX9_leftOut 19 = .ok (.iload_n 2, 1) := by decide +kernel
theorem dX9_leftOut_20 : decode cX9_leftOut 20 = .ok (.iload 5, 2) := by decide +kernel
theorem dX9_leftOut_22 : decode cX9_leftOut 22 = .ok (.ishr, 1) := by decide +kernel
theorem dX9_leftOut_23 : decode cX9_leftOut 23 = .ok (.iconst 1, 1) := by decide +kernel
theorem dX9_leftOut_24 : decode cX9_leftOut 24 = .ok (.iand, 1) := by decide +kernel
theorem dX9_leftOut_25 : decode cX9_leftOut 25 = .ok (.iconst 1, 1) := by decide +kernel
theorem dX9_leftOut_26 : decode cX9_leftOut 26 = .ok (.if_icmp .ne 7, 3) := by decide +kernel
theorem dX9_leftOut_29 : decode cX9_leftOut 29 = .ok (.iconst 1, 1) := by decide +kernel
theorem dX9_leftOut_30 : decode cX9_leftOut 30 = .ok (.goto 4, 3) := by decide +kernel
theorem dX9_leftOut_33 : decode cX9_leftOut 33 = .ok (.iconst 0, 1) := by decide +kernel
theorem dX9_leftOut_34 : decode cX9_leftOut 34 = .ok (.istore 6, 2) := by decide +kernel
theorem dX9_leftOut_36 : decode cX9_leftOut 36 = .ok (.iload 4, 2) := by decide +kernel
theorem dX9_leftOut_38 : decode cX9_leftOut 38 = .ok (.iload 6, 2) := by decide +kernel
theorem dX9_leftOut_40 : decode cX9_leftOut 40 = .ok (.ifCond .eq 7, 3) := by decide +kernel
theorem dX9_leftOut_43 : decode cX9_leftOut 43 = .ok (.iconst 1, 1) := by decide +kernel
theorem dX9_leftOut_44 : decode cX9_leftOut 44 = .ok (.goto 4, 3) := by decide +kernel
theorem dX9_leftOut_47 : decode cX9_leftOut 47 = .ok (.iconst 0, 1) := by decide +kernel
theorem dX9_leftOut_48 : decode cX9_leftOut 48 = .ok (.iadd, 1) := by decide +kernel
theorem dX9_leftOut_49 : decode cX9_leftOut 49 = .ok (.istore 4, 2) := by decide +kernel
theorem dX9_leftOut_51 : decode cX9_leftOut 51 = .ok (.iload 6, 2) := by decide +kernel
theorem dX9_leftOut_53 : decode cX9_leftOut 53 = .ok (.ifCond .eq 7, 3) := by decide +kernel
theorem dX9_leftOut_56 : decode cX9_leftOut 56 = .ok (.iload_n 3, 1) := by decide +kernel
theorem dX9_leftOut_57 : decode cX9_leftOut 57 = .ok (.goto 14, 3) := by decide +kernel
theorem dX9_leftOut_60 : decode cX9_leftOut 60 = .ok (.iload_n 3, 1) := by decide +kernel
theorem dX9_leftOut_61 : decode cX9_leftOut 61 = .ok (.aload_n 0, 1) := by decide +kernel
theorem dX9_leftOut_62 : decode cX9_leftOut 62 = .ok (.iload_n 1, 1) := by decide +kernel
theorem dX9_leftOut_63 : decode cX9_leftOut 63 = .ok (.iload 5, 2) := by decide +kernel
theorem dX9_leftOut_65 : decode cX9_leftOut 65 = .ok (.invokevirtual 135, 3) := by decide +kernel
theorem dX9_leftOut_68 : decode cX9_leftOut 68 = .ok (.invokestatic 138, 3) := by decide +kernel
theorem dX9_leftOut_71 : decode cX9_leftOut 71 = .ok (.istore_n 3, 1) := by decide +kernel
theorem dX9_leftOut_72 : decode cX9_leftOut 72 = .ok (.iinc 5 1, 3) := by decide +kernel
theorem dX9_leftOut_75 : decode cX9_leftOut 75 = .ok (.goto (-67), 3) := by decide +kernel
theorem dX9_leftOut_78 : decode cX9_leftOut 78 = .ok (.iload_n 3, 1) := by decide +kernel
theorem dX9_leftOut_79 : decode cX9_leftOut 79 = .ok (.invokestatic 144, 3) := by decide +kernel
theorem dX9_leftOut_82 : decode cX9_leftOut 82 = .ok (.ifCond .eq 8, 3) := by decide +kernel
theorem dX9_leftOut_85 : decode cX9_leftOut 85 = .ok (.iload 4, 2) := by decide +kernel
theorem dX9_leftOut_87 : decode cX9_leftOut 87 = .ok (.goto 4, 3) := by decide +kernel
theorem dX9_leftOut_90 : decode cX9_leftOut 90 = .ok (.iconst (-1), 1) := by decide +kernel
theorem dX9_leftOut_91 : decode cX9_leftOut 91 = .ok (.ireturn, 1) := by decide +kernel
set_option maxRecDepth 20000 in
theorem ggX9_fewestOf_X9_countOf : GoodIn wsX9_fewestOf wsX9_countOf := goodIn_ca (goodIn_r _ [5, 6, 7, 8, 9, 4, 10, 29, 30, 31, 32, 33, 34, 35, 36, 37, 38, 39, 40, 41, 42, 43, 44, 45, 46, 47, 48] (by decide +kernel) (by decide +kernel)) (goodIn_sub (fun _ h => List.mem_cons_of_mem _ (List.mem_append_right _ h)) (by decide +kernel))
set_option maxRecDepth 20000 in
theorem gX9_fewestOf_X9_countOf : GoodIn wsX9_fewestOf (wsV RX9 132 RX9 yX9_countOf wsX9_countOf) := goodIn_app (goodIn_of _ (by decide +kernel)) ggX9_fewestOf_X9_countOf
set_option maxRecDepth 20000 in
theorem ggX9_fewestOf_X9_leftOut : GoodIn wsX9_fewestOf wsX9_leftOut := goodIn_ca (goodIn_r _ [14, 1, 2, 3, 4, 5, 6, 7, 8, 9, 10, 15, 16, 17, 18, 19, 20, 21, 22, 23, 24, 25, 26, 27, 28, 29, 30, 31, 32, 33, 34, 35, 36, 37, 38, 39, 40, 41, 42, 43, 44, 45, 46, 47, 48] (by decide +kernel) (by decide +kernel)) (goodIn_sub (fun _ h => List.mem_cons_of_mem _ (List.mem_append_right _ h)) (by decide +kernel))
set_option maxRecDepth 20000 in
theorem gX9_fewestOf_X9_leftOut : GoodIn wsX9_fewestOf (wsV RX9 174 RX9 yX9_leftOut wsX9_leftOut) := goodIn_app (goodIn_of _ (by decide +kernel)) ggX9_fewestOf_X9_leftOut
theorem dX9_fewestOf_0 : decode cX9_fewestOf 0 = .ok (.iconst (-1), 1) := by decide +kernel
theorem dX9_fewestOf_1 : decode cX9_fewestOf 1 = .ok (.istore_n 2, 1) := by decide +kernel
theorem dX9_fewestOf_2 : decode cX9_fewestOf 2 = .ok (.iconst 0, 1) := by decide +kernel
theorem dX9_fewestOf_3 : decode cX9_fewestOf 3 = .ok (.istore_n 3, 1) := by decide +kernel
theorem dX9_fewestOf_4 : decode cX9_fewestOf 4 = .ok (.iload_n 3, 1) := by decide +kernel
theorem dX9_fewestOf_5 : decode cX9_fewestOf 5 = .ok (.iconst 1, 1) := by decide +kernel
theorem dX9_fewestOf_6 : decode cX9_fewestOf 6 = .ok (.aload_n 0, 1) := by decide +kernel
theorem dX9_fewestOf_7 : decode cX9_fewestOf 7 = .ok (.iload_n 1, 1) := by decide +kernel
theorem dX9_fewestOf_8 : decode cX9_fewestOf 8 = .ok (.iconst 0, 1) := by decide +kernel
theorem dX9_fewestOf_9 : decode cX9_fewestOf 9 = .ok (.invokevirtual 132, 3) := by decide +kernel
theorem dX9_fewestOf_12 : decode cX9_fewestOf 12 = .ok (.ishl, 1) := by decide +kernel
theorem dX9_fewestOf_13 : decode cX9_fewestOf 13 = .ok (.if_icmp .ge 41, 3) := by decide +kernel
theorem dX9_fewestOf_16 : decode cX9_fewestOf 16 = .ok (.aload_n 0, 1) := by decide +kernel
theorem dX9_fewestOf_17 : decode cX9_fewestOf 17 = .ok (.iload_n 1, 1) := by decide +kernel
theorem dX9_fewestOf_18 : decode cX9_fewestOf 18 = .ok (.iload_n 3, 1) := by decide +kernel
theorem dX9_fewestOf_19 : decode cX9_fewestOf 19 = .ok (.invokevirtual 174, 3) := by decide +kernel
theorem dX9_fewestOf_22 : decode cX9_fewestOf 22 = .ok (.istore 4, 2) := by decide +kernel
theorem dX9_fewestOf_24 : decode cX9_fewestOf 24 = .ok (.iload 4, 2) := by decide +kernel
theorem dX9_fewestOf_26 : decode cX9_fewestOf 26 = .ok (.iconst (-1), 1) := by decide +kernel
theorem dX9_fewestOf_27 : decode cX9_fewestOf 27 = .ok (.if_icmp .eq 19, 3) := by decide +kernel
theorem dX9_fewestOf_30 : decode cX9_fewestOf 30 = .ok (.iload_n 2, 1) := by decide +kernel
theorem dX9_fewestOf_31 : decode cX9_fewestOf 31 = .ok (.iconst (-1), 1) := by decide +kernel
theorem dX9_fewestOf_32 : decode cX9_fewestOf 32 = .ok (.if_icmp .eq 9, 3) := by decide +kernel
theorem dX9_fewestOf_35 : decode cX9_fewestOf 35 = .ok (.iload 4, 2) := by decide +kernel
theorem dX9_fewestOf_37 : decode cX9_fewestOf 37 = .ok (.iload_n 2, 1) := by decide +kernel
theorem dX9_fewestOf_38 : decode cX9_fewestOf 38 = .ok (.if_icmp .ge 8, 3) := by decide +kernel
theorem dX9_fewestOf_41 : decode cX9_fewestOf 41 = .ok (.iload 4, 2) := by decide +kernel
theorem dX9_fewestOf_43 : decode cX9_fewestOf 43 = .ok (.goto 4, 3) := by decide +kernel
theorem dX9_fewestOf_46 : decode cX9_fewestOf 46 = .ok (.iload_n 2, 1) := by decide +kernel
theorem dX9_fewestOf_47 : decode cX9_fewestOf 47 = .ok (.istore_n 2, 1) := by decide +kernel
theorem dX9_fewestOf_48 : decode cX9_fewestOf 48 = .ok (.iinc 3 1, 3) := by decide +kernel
theorem dX9_fewestOf_51 : decode cX9_fewestOf 51 = .ok (.goto (-47), 3) := by decide +kernel
theorem dX9_fewestOf_54 : decode cX9_fewestOf 54 = .ok (.iload_n 2, 1) := by decide +kernel
theorem dX9_fewestOf_55 : decode cX9_fewestOf 55 = .ok (.ireturn, 1) := by decide +kernel
set_option maxRecDepth 20000 in
theorem ggX9_fewest_X9_isTable : GoodIn wsX9_fewest wsX9_isTable := goodIn_r _ [4, 5, 6, 3, 7] (by decide +kernel) (by decide +kernel)
set_option maxRecDepth 20000 in
theorem gX9_fewest_X9_isTable : GoodIn wsX9_fewest (va_wsS RX9 100 yX9_isTable wsX9_isTable) := goodIn_app (goodIn_of _ (by decide +kernel)) ggX9_fewest_X9_isTable
set_option maxRecDepth 20000 in
theorem ggX9_fewest_X9_fails : GoodIn wsX9_fewest wsX9_fails := goodIn_r _ [11, 12, 13, 49, 50, 51, 52, 53, 54, 55, 56, 57, 58, 59, 60, 61, 62, 63, 64, 65, 66, 67, 68] (by decide +kernel) (by decide +kernel)
set_option maxRecDepth 20000 in
theorem gX9_fewest_X9_fails : GoodIn wsX9_fewest (wsV RX9 70 RX9 yX9_fails wsX9_fails) := goodIn_app (goodIn_of _ (by decide +kernel)) ggX9_fewest_X9_fails
set_option maxRecDepth 20000 in
theorem ggX9_fewest_X9_fewestOf : GoodIn wsX9_fewest wsX9_fewestOf := goodIn_ca (goodIn_r _ [17, 18, 19, 20, 3, 21, 22, 23, 24, 25, 26, 27, 28, 29, 30, 31, 32, 33, 34, 35, 36, 37, 38, 39, 40, 41, 42, 43, 44, 49, 50, 51, 52, 53, 54, 55, 56, 57, 58, 59, 60, 61, 62, 63, 64, 65, 66, 67, 68] (by decide +kernel) (by decide +kernel)) (goodIn_sub (fun _ h => List.mem_cons_of_mem _ (List.mem_append_right _ h)) (by decide +kernel))
set_option maxRecDepth 20000 in
theorem gX9_fewest_X9_fewestOf : GoodIn wsX9_fewest (wsV RX9 177 RX9 yX9_fewestOf wsX9_fewestOf) := goodIn_app (goodIn_of _ (by decide +kernel)) ggX9_fewest_X9_fewestOf
set_option maxRecDepth 20000 in
theorem ggX9_fewest_X9_done : GoodIn wsX9_fewest wsX9_done := goodIn_r _ [48, 12, 49, 50, 51, 52, 53, 54, 55, 56, 57, 58, 59, 60, 61, 62, 63, 64, 65, 66, 67, 68] (by decide +kernel) (by decide +kernel)
set_option maxRecDepth 20000 in
theorem gX9_fewest_X9_done : GoodIn wsX9_fewest (wsV RX9 78 RX9 yX9_done wsX9_done) := goodIn_app (goodIn_of _ (by decide +kernel)) ggX9_fewest_X9_done
theorem dX9_fewest_0 : decode cX9_fewest 0 = .ok (.iload_n 1, 1) := by decide +kernel
theorem dX9_fewest_1 : decode cX9_fewest 1 = .ok (.invokestatic 100, 3) := by decide +kernel
theorem dX9_fewest_4 : decode cX9_fewest 4 = .ok (.ifCond .ne 9, 3) := by decide +kernel
theorem dX9_fewest_7 : decode cX9_fewest 7 = .ok (.aload_n 0, 1) := by decide +kernel
theorem dX9_fewest_8 : decode cX9_fewest 8 = .ok (.iconst 1, 1) := by decide +kernel
theorem dX9_fewest_9 : decode cX9_fewest 9 = .ok (.invokevirtual 70, 3) := by decide +kernel
theorem dX9_fewest_12 : decode cX9_fewest 12 = .ok (.ireturn, 1) := by decide +kernel
theorem dX9_fewest_13 : decode cX9_fewest 13 = .ok (.aload_n 0, 1) := by decide +kernel
theorem dX9_fewest_14 : decode cX9_fewest 14 = .ok (.iload_n 1, 1) := by decide +kernel
theorem dX9_fewest_15 : decode cX9_fewest 15 = .ok (.invokevirtual 177, 3) := by decide +kernel
theorem dX9_fewest_18 : decode cX9_fewest 18 = .ok (.istore_n 2, 1) := by decide +kernel
theorem dX9_fewest_19 : decode cX9_fewest 19 = .ok (.iload_n 2, 1) := by decide +kernel
theorem dX9_fewest_20 : decode cX9_fewest 20 = .ok (.iconst (-1), 1) := by decide +kernel
theorem dX9_fewest_21 : decode cX9_fewest 21 = .ok (.if_icmp .ne 11, 3) := by decide +kernel
theorem dX9_fewest_24 : decode cX9_fewest 24 = .ok (.aload_n 0, 1) := by decide +kernel
theorem dX9_fewest_25 : decode cX9_fewest 25 = .ok (.iconst 2, 1) := by decide +kernel
theorem dX9_fewest_26 : decode cX9_fewest 26 = .ok (.invokevirtual 70, 3) := by decide +kernel
theorem dX9_fewest_29 : decode cX9_fewest 29 = .ok (.goto 8, 3) := by decide +kernel
theorem dX9_fewest_32 : decode cX9_fewest 32 = .ok (.aload_n 0, 1) := by decide +kernel
theorem dX9_fewest_33 : decode cX9_fewest 33 = .ok (.iload_n 2, 1) := by decide +kernel
theorem dX9_fewest_34 : decode cX9_fewest 34 = .ok (.invokevirtual 78, 3) := by decide +kernel
theorem dX9_fewest_37 : decode cX9_fewest 37 = .ok (.ireturn, 1) := by decide +kernel
set_option maxRecDepth 20000 in
theorem ggX9_fewestAgain_X9_fewest : GoodIn wsX9_fewestAgain wsX9_fewest := goodIn_ca (goodIn_r _ [5, 6, 7, 4, 8, 9, 10, 11, 12, 13, 14, 15, 16, 17, 18, 19, 20, 21, 22, 23, 24, 25, 26, 27, 28, 29, 30, 31, 32, 33, 34, 35, 36, 37, 38, 39, 40, 41, 42, 43, 44, 45, 46, 47, 48, 49, 50, 51, 52, 53, 54, 55, 56, 57, 58, 59, 60, 61, 62, 63, 64, 65, 66, 67, 68, 69, 70, 71, 72] (by decide +kernel) (by decide +kernel)) (goodIn_sub (fun _ h => List.mem_cons_of_mem _ (List.mem_append_right _ h)) (by decide +kernel))
set_option maxRecDepth 20000 in
theorem gX9_fewestAgain_X9_fewest : GoodIn wsX9_fewestAgain (wsV RX9 180 RX9 yX9_fewest wsX9_fewest) := goodIn_app (goodIn_of _ (by decide +kernel)) ggX9_fewestAgain_X9_fewest
theorem dX9_fewestAgain_0 : decode cX9_fewestAgain 0 = .ok (.aload_n 0, 1) := by decide +kernel
theorem dX9_fewestAgain_1 : decode cX9_fewestAgain 1 = .ok (.iload_n 1, 1) := by decide +kernel
theorem dX9_fewestAgain_2 : decode cX9_fewestAgain 2 = .ok (.invokevirtual 180, 3) := by decide +kernel
theorem dX9_fewestAgain_5 : decode cX9_fewestAgain 5 = .ok (.ireturn, 1) := by decide +kernel
set_option maxRecDepth 20000 in
theorem ggX9_doubt_X9_isTable : GoodIn wsX9_doubt wsX9_isTable := goodIn_r _ [4, 5, 6, 3, 7] (by decide +kernel) (by decide +kernel)
set_option maxRecDepth 20000 in
theorem gX9_doubt_X9_isTable : GoodIn wsX9_doubt (va_wsS RX9 100 yX9_isTable wsX9_isTable) := goodIn_app (goodIn_of _ (by decide +kernel)) ggX9_doubt_X9_isTable
set_option maxRecDepth 20000 in
theorem ggX9_doubt_X9_doubtOf : GoodIn wsX9_doubt wsX9_doubtOf := goodIn_ca (goodIn_r _ [11, 12, 13, 14, 15, 3, 16, 17, 18, 19, 20, 21, 22, 23, 24, 35, 36, 37, 38, 39, 40, 41, 42, 43, 44, 45, 46, 47, 48, 49, 50, 51, 52, 53, 54] (by decide +kernel) (by decide +kernel)) (goodIn_sub (fun _ h => List.mem_cons_of_mem _ (List.mem_append_right _ h)) (by decide +kernel))
set_option maxRecDepth 20000 in
theorem gX9_doubt_X9_doubtOf : GoodIn wsX9_doubt (wsV RX9 183 RX9 yX9_doubtOf wsX9_doubtOf) := goodIn_app (goodIn_of _ (by decide +kernel)) ggX9_doubt_X9_doubtOf
set_option maxRecDepth 20000 in
theorem ggX9_doubt_X9_done : GoodIn wsX9_doubt wsX9_done := goodIn_r _ [28, 29, 35, 36, 37, 38, 39, 40, 41, 42, 43, 44, 45, 46, 47, 48, 49, 50, 51, 52, 53, 54] (by decide +kernel) (by decide +kernel)
set_option maxRecDepth 20000 in
theorem gX9_doubt_X9_done : GoodIn wsX9_doubt (wsV RX9 78 RX9 yX9_done wsX9_done) := goodIn_app (goodIn_of _ (by decide +kernel)) ggX9_doubt_X9_done
set_option maxRecDepth 20000 in
theorem ggX9_doubt_X9_fails : GoodIn wsX9_doubt wsX9_fails := goodIn_r _ [33, 29, 34, 35, 36, 37, 38, 39, 40, 41, 42, 43, 44, 45, 46, 47, 48, 49, 50, 51, 52, 53, 54] (by decide +kernel) (by decide +kernel)
set_option maxRecDepth 20000 in
theorem gX9_doubt_X9_fails : GoodIn wsX9_doubt (wsV RX9 70 RX9 yX9_fails wsX9_fails) := goodIn_app (goodIn_of _ (by decide +kernel)) ggX9_doubt_X9_fails
theorem dX9_doubt_0 : decode cX9_doubt 0 = .ok (.iload_n 1, 1) := by decide +kernel
theorem dX9_doubt_1 : decode cX9_doubt 1 = .ok (.invokestatic 100, 3) := by decide +kernel
theorem dX9_doubt_4 : decode cX9_doubt 4 = .ok (.ifCond .eq 15, 3) := by decide +kernel
theorem dX9_doubt_7 : decode cX9_doubt 7 = .ok (.aload_n 0, 1) := by decide +kernel
theorem dX9_doubt_8 : decode cX9_doubt 8 = .ok (.aload_n 0, 1) := by decide +kernel
theorem dX9_doubt_9 : decode cX9_doubt 9 = .ok (.iload_n 1, 1) := by decide +kernel
theorem dX9_doubt_10 : decode cX9_doubt 10 = .ok (.invokevirtual 183, 3) := by decide +kernel
theorem dX9_doubt_13 : decode cX9_doubt 13 = .ok (.invokevirtual 78, 3) := by decide +kernel
theorem dX9_doubt_16 : decode cX9_doubt 16 = .ok (.goto 8, 3) := by decide +kernel
theorem dX9_doubt_19 : decode cX9_doubt 19 = .ok (.aload_n 0, 1) := by decide +kernel
theorem dX9_doubt_20 : decode cX9_doubt 20 = .ok (.iconst 1, 1) := by decide +kernel
theorem dX9_doubt_21 : decode cX9_doubt 21 = .ok (.invokevirtual 70, 3) := by decide +kernel
theorem dX9_doubt_24 : decode cX9_doubt 24 = .ok (.ireturn, 1) := by decide +kernel
set_option maxRecDepth 20000 in
theorem ggX9_doubtAgain_X9_doubt : GoodIn wsX9_doubtAgain wsX9_doubt := goodIn_ca (goodIn_r _ [5, 6, 7, 4, 8, 9, 10, 11, 12, 13, 14, 15, 16, 17, 18, 19, 20, 21, 22, 23, 24, 25, 26, 27, 28, 29, 30, 31, 32, 33, 34, 35, 36, 37, 38, 39, 40, 41, 42, 43, 44, 45, 46, 47, 48, 49, 50, 51, 52, 53, 54, 55, 56, 57, 58] (by decide +kernel) (by decide +kernel)) (goodIn_sub (fun _ h => List.mem_cons_of_mem _ (List.mem_append_right _ h)) (by decide +kernel))
set_option maxRecDepth 20000 in
theorem gX9_doubtAgain_X9_doubt : GoodIn wsX9_doubtAgain (wsV RX9 186 RX9 yX9_doubt wsX9_doubt) := goodIn_app (goodIn_of _ (by decide +kernel)) ggX9_doubtAgain_X9_doubt
theorem dX9_doubtAgain_0 : decode cX9_doubtAgain 0 = .ok (.aload_n 0, 1) := by decide +kernel
theorem dX9_doubtAgain_1 : decode cX9_doubtAgain 1 = .ok (.iload_n 1, 1) := by decide +kernel
theorem dX9_doubtAgain_2 : decode cX9_doubtAgain 2 = .ok (.invokevirtual 186, 3) := by decide +kernel
theorem dX9_doubtAgain_5 : decode cX9_doubtAgain 5 = .ok (.ireturn, 1) := by decide +kernel
set_option maxRecDepth 20000 in
theorem ggX9_sure_X9_isTable : GoodIn wsX9_sure wsX9_isTable := goodIn_r _ [4, 5, 6, 3, 7] (by decide +kernel) (by decide +kernel)
set_option maxRecDepth 20000 in
theorem gX9_sure_X9_isTable : GoodIn wsX9_sure (va_wsS RX9 100 yX9_isTable wsX9_isTable) := goodIn_app (goodIn_of _ (by decide +kernel)) ggX9_sure_X9_isTable
set_option maxRecDepth 20000 in
theorem ggX9_sure_X9_fails : GoodIn wsX9_sure wsX9_fails := goodIn_r _ [11, 12, 13, 35, 36, 37, 38, 39, 40, 41, 42, 43, 44, 45, 46, 47, 48, 49, 50, 51, 52, 53, 54] (by decide +kernel) (by decide +kernel)
set_option maxRecDepth 20000 in
theorem gX9_sure_X9_fails : GoodIn wsX9_sure (wsV RX9 70 RX9 yX9_fails wsX9_fails) := goodIn_app (goodIn_of _ (by decide +kernel)) ggX9_sure_X9_fails
set_option maxRecDepth 20000 in
theorem ggX9_sure_X9_countOf : GoodIn wsX9_sure wsX9_countOf := goodIn_ca (goodIn_r _ [17, 18, 19, 20, 21, 3, 22, 35, 36, 37, 38, 39, 40, 41, 42, 43, 44, 45, 46, 47, 48, 49, 50, 51, 52, 53, 54] (by decide +kernel) (by decide +kernel)) (goodIn_sub (fun _ h => List.mem_cons_of_mem _ (List.mem_append_right _ h)) (by decide +kernel))
set_option maxRecDepth 20000 in
theorem gX9_sure_X9_countOf : GoodIn wsX9_sure (wsV RX9 132 RX9 yX9_countOf wsX9_countOf) := goodIn_app (goodIn_of _ (by decide +kernel)) ggX9_sure_X9_countOf
set_option maxRecDepth 20000 in
theorem ggX9_sure_X9_doubtOf : GoodIn wsX9_sure wsX9_doubtOf := goodIn_ca (goodIn_r _ [26, 18, 14, 15, 16, 3, 17, 19, 20, 21, 22, 27, 28, 29, 30, 35, 36, 37, 38, 39, 40, 41, 42, 43, 44, 45, 46, 47, 48, 49, 50, 51, 52, 53, 54] (by decide +kernel) (by decide +kernel)) (goodIn_sub (fun _ h => List.mem_cons_of_mem _ (List.mem_append_right _ h)) (by decide +kernel))
set_option maxRecDepth 20000 in
theorem gX9_sure_X9_doubtOf : GoodIn wsX9_sure (wsV RX9 183 RX9 yX9_doubtOf wsX9_doubtOf) := goodIn_app (goodIn_of _ (by decide +kernel)) ggX9_sure_X9_doubtOf
set_option maxRecDepth 20000 in
theorem ggX9_sure_X9_done : GoodIn wsX9_sure wsX9_done := goodIn_r _ [34, 12, 35, 36, 37, 38, 39, 40, 41, 42, 43, 44, 45, 46, 47, 48, 49, 50, 51, 52, 53, 54] (by decide +kernel) (by decide +kernel)
set_option maxRecDepth 20000 in
theorem gX9_sure_X9_done : GoodIn wsX9_sure (wsV RX9 78 RX9 yX9_done wsX9_done) := goodIn_app (goodIn_of _ (by decide +kernel)) ggX9_sure_X9_done
theorem dX9_sure_0 : decode cX9_sure 0 = .ok (.iload_n 1, 1) := by decide +kernel
theorem dX9_sure_1 : decode cX9_sure 1 = .ok (.invokestatic 100, 3) := by decide +kernel
theorem dX9_sure_4 : decode cX9_sure 4 = .ok (.ifCond .ne 9, 3) := by decide +kernel
theorem dX9_sure_7 : decode cX9_sure 7 = .ok (.aload_n 0, 1) := by decide +kernel
theorem dX9_sure_8 : decode cX9_sure 8 = .ok (.iconst 1, 1) := by decide +kernel
theorem dX9_sure_9 : decode cX9_sure 9 = .ok (.invokevirtual 70, 3) := by decide +kernel
theorem dX9_sure_12 : decode cX9_sure 12 = .ok (.ireturn, 1) := by decide +kernel
theorem dX9_sure_13 : decode cX9_sure 13 = .ok (.aload_n 0, 1) := by decide +kernel
theorem dX9_sure_14 : decode cX9_sure 14 = .ok (.iload_n 1, 1) := by decide +kernel
theorem dX9_sure_15 : decode cX9_sure 15 = .ok (.iconst 0, 1) := by decide +kernel
theorem dX9_sure_16 : decode cX9_sure 16 = .ok (.invokevirtual 132, 3) := by decide +kernel
theorem dX9_sure_19 : decode cX9_sure 19 = .ok (.istore_n 2, 1) := by decide +kernel
theorem dX9_sure_20 : decode cX9_sure 20 = .ok (.iload_n 2, 1) := by decide +kernel
theorem dX9_sure_21 : decode cX9_sure 21 = .ok (.ifCond .ne 9, 3) := by decide +kernel
theorem dX9_sure_24 : decode cX9_sure 24 = .ok (.aload_n 0, 1) := by decide +kernel
theorem dX9_sure_25 : decode cX9_sure 25 = .ok (.iconst 2, 1) := by decide +kernel
theorem dX9_sure_26 : decode cX9_sure 26 = .ok (.invokevirtual 70, 3) := by decide +kernel
theorem dX9_sure_29 : decode cX9_sure 29 = .ok (.ireturn, 1) := by decide +kernel
theorem dX9_sure_30 : decode cX9_sure 30 = .ok (.aload_n 0, 1) := by decide +kernel
theorem dX9_sure_31 : decode cX9_sure 31 = .ok (.bipush 100, 2) := by decide +kernel
theorem dX9_sure_33 : decode cX9_sure 33 = .ok (.iload_n 2, 1) := by decide +kernel
theorem dX9_sure_34 : decode cX9_sure 34 = .ok (.imul, 1) := by decide +kernel
theorem dX9_sure_35 : decode cX9_sure 35 = .ok (.bipush 10, 2) := by decide +kernel
theorem dX9_sure_37 : decode cX9_sure 37 = .ok (.aload_n 0, 1) := by decide +kernel
theorem dX9_sure_38 : decode cX9_sure 38 = .ok (.iload_n 1, 1) := by decide +kernel
theorem dX9_sure_39 : decode cX9_sure 39 = .ok (.invokevirtual 183, 3) := by decide +kernel
theorem dX9_sure_42 : decode cX9_sure 42 = .ok (.imul, 1) := by decide +kernel
theorem dX9_sure_43 : decode cX9_sure 43 = .ok (.isub, 1) := by decide +kernel
theorem dX9_sure_44 : decode cX9_sure 44 = .ok (.i2f, 1) := by decide +kernel
theorem dX9_sure_45 : decode cX9_sure 45 = .ok (.iload_n 2, 1) := by decide +kernel
theorem dX9_sure_46 : decode cX9_sure 46 = .ok (.i2f, 1) := by decide +kernel
theorem dX9_sure_47 : decode cX9_sure 47 = .ok (.fdiv, 1) := by decide +kernel
theorem dX9_sure_48 : decode cX9_sure 48 = .ok (.f2i, 1) := by decide +kernel
theorem dX9_sure_49 : decode cX9_sure 49 = .ok (.invokevirtual 78, 3) := by decide +kernel
theorem dX9_sure_52 : decode cX9_sure 52 = .ok (.ireturn, 1) := by decide +kernel
set_option maxRecDepth 20000 in
theorem ggX9_isClearer_X9_phrasesOf : GoodIn wsX9_isClearer wsX9_phrasesOf := goodIn_ca (goodIn_r _ [5, 6, 7, 8, 4, 9, 10, 11, 12, 13, 14, 15, 16, 17, 18, 19, 20, 21, 22, 23, 24, 25, 26, 27, 28, 29, 30, 31, 32, 33, 34, 35, 36, 41, 42, 43, 44, 45, 46, 47, 48, 49, 50, 51, 52, 53, 54, 55, 56, 57, 58, 59, 60] (by decide +kernel) (by decide +kernel)) (goodIn_sub (fun _ h => List.mem_cons_of_mem _ (List.mem_append_right _ h)) (by decide +kernel))
set_option maxRecDepth 20000 in
theorem gX9_isClearer_X9_phrasesOf : GoodIn wsX9_isClearer (wsV RX9 150 RX9 yX9_phrasesOf wsX9_phrasesOf) := goodIn_app (goodIn_of _ (by decide +kernel)) ggX9_isClearer_X9_phrasesOf
set_option maxRecDepth 20000 in
theorem ggX9_isClearer_X9_doubtOf : GoodIn wsX9_isClearer wsX9_doubtOf := goodIn_ca (goodIn_r _ [40, 18, 14, 15, 16, 4, 17, 19, 20, 21, 22, 27, 28, 29, 30, 41, 42, 43, 44, 45, 46, 47, 48, 49, 50, 51, 52, 53, 54, 55, 56, 57, 58, 59, 60] (by decide +kernel) (by decide +kernel)) (goodIn_sub (fun _ h => List.mem_cons_of_mem _ (List.mem_append_right _ h)) (by decide +kernel))
set_option maxRecDepth 20000 in
theorem gX9_isClearer_X9_doubtOf : GoodIn wsX9_isClearer (wsV RX9 183 RX9 yX9_doubtOf wsX9_doubtOf) := goodIn_app (goodIn_of _ (by decide +kernel)) ggX9_isClearer_X9_doubtOf
theorem dX9_isClearer_0 : decode cX9_isClearer 0 = .ok (.aload_n 0, 1) := by decide +kernel
theorem dX9_isClearer_1 : decode cX9_isClearer 1 = .ok (.iload_n 1, 1) := by decide +kernel
theorem dX9_isClearer_2 : decode cX9_isClearer 2 = .ok (.invokevirtual 150, 3) := by decide +kernel
theorem dX9_isClearer_5 : decode cX9_isClearer 5 = .ok (.aload_n 0, 1) := by decide +kernel
theorem dX9_isClearer_6 : decode cX9_isClearer 6 = .ok (.iload_n 2, 1) := by decide +kernel
theorem dX9_isClearer_7 : decode cX9_isClearer 7 = .ok (.invokevirtual 150, 3) := by decide +kernel
theorem dX9_isClearer_10 : decode cX9_isClearer 10 = .ok (.isub, 1) := by decide +kernel
theorem dX9_isClearer_11 : decode cX9_isClearer 11 = .ok (.istore_n 3, 1) := by decide +kernel
theorem dX9_isClearer_12 : decode cX9_isClearer 12 = .ok (.aload_n 0, 1) := by decide +kernel
theorem dX9_isClearer_13 : decode cX9_isClearer 13 = .ok (.iload_n 2, 1) := by decide +kernel
theorem dX9_isClearer_14 : decode cX9_isClearer 14 = .ok (.invokevirtual 183, 3) := by decide +kernel
theorem dX9_isClearer_17 : decode cX9_isClearer 17 = .ok (.aload_n 0, 1) := by decide +kernel
theorem dX9_isClearer_18 : decode cX9_isClearer 18 = .ok (.iload_n 1, 1) := by decide +kernel
theorem dX9_isClearer_19 : decode cX9_isClearer 19 = .ok (.invokevirtual 183, 3) := by decide +kernel
theorem dX9_isClearer_22 : decode cX9_isClearer 22 = .ok (.isub, 1) := by decide +kernel
theorem dX9_isClearer_23 : decode cX9_isClearer 23 = .ok (.istore 4, 2) := by decide +kernel
theorem dX9_isClearer_25 : decode cX9_isClearer 25 = .ok (.iload_n 3, 1) := by decide +kernel
theorem dX9_isClearer_26 : decode cX9_isClearer 26 = .ok (.ifCond .gt 22, 3) := by decide +kernel
theorem dX9_isClearer_29 : decode cX9_isClearer 29 = .ok (.iload_n 3, 1) := by decide +kernel
theorem dX9_isClearer_30 : decode cX9_isClearer 30 = .ok (.ifCond .ne 22, 3) := by decide +kernel
theorem dX9_isClearer_33 : decode cX9_isClearer 33 = .ok (.iload 4, 2) := by decide +kernel
theorem dX9_isClearer_35 : decode cX9_isClearer 35 = .ok (.ifCond .gt 13, 3) := by decide +kernel
theorem dX9_isClearer_38 : decode cX9_isClearer 38 = .ok (.iload 4, 2) := by decide +kernel
theorem dX9_isClearer_40 : decode cX9_isClearer 40 = .ok (.ifCond .ne 12, 3) := by decide +kernel
theorem dX9_isClearer_43 : decode cX9_isClearer 43 = .ok (.iload_n 1, 1) := by decide +kernel
theorem dX9_isClearer_44 : decode cX9_isClearer 44 = .ok (.iload_n 2, 1) := by decide +kernel
theorem dX9_isClearer_45 : decode cX9_isClearer 45 = .ok (.if_icmp .ge 7, 3) := by decide +kernel
theorem dX9_isClearer_48 : decode cX9_isClearer 48 = .ok (.iconst 1, 1) := by decide +kernel
theorem dX9_isClearer_49 : decode cX9_isClearer 49 = .ok (.goto 4, 3) := by decide +kernel
theorem dX9_isClearer_52 : decode cX9_isClearer 52 = .ok (.iconst 0, 1) := by decide +kernel
theorem dX9_isClearer_53 : decode cX9_isClearer 53 = .ok (.ireturn, 1) := by decide +kernel
set_option maxRecDepth 20000 in
theorem ggX9_clearest_X9_isClearer : GoodIn wsX9_clearest wsX9_isClearer := goodIn_ca (goodIn_r _ [5, 6, 7, 8, 4, 9, 10, 11, 12, 13, 14, 15, 16, 17, 18, 19, 20, 21, 22, 23, 24, 25, 26, 27, 28, 29, 30, 31, 32, 33, 34, 35, 36, 37, 38, 39, 40, 41, 42, 43, 44, 55, 56, 57, 58, 59, 60, 61, 62, 63, 64, 65, 66, 67, 68, 69, 70, 71, 72, 73, 74] (by decide +kernel) (by decide +kernel)) (goodIn_sub (fun _ h => List.mem_cons_of_mem _ (List.mem_append_right _ h)) (by decide +kernel))
set_option maxRecDepth 20000 in
theorem gX9_clearest_X9_isClearer : GoodIn wsX9_clearest (wsV RX9 189 RX9 yX9_isClearer wsX9_isClearer) := goodIn_app (goodIn_of _ (by decide +kernel)) ggX9_clearest_X9_isClearer
set_option maxRecDepth 20000 in
theorem ggX9_clearest_X9_done : GoodIn wsX9_clearest wsX9_done := goodIn_r _ [48, 49, 55, 56, 57, 58, 59, 60, 61, 62, 63, 64, 65, 66, 67, 68, 69, 70, 71, 72, 73, 74] (by decide +kernel) (by decide +kernel)
set_option maxRecDepth 20000 in
theorem gX9_clearest_X9_done : GoodIn wsX9_clearest (wsV RX9 78 RX9 yX9_done wsX9_done) := goodIn_app (goodIn_of _ (by decide +kernel)) ggX9_clearest_X9_done
set_option maxRecDepth 20000 in
theorem ggX9_clearest_X9_fails : GoodIn wsX9_clearest wsX9_fails := goodIn_r _ [53, 49, 54, 55, 56, 57, 58, 59, 60, 61, 62, 63, 64, 65, 66, 67, 68, 69, 70, 71, 72, 73, 74] (by decide +kernel) (by decide +kernel)
set_option maxRecDepth 20000 in
theorem gX9_clearest_X9_fails : GoodIn wsX9_clearest (wsV RX9 70 RX9 yX9_fails wsX9_fails) := goodIn_app (goodIn_of _ (by decide +kernel)) ggX9_clearest_X9_fails
theorem dX9_clearest_0 : decode cX9_clearest 0 = .ok (.iconst 0, 1) := by decide +kernel
theorem dX9_clearest_1 : decode cX9_clearest 1 = .ok (.istore_n 2, 1) := by decide +kernel
theorem dX9_clearest_2 : decode cX9_clearest 2 = .ok (.iload_n 2, 1) := by decide +kernel
theorem dX9_clearest_3 : decode cX9_clearest 3 = .ok (.iconst 3, 1) := by decide +kernel
theorem dX9_clearest_4 : decode cX9_clearest 4 = .ok (.if_icmp .ge 55, 3) := by decide +kernel
theorem dX9_clearest_7 : decode cX9_clearest 7 = .ok (.iconst 0, 1) := by decide +kernel
theorem dX9_clearest_8 : decode cX9_clearest 8 = .ok (.istore_n 3, 1) := by decide +kernel
theorem dX9_clearest_9 : decode cX9_clearest 9 = .ok (.iconst 0, 1) := by decide +kernel
theorem dX9_clearest_10 : decode cX9_clearest 10 = .ok (.istore 4, 2) := by decide +kernel
theorem dX9_clearest_12 : decode cX9_clearest 12 = .ok (.iload 4, 2) := by decide +kernel
theorem dX9_clearest_14 : decode cX9_clearest 14 = .ok (.iconst 3, 1) := by decide +kernel
theorem dX9_clearest_15 : decode cX9_clearest 15 = .ok (.if_icmp .ge 27, 3) := by decide +kernel
theorem dX9_clearest_18 : decode cX9_clearest 18 = .ok (.iload_n 3, 1) := by decide +kernel
theorem dX9_clearest_19 : decode cX9_clearest 19 = .ok (.aload_n 0, 1) := by decide +kernel
theorem dX9_clearest_20 : decode cX9_clearest 20 = .ok (.iload 4, 2) := by decide +kernel
theorem dX9_clearest_22 : decode cX9_clearest 22 = .ok (.iload_n 2, 1) := by decide +kernel
theorem dX9_clearest_23 : decode cX9_clearest 23 = .ok (.invokevirtual 189, 3) := by decide +kernel
theorem dX9_clearest_26 : decode cX9_clearest 26 = .ok (.ifCond .eq 7, 3) := by decide +kernel
theorem dX9_clearest_29 : decode cX9_clearest 29 = .ok (.iconst 1, 1) := by decide +kernel
theorem dX9_clearest_30 : decode cX9_clearest 30 = .ok (.goto 4, 3) := by decide +kernel
theorem dX9_clearest_33 : decode cX9_clearest 33 = .ok (.iconst 0, 1) := by decide +kernel
theorem dX9_clearest_34 : decode cX9_clearest 34 = .ok (.iadd, 1) := by decide +kernel
theorem dX9_clearest_35 : decode cX9_clearest 35 = .ok (.istore_n 3, 1) := by decide +kernel
theorem dX9_clearest_36 : decode cX9_clearest 36 = .ok (.iinc 4 1, 3) := by decide +kernel
theorem dX9_clearest_39 : decode cX9_clearest 39 = .ok (.goto (-27), 3) := by decide +kernel
theorem dX9_clearest_42 : decode cX9_clearest 42 = .ok (.iload_n 3, 1) := by decide +kernel
theorem dX9_clearest_43 : decode cX9_clearest 43 = .ok (.iload_n 1, 1) := by decide +kernel
theorem dX9_clearest_44 : decode cX9_clearest 44 = .ok (.if_icmp .ne 9, 3) := by decide +kernel
theorem dX9_clearest_47 : decode cX9_clearest 47 = .ok (.aload_n 0, 1) := by decide +kernel
theorem dX9_clearest_48 : decode cX9_clearest 48 = .ok (.iload_n 2, 1) := by decide +kernel
theorem dX9_clearest_49 : decode cX9_clearest 49 = .ok (.invokevirtual 78, 3) := by decide +kernel
theorem dX9_clearest_52 : decode cX9_clearest 52 = .ok (.ireturn, 1) := by decide +kernel
theorem dX9_clearest_53 : decode cX9_clearest 53 = .ok (.iinc 2 1, 3) := by decide +kernel
theorem dX9_clearest_56 : decode cX9_clearest 56 = .ok (.goto (-54), 3) := by decide +kernel
theorem dX9_clearest_59 : decode cX9_clearest 59 = .ok (.aload_n 0, 1) := by decide +kernel
theorem dX9_clearest_60 : decode cX9_clearest 60 = .ok (.iconst 1, 1) := by decide +kernel
theorem dX9_clearest_61 : decode cX9_clearest 61 = .ok (.invokevirtual 70, 3) := by decide +kernel
theorem dX9_clearest_64 : decode cX9_clearest 64 = .ok (.ireturn, 1) := by decide +kernel
theorem dX9_isMoreWorn_0 : decode cX9_isMoreWorn 0 = .ok (.aload_n 0, 1) := by decide +kernel
theorem dX9_isMoreWorn_1 : decode cX9_isMoreWorn 1 = .ok (.getfield 7, 3) := by decide +kernel
theorem dX9_isMoreWorn_4 : decode cX9_isMoreWorn 4 = .ok (.bipush 25, 2) := by decide +kernel
theorem dX9_isMoreWorn_6 : decode cX9_isMoreWorn 6 = .ok (.iload_n 1, 1) := by decide +kernel
theorem dX9_isMoreWorn_7 : decode cX9_isMoreWorn 7 = .ok (.iadd, 1) := by decide +kernel
theorem dX9_isMoreWorn_8 : decode cX9_isMoreWorn 8 = .ok (.iaload, 1) := by decide +kernel
theorem dX9_isMoreWorn_9 : decode cX9_isMoreWorn 9 = .ok (.aload_n 0, 1) := by decide +kernel
theorem dX9_isMoreWorn_10 : decode cX9_isMoreWorn 10 = .ok (.getfield 7, 3) := by decide +kernel
theorem dX9_isMoreWorn_13 : decode cX9_isMoreWorn 13 = .ok (.bipush 25, 2) := by decide +kernel
theorem dX9_isMoreWorn_15 : decode cX9_isMoreWorn 15 = .ok (.iload_n 2, 1) := by decide +kernel
theorem dX9_isMoreWorn_16 : decode cX9_isMoreWorn 16 = .ok (.iadd, 1) := by decide +kernel
theorem dX9_isMoreWorn_17 : decode cX9_isMoreWorn 17 = .ok (.iaload, 1) := by decide +kernel
theorem dX9_isMoreWorn_18 : decode cX9_isMoreWorn 18 = .ok (.isub, 1) := by decide +kernel
theorem dX9_isMoreWorn_19 : decode cX9_isMoreWorn 19 = .ok (.istore_n 3, 1) := by decide +kernel
theorem dX9_isMoreWorn_20 : decode cX9_isMoreWorn 20 = .ok (.aload_n 0, 1) := by decide +kernel
theorem dX9_isMoreWorn_21 : decode cX9_isMoreWorn 21 = .ok (.getfield 7, 3) := by decide +kernel
theorem dX9_isMoreWorn_24 : decode cX9_isMoreWorn 24 = .ok (.bipush 35, 2) := by decide +kernel
theorem dX9_isMoreWorn_26 : decode cX9_isMoreWorn 26 = .ok (.iload_n 1, 1) := by decide +kernel
theorem dX9_isMoreWorn_27 : decode cX9_isMoreWorn 27 = .ok (.iadd, 1) := by decide +kernel
theorem dX9_isMoreWorn_28 : decode cX9_isMoreWorn 28 = .ok (.iaload, 1) := by decide +kernel
theorem dX9_isMoreWorn_29 : decode cX9_isMoreWorn 29 = .ok (.aload_n 0, 1) := by decide +kernel
theorem dX9_isMoreWorn_30 : decode cX9_isMoreWorn 30 = .ok (.getfield 7, 3) := by decide +kernel
theorem dX9_isMoreWorn_33 : decode cX9_isMoreWorn 33 = .ok (.bipush 35, 2) := by decide +kernel
theorem dX9_isMoreWorn_35 : decode cX9_isMoreWorn 35 = .ok (.iload_n 2, 1) := by decide +kernel
theorem dX9_isMoreWorn_36 : decode cX9_isMoreWorn 36 = .ok (.iadd, 1) := by decide +kernel
theorem dX9_isMoreWorn_37 : decode cX9_isMoreWorn 37 = .ok (.iaload, 1) := by decide +kernel
theorem dX9_isMoreWorn_38 : decode cX9_isMoreWorn 38 = .ok (.isub, 1) := by decide +kernel
theorem dX9_isMoreWorn_39 : decode cX9_isMoreWorn 39 = .ok (.istore 4, 2) := by decide +kernel
theorem dX9_isMoreWorn_41 : decode cX9_isMoreWorn 41 = .ok (.iload_n 3, 1) := by decide +kernel
theorem dX9_isMoreWorn_42 : decode cX9_isMoreWorn 42 = .ok (.ifCond .gt 22, 3) := by decide +kernel
theorem dX9_isMoreWorn_45 : decode cX9_isMoreWorn 45 = .ok (.iload_n 3, 1) := by decide +kernel
theorem dX9_isMoreWorn_46 : decode cX9_isMoreWorn 46 = .ok (.ifCond .ne 22, 3) := by decide +kernel
theorem dX9_isMoreWorn_49 : decode cX9_isMoreWorn 49 = .ok (.iload 4, 2) := by decide +kernel
theorem dX9_isMoreWorn_51 : decode cX9_isMoreWorn 51 = .ok (.ifCond .gt 13, 3) := by decide +kernel
theorem dX9_isMoreWorn_54 : decode cX9_isMoreWorn 54 = .ok (.iload 4, 2) := by decide +kernel
theorem dX9_isMoreWorn_56 : decode cX9_isMoreWorn 56 = .ok (.ifCond .ne 12, 3) := by decide +kernel
theorem dX9_isMoreWorn_59 : decode cX9_isMoreWorn 59 = .ok (.iload_n 1, 1) := by decide +kernel
theorem dX9_isMoreWorn_60 : decode cX9_isMoreWorn 60 = .ok (.iload_n 2, 1) := by decide +kernel
theorem dX9_isMoreWorn_61 : decode cX9_isMoreWorn 61 = .ok (.if_icmp .ge 7, 3) := by decide +kernel
theorem dX9_isMoreWorn_64 : decode cX9_isMoreWorn 64 = .ok (.iconst 1, 1) := by decide +kernel
theorem dX9_isMoreWorn_65 : decode cX9_isMoreWorn 65 = .ok (.goto 4, 3) := by decide +kernel
theorem dX9_isMoreWorn_68 : decode cX9_isMoreWorn 68 = .ok (.iconst 0, 1) := by decide +kernel
theorem dX9_isMoreWorn_69 : decode cX9_isMoreWorn 69 = .ok (.ireturn, 1) := by decide +kernel
set_option maxRecDepth 20000 in
theorem ggX9_worn_X9_isMoreWorn : GoodIn wsX9_worn wsX9_isMoreWorn := goodIn_ca (goodIn_r _ [6, 1, 17, 18, 19, 20, 21, 22, 23, 24, 25, 26, 27, 28, 29, 30, 31, 32, 33, 34, 35, 36] (by decide +kernel) (by decide +kernel)) (goodIn_sub (fun _ h => List.mem_cons_of_mem _ (List.mem_append_right _ h)) (by decide +kernel))
set_option maxRecDepth 20000 in
theorem gX9_worn_X9_isMoreWorn : GoodIn wsX9_worn (wsV RX9 193 RX9 yX9_isMoreWorn wsX9_isMoreWorn) := goodIn_app (goodIn_of _ (by decide +kernel)) ggX9_worn_X9_isMoreWorn
set_option maxRecDepth 20000 in
theorem ggX9_worn_X9_done : GoodIn wsX9_worn wsX9_done := goodIn_r _ [10, 11, 17, 18, 19, 20, 21, 22, 23, 24, 25, 26, 27, 28, 29, 30, 31, 32, 33, 34, 35, 36] (by decide +kernel) (by decide +kernel)
set_option maxRecDepth 20000 in
theorem gX9_worn_X9_done : GoodIn wsX9_worn (wsV RX9 78 RX9 yX9_done wsX9_done) := goodIn_app (goodIn_of _ (by decide +kernel)) ggX9_worn_X9_done
set_option maxRecDepth 20000 in
theorem ggX9_worn_X9_fails : GoodIn wsX9_worn wsX9_fails := goodIn_r _ [15, 11, 16, 17, 18, 19, 20, 21, 22, 23, 24, 25, 26, 27, 28, 29, 30, 31, 32, 33, 34, 35, 36] (by decide +kernel) (by decide +kernel)
set_option maxRecDepth 20000 in
theorem gX9_worn_X9_fails : GoodIn wsX9_worn (wsV RX9 70 RX9 yX9_fails wsX9_fails) := goodIn_app (goodIn_of _ (by decide +kernel)) ggX9_worn_X9_fails
theorem dX9_worn_0 : decode cX9_worn 0 = .ok (.iconst 0, 1) := by decide +kernel
theorem dX9_worn_1 : decode cX9_worn 1 = .ok (.istore_n 2, 1) := by decide +kernel
theorem dX9_worn_2 : decode cX9_worn 2 = .ok (.iload_n 2, 1) := by decide +kernel
theorem dX9_worn_3 : decode cX9_worn 3 = .ok (.aload_n 0, 1) := by decide +kernel
theorem dX9_worn_4 : decode cX9_worn 4 = .ok (.getfield 7, 3) := by decide +kernel
theorem dX9_worn_7 : decode cX9_worn 7 = .ok (.iconst 0, 1) := by decide +kernel
theorem dX9_worn_8 : decode cX9_worn 8 = .ok (.iaload, 1) := by decide +kernel
theorem dX9_worn_9 : decode cX9_worn 9 = .ok (.if_icmp .ge 60, 3) := by decide +kernel
theorem dX9_worn_12 : decode cX9_worn 12 = .ok (.iconst 0, 1) := by decide +kernel
theorem dX9_worn_13 : decode cX9_worn 13 = .ok (.istore_n 3, 1) := by decide +kernel
theorem dX9_worn_14 : decode cX9_worn 14 = .ok (.iconst 0, 1) := by decide +kernel
theorem dX9_worn_15 : decode cX9_worn 15 = .ok (.istore 4, 2) := by decide +kernel
theorem dX9_worn_17 : decode cX9_worn 17 = .ok (.iload 4, 2) := by decide +kernel
theorem dX9_worn_19 : decode cX9_worn 19 = .ok (.aload_n 0, 1) := by decide +kernel
theorem dX9_worn_20 : decode cX9_worn 20 = .ok (.getfield 7, 3) := by decide +kernel
theorem dX9_worn_23 : decode cX9_worn 23 = .ok (.iconst 0, 1) := by decide +kernel
theorem dX9_worn_24 : decode cX9_worn 24 = .ok (.iaload, 1) := by decide +kernel
theorem dX9_worn_25 : decode cX9_worn 25 = .ok (.if_icmp .ge 27, 3) := by decide +kernel
theorem dX9_worn_28 : decode cX9_worn 28 = .ok (.iload_n 3, 1) := by decide +kernel
theorem dX9_worn_29 : decode cX9_worn 29 = .ok (.aload_n 0, 1) := by decide +kernel
theorem dX9_worn_30 : decode cX9_worn 30 = .ok (.iload 4, 2) := by decide +kernel
theorem dX9_worn_32 : decode cX9_worn 32 = .ok (.iload_n 2, 1) := by decide +kernel
theorem dX9_worn_33 : decode cX9_worn 33 = .ok (.invokevirtual 193, 3) := by decide +kernel
theorem dX9_worn_36 : decode cX9_worn 36 = .ok (.ifCond .eq 7, 3) := by decide +kernel
theorem dX9_worn_39 : decode cX9_worn 39 = .ok (.iconst 1, 1) := by decide +kernel
theorem dX9_worn_40 : decode cX9_worn 40 = .ok (.goto 4, 3) := by decide +kernel
theorem dX9_worn_43 : decode cX9_worn 43 = .ok (.iconst 0, 1) := by decide +kernel
theorem dX9_worn_44 : decode cX9_worn 44 = .ok (.iadd, 1) := by decide +kernel
theorem dX9_worn_45 : decode cX9_worn 45 = .ok (.istore_n 3, 1) := by decide +kernel
theorem dX9_worn_46 : decode cX9_worn 46 = .ok (.iinc 4 1, 3) := by decide +kernel
theorem dX9_worn_49 : decode cX9_worn 49 = .ok (.goto (-32), 3) := by decide +kernel
theorem dX9_worn_52 : decode cX9_worn 52 = .ok (.iload_n 3, 1) := by decide +kernel
theorem dX9_worn_53 : decode cX9_worn 53 = .ok (.iload_n 1, 1) := by decide +kernel
theorem dX9_worn_54 : decode cX9_worn 54 = .ok (.if_icmp .ne 9, 3) := by decide +kernel
theorem dX9_worn_57 : decode cX9_worn 57 = .ok (.aload_n 0, 1) := by decide +kernel
theorem dX9_worn_58 : decode cX9_worn 58 = .ok (.iload_n 2, 1) := by decide +kernel
theorem dX9_worn_59 : decode cX9_worn 59 = .ok (.invokevirtual 78, 3) := by decide +kernel
theorem dX9_worn_62 : decode cX9_worn 62 = .ok (.ireturn, 1) := by decide +kernel
theorem dX9_worn_63 : decode cX9_worn 63 = .ok (.iinc 2 1, 3) := by decide +kernel
theorem dX9_worn_66 : decode cX9_worn 66 = .ok (.goto (-64), 3) := by decide +kernel
theorem dX9_worn_69 : decode cX9_worn 69 = .ok (.aload_n 0, 1) := by decide +kernel
theorem dX9_worn_70 : decode cX9_worn 70 = .ok (.iconst 1, 1) := by decide +kernel
theorem dX9_worn_71 : decode cX9_worn 71 = .ok (.invokevirtual 70, 3) := by decide +kernel
theorem dX9_worn_74 : decode cX9_worn 74 = .ok (.ireturn, 1) := by decide +kernel
theorem dX9_isWell_0 : decode cX9_isWell 0 = .ok (.aload_n 0, 1) := by decide +kernel
theorem dX9_isWell_1 : decode cX9_isWell 1 = .ok (.iconst 0, 1) := by decide +kernel
theorem dX9_isWell_2 : decode cX9_isWell 2 = .ok (.putfield 36, 3) := by decide +kernel
theorem dX9_isWell_5 : decode cX9_isWell 5 = .ok (.iconst 1, 1) := by decide +kernel
theorem dX9_isWell_6 : decode cX9_isWell 6 = .ok (.ireturn, 1) := by decide +kernel
set_option maxRecDepth 20000 in
theorem ggX9_type_X9_fails : GoodIn wsX9_type wsX9_fails := goodIn_r _ [7, 8, 9, 14, 15, 16, 17, 18, 19, 20, 21, 22, 23, 24, 25, 26, 27, 28, 29, 30, 31, 32, 33] (by decide +kernel) (by decide +kernel)
set_option maxRecDepth 20000 in
theorem gX9_type_X9_fails : GoodIn wsX9_type (wsV RX9 70 RX9 yX9_fails wsX9_fails) := goodIn_app (goodIn_of _ (by decide +kernel)) ggX9_type_X9_fails
set_option maxRecDepth 20000 in
theorem ggX9_type_X9_done : GoodIn wsX9_type wsX9_done := goodIn_r _ [13, 8, 14, 15, 16, 17, 18, 19, 20, 21, 22, 23, 24, 25, 26, 27, 28, 29, 30, 31, 32, 33] (by decide +kernel) (by decide +kernel)
set_option maxRecDepth 20000 in
theorem gX9_type_X9_done : GoodIn wsX9_type (wsV RX9 78 RX9 yX9_done wsX9_done) := goodIn_app (goodIn_of _ (by decide +kernel)) ggX9_type_X9_done
theorem dX9_type_0 : decode cX9_type 0 = .ok (.aload_n 0, 1) := by decide +kernel
theorem dX9_type_1 : decode cX9_type 1 = .ok (.getfield 196, 3) := by decide +kernel
theorem dX9_type_4 : decode cX9_type 4 = .ok (.bipush 60, 2) := by decide +kernel
theorem dX9_type_6 : decode cX9_type 6 = .ok (.if_icmp .ne 9, 3) := by decide +kernel
theorem dX9_type_9 : decode cX9_type 9 = .ok (.aload_n 0, 1) := by decide +kernel
theorem dX9_type_10 : decode cX9_type 10 = .ok (.iconst 1, 1) := by decide +kernel
theorem dX9_type_11 : decode cX9_type 11 = .ok (.invokevirtual 70, 3) := by decide +kernel
theorem dX9_type_14 : decode cX9_type 14 = .ok (.ireturn, 1) := by decide +kernel
theorem dX9_type_15 : decode cX9_type 15 = .ok (.aload_n 0, 1) := by decide +kernel
theorem dX9_type_16 : decode cX9_type 16 = .ok (.getfield 22, 3) := by decide +kernel
theorem dX9_type_19 : decode cX9_type 19 = .ok (.aload_n 0, 1) := by decide +kernel
theorem dX9_type_20 : decode cX9_type 20 = .ok (.getfield 196, 3) := by decide +kernel
theorem dX9_type_23 : decode cX9_type 23 = .ok (.iload_n 1, 1) := by decide +kernel
theorem dX9_type_24 : decode cX9_type 24 = .ok (.castore, 1) := by decide +kernel
theorem dX9_type_25 : decode cX9_type 25 = .ok (.aload_n 0, 1) := by decide +kernel
theorem dX9_type_26 : decode cX9_type 26 = .ok (.dup, 1) := by decide +kernel
theorem dX9_type_27 : decode cX9_type 27 = .ok (.getfield 196, 3) := by decide +kernel
theorem dX9_type_30 : decode cX9_type 30 = .ok (.iconst 1, 1) := by decide +kernel
theorem dX9_type_31 : decode cX9_type 31 = .ok (.iadd, 1) := by decide +kernel
theorem dX9_type_32 : decode cX9_type 32 = .ok (.putfield 196, 3) := by decide +kernel
theorem dX9_type_35 : decode cX9_type 35 = .ok (.aload_n 0, 1) := by decide +kernel
theorem dX9_type_36 : decode cX9_type 36 = .ok (.aload_n 0, 1) := by decide +kernel
theorem dX9_type_37 : decode cX9_type 37 = .ok (.getfield 196, 3) := by decide +kernel
theorem dX9_type_40 : decode cX9_type 40 = .ok (.invokevirtual 78, 3) := by decide +kernel
theorem dX9_type_43 : decode cX9_type 43 = .ok (.ireturn, 1) := by decide +kernel
theorem dX9_here_0 : decode cX9_here 0 = .ok (.aload_n 0, 1) := by decide +kernel
theorem dX9_here_1 : decode cX9_here 1 = .ok (.getfield 199, 3) := by decide +kernel
theorem dX9_here_4 : decode cX9_here 4 = .ok (.aload_n 0, 1) := by decide +kernel
theorem dX9_here_5 : decode cX9_here 5 = .ok (.getfield 196, 3) := by decide +kernel
theorem dX9_here_8 : decode cX9_here 8 = .ok (.if_icmp .ge 15, 3) := by decide +kernel
theorem dX9_here_11 : decode cX9_here 11 = .ok (.aload_n 0, 1) := by decide +kernel
theorem dX9_here_12 : decode cX9_here 12 = .ok (.getfield 22, 3) := by decide +kernel
theorem dX9_here_15 : decode cX9_here 15 = .ok (.aload_n 0, 1) := by decide +kernel
theorem dX9_here_16 : decode cX9_here 16 = .ok (.getfield 199, 3) := by decide +kernel
theorem dX9_here_19 : decode cX9_here 19 = .ok (.caload, 1) := by decide +kernel
theorem dX9_here_20 : decode cX9_here 20 = .ok (.goto 4, 3) := by decide +kernel
theorem dX9_here_23 : decode cX9_here 23 = .ok (.iconst (-1), 1) := by decide +kernel
theorem dX9_here_24 : decode cX9_here 24 = .ok (.ireturn, 1) := by decide +kernel
set_option maxRecDepth 20000 in
theorem ggX9_needs_X9_here : GoodIn wsX9_needs wsX9_here := goodIn_ca (goodIn_r _ [7, 2, 8, 9, 10, 11, 12, 13, 14, 15, 16, 17, 18, 19, 20, 21, 22, 23, 24, 25, 26, 27, 28, 29] (by decide +kernel) (by decide +kernel)) (goodIn_sub (fun _ h => List.mem_cons_of_mem _ (List.mem_append_right _ h)) (by decide +kernel))
set_option maxRecDepth 20000 in
theorem gX9_needs_X9_here : GoodIn wsX9_needs (wsV RX9 205 RX9 yX9_here wsX9_here) := goodIn_app (goodIn_of _ (by decide +kernel)) ggX9_needs_X9_here
theorem dX9_needs_0 : decode cX9_needs 0 = .ok (.aload_n 0, 1) := by decide +kernel
theorem dX9_needs_1 : decode cX9_needs 1 = .ok (.aload_n 0, 1) := by decide +kernel
theorem dX9_needs_2 : decode cX9_needs 2 = .ok (.getfield 202, 3) := by decide +kernel
theorem dX9_needs_5 : decode cX9_needs 5 = .ok (.ifCond .ne 11, 3) := by decide +kernel
theorem dX9_needs_8 : decode cX9_needs 8 = .ok (.aload_n 0, 1) := by decide +kernel
theorem dX9_needs_9 : decode cX9_needs 9 = .ok (.invokevirtual 205, 3) := by decide +kernel
theorem dX9_needs_12 : decode cX9_needs 12 = .ok (.iload_n 1, 1) := by decide +kernel
theorem dX9_needs_13 : decode cX9_needs 13 = .ok (.if_icmp .eq 7, 3) := by decide +kernel
theorem dX9_needs_16 : decode cX9_needs 16 = .ok (.iconst 1, 1) := by decide +kernel
theorem dX9_needs_17 : decode cX9_needs 17 = .ok (.goto 4, 3) := by decide +kernel
theorem dX9_needs_20 : decode cX9_needs 20 = .ok (.iconst 0, 1) := by decide +kernel
theorem dX9_needs_21 : decode cX9_needs 21 = .ok (.putfield 202, 3) := by decide +kernel
theorem dX9_needs_24 : decode cX9_needs 24 = .ok (.aload_n 0, 1) := by decide +kernel
theorem dX9_needs_25 : decode cX9_needs 25 = .ok (.dup, 1) := by decide +kernel
theorem dX9_needs_26 : decode cX9_needs 26 = .ok (.getfield 199, 3) := by decide +kernel
theorem dX9_needs_29 : decode cX9_needs 29 = .ok (.aload_n 0, 1) := by decide +kernel
theorem dX9_needs_30 : decode cX9_needs 30 = .ok (.getfield 202, 3) := by decide +kernel
theorem dX9_needs_33 : decode cX9_needs 33 = .ok (.ifCond .eq 7, 3) := by decide +kernel
theorem dX9_needs_36 : decode cX9_needs 36 = .ok (.iconst 0, 1) := by decide +kernel
theorem dX9_needs_37 : decode cX9_needs 37 = .ok (.goto 4, 3) := by decide +kernel
theorem dX9_needs_40 : decode cX9_needs 40 = .ok (.iconst 1, 1) := by decide +kernel
theorem dX9_needs_41 : decode cX9_needs 41 = .ok (.iadd, 1) := by decide +kernel
theorem dX9_needs_42 : decode cX9_needs 42 = .ok (.putfield 199, 3) := by decide +kernel
theorem dX9_needs_45 : decode cX9_needs 45 = .ok (.return_, 1) := by decide +kernel
set_option maxRecDepth 20000 in
theorem ggX9_needsThree_X9_needs : GoodIn wsX9_needsThree wsX9_needs := goodIn_ca (goodIn_r _ [5, 6, 7, 8, 9, 10, 4, 11, 12, 13, 14, 15, 16, 17, 18, 19, 20, 21, 22, 23, 24, 25, 26, 27, 28, 29, 30, 31, 32, 33] (by decide +kernel) (by decide +kernel)) (goodIn_sub (fun _ h => List.mem_cons_of_mem _ (List.mem_append_right _ h)) (by decide +kernel))
set_option maxRecDepth 20000 in
theorem gX9_needsThree_X9_needs : GoodIn wsX9_needsThree (wsV RX9 209 RX9 yX9_needs wsX9_needs) := goodIn_app (goodIn_of _ (by decide +kernel)) ggX9_needsThree_X9_needs
theorem dX9_needsThree_0 : decode cX9_needsThree 0 = .ok (.aload_n 0, 1) := by decide +kernel
theorem dX9_needsThree_1 : decode cX9_needsThree 1 = .ok (.iload_n 1, 1) := by decide +kernel
theorem dX9_needsThree_2 : decode cX9_needsThree 2 = .ok (.invokevirtual 209, 3) := by decide +kernel
theorem dX9_needsThree_5 : decode cX9_needsThree 5 = .ok (.aload_n 0, 1) := by decide +kernel
theorem dX9_needsThree_6 : decode cX9_needsThree 6 = .ok (.iload_n 2, 1) := by decide +kernel
theorem dX9_needsThree_7 : decode cX9_needsThree 7 = .ok (.invokevirtual 209, 3) := by decide +kernel
theorem dX9_needsThree_10 : decode cX9_needsThree 10 = .ok (.aload_n 0, 1) := by decide +kernel
theorem dX9_needsThree_11 : decode cX9_needsThree 11 = .ok (.iload_n 3, 1) := by decide +kernel
theorem dX9_needsThree_12 : decode cX9_needsThree 12 = .ok (.invokevirtual 209, 3) := by decide +kernel
theorem dX9_needsThree_15 : decode cX9_needsThree 15 = .ok (.return_, 1) := by decide +kernel
set_option maxRecDepth 20000 in
theorem ggX9_figure_X9_here : GoodIn wsX9_figure wsX9_here := goodIn_ca (goodIn_r _ [7, 2, 8, 9, 13, 14, 15, 16, 17, 18, 19, 20, 21, 22, 23, 24, 25, 26, 27, 28, 29, 30, 31, 32] (by decide +kernel) (by decide +kernel)) (goodIn_sub (fun _ h => List.mem_cons_of_mem _ (List.mem_append_right _ h)) (by decide +kernel))
set_option maxRecDepth 20000 in
theorem gX9_figure_X9_here : GoodIn wsX9_figure (wsV RX9 205 RX9 yX9_here wsX9_here) := goodIn_app (goodIn_of _ (by decide +kernel)) ggX9_figure_X9_here
set_option maxRecDepth 20000 in
theorem ggX9_figure_X9_in : GoodIn wsX9_figure wsX9_in := goodIn_r _ [12] (by decide +kernel) (by decide +kernel)
set_option maxRecDepth 20000 in
theorem gX9_figure_X9_in : GoodIn wsX9_figure (va_wsS RX9 62 yX9_in wsX9_in) := goodIn_app (goodIn_of _ (by decide +kernel)) ggX9_figure_X9_in
theorem dX9_figure_0 : decode cX9_figure 0 = .ok (.aload_n 0, 1) := by decide +kernel
theorem dX9_figure_1 : decode cX9_figure 1 = .ok (.invokevirtual 205, 3) := by decide +kernel
theorem dX9_figure_4 : decode cX9_figure 4 = .ok (.istore_n 1, 1) := by decide +kernel
theorem dX9_figure_5 : decode cX9_figure 5 = .ok (.aload_n 0, 1) := by decide +kernel
theorem dX9_figure_6 : decode cX9_figure 6 = .ok (.aload_n 0, 1) := by decide +kernel
theorem dX9_figure_7 : decode cX9_figure 7 = .ok (.getfield 202, 3) := by decide +kernel
theorem dX9_figure_10 : decode cX9_figure 10 = .ok (.ifCond .ne 14, 3) := by decide +kernel
theorem dX9_figure_13 : decode cX9_figure 13 = .ok (.iload_n 1, 1) := by decide +kernel
theorem dX9_figure_14 : decode cX9_figure 14 = .ok (.bipush 48, 2) := by decide +kernel
theorem dX9_figure_16 : decode cX9_figure 16 = .ok (.bipush 57, 2) := by decide +kernel
theorem dX9_figure_18 : decode cX9_figure 18 = .ok (.invokestatic 62, 3) := by decide +kernel
theorem dX9_figure_21 : decode cX9_figure 21 = .ok (.ifCond .ne 7, 3) := by decide +kernel
theorem dX9_figure_24 : decode cX9_figure 24 = .ok (.iconst 1, 1) := by decide +kernel
theorem dX9_figure_25 : decode cX9_figure 25 = .ok (.goto 4, 3) := by decide +kernel
theorem dX9_figure_28 : decode cX9_figure 28 = .ok (.iconst 0, 1) := by decide +kernel
theorem dX9_figure_29 : decode cX9_figure 29 = .ok (.putfield 202, 3) := by decide +kernel
theorem dX9_figure_32 : decode cX9_figure 32 = .ok (.aload_n 0, 1) := by decide +kernel
theorem dX9_figure_33 : decode cX9_figure 33 = .ok (.dup, 1) := by decide +kernel
theorem dX9_figure_34 : decode cX9_figure 34 = .ok (.getfield 199, 3) := by decide +kernel
theorem dX9_figure_37 : decode cX9_figure 37 = .ok (.aload_n 0, 1) := by decide +kernel
theorem dX9_figure_38 : decode cX9_figure 38 = .ok (.getfield 202, 3) := by decide +kernel
theorem dX9_figure_41 : decode cX9_figure 41 = .ok (.ifCond .eq 7, 3) := by decide +kernel
theorem dX9_figure_44 : decode cX9_figure 44 = .ok (.iconst 0, 1) := by decide +kernel
theorem dX9_figure_45 : decode cX9_figure 45 = .ok (.goto 4, 3) := by decide +kernel
theorem dX9_figure_48 : decode cX9_figure 48 = .ok (.iconst 1, 1) := by decide +kernel
theorem dX9_figure_49 : decode cX9_figure 49 = .ok (.iadd, 1) := by decide +kernel
theorem dX9_figure_50 : decode cX9_figure 50 = .ok (.putfield 199, 3) := by decide +kernel
theorem dX9_figure_53 : decode cX9_figure 53 = .ok (.aload_n 0, 1) := by decide +kernel
theorem dX9_figure_54 : decode cX9_figure 54 = .ok (.getfield 202, 3) := by decide +kernel
theorem dX9_figure_57 : decode cX9_figure 57 = .ok (.ifCond .eq 7, 3) := by decide +kernel
theorem dX9_figure_60 : decode cX9_figure 60 = .ok (.iconst 0, 1) := by decide +kernel
theorem dX9_figure_61 : decode cX9_figure 61 = .ok (.goto 7, 3) := by decide +kernel
theorem dX9_figure_64 : decode cX9_figure 64 = .ok (.iload_n 1, 1) := by decide +kernel
theorem dX9_figure_65 : decode cX9_figure 65 = .ok (.bipush 48, 2) := by decide +kernel
theorem dX9_figure_67 : decode cX9_figure 67 = .ok (.isub, 1) := by decide +kernel
theorem dX9_figure_68 : decode cX9_figure 68 = .ok (.ireturn, 1) := by decide +kernel
set_option maxRecDepth 20000 in
theorem ggX9_figureBehind_X9_needs : GoodIn wsX9_figureBehind wsX9_needs := goodIn_ca (goodIn_r _ [5, 6, 7, 8, 9, 10, 4, 11, 12, 13, 21, 22, 23, 24, 25, 26, 27, 28, 29, 30, 31, 32, 33, 34, 35, 36, 37, 38, 39, 40] (by decide +kernel) (by decide +kernel)) (goodIn_sub (fun _ h => List.mem_cons_of_mem _ (List.mem_append_right _ h)) (by decide +kernel))
set_option maxRecDepth 20000 in
theorem gX9_figureBehind_X9_needs : GoodIn wsX9_figureBehind (wsV RX9 209 RX9 yX9_needs wsX9_needs) := goodIn_app (goodIn_of _ (by decide +kernel)) ggX9_figureBehind_X9_needs
set_option maxRecDepth 20000 in
theorem ggX9_figureBehind_X9_figure : GoodIn wsX9_figureBehind wsX9_figure := goodIn_ca (goodIn_r _ [17, 6, 7, 8, 9, 10, 4, 11, 12, 13, 18, 19, 20, 21, 22, 23, 24, 25, 26, 27, 28, 29, 30, 31, 32, 33, 34, 35, 36, 37, 38, 39, 40] (by decide +kernel) (by decide +kernel)) (goodIn_sub (fun _ h => List.mem_cons_of_mem _ (List.mem_append_right _ h)) (by decide +kernel))
set_option maxRecDepth 20000 in
theorem gX9_figureBehind_X9_figure : GoodIn wsX9_figureBehind (wsV RX9 213 RX9 yX9_figure wsX9_figure) := goodIn_app (goodIn_of _ (by decide +kernel)) ggX9_figureBehind_X9_figure
theorem dX9_figureBehind_0 : decode cX9_figureBehind 0 = .ok (.aload_n 0, 1) := by decide +kernel
theorem dX9_figureBehind_1 : decode cX9_figureBehind 1 = .ok (.iload_n 1, 1) := by decide +kernel
theorem dX9_figureBehind_2 : decode cX9_figureBehind 2 = .ok (.invokevirtual 209, 3) := by decide +kernel
theorem dX9_figureBehind_5 : decode cX9_figureBehind 5 = .ok (.aload_n 0, 1) := by decide +kernel
theorem dX9_figureBehind_6 : decode cX9_figureBehind 6 = .ok (.invokevirtual 213, 3) := by decide +kernel
theorem dX9_figureBehind_9 : decode cX9_figureBehind 9 = .ok (.ireturn, 1) := by decide +kernel
theorem dX9_foldOf_0 : decode cX9_foldOf 0 = .ok (.iload_n 0, 1) := by decide +kernel
theorem dX9_foldOf_1 : decode cX9_foldOf 1 = .ok (.bipush 115, 2) := by decide +kernel
theorem dX9_foldOf_3 : decode cX9_foldOf 3 = .ok (.if_icmp .ne 7, 3) := by decide +kernel
theorem dX9_foldOf_6 : decode cX9_foldOf 6 = .ok (.iconst 1, 1) := by decide +kernel
theorem dX9_foldOf_7 : decode cX9_foldOf 7 = .ok (.goto 34, 3) := by decide +kernel
theorem dX9_foldOf_10 : decode cX9_foldOf 10 = .ok (.iload_n 0, 1) := by decide +kernel
theorem dX9_foldOf_11 : decode cX9_foldOf 11 = .ok (.bipush 102, 2) := by decide +kernel
theorem dX9_foldOf_13 : decode cX9_foldOf 13 = .ok (.if_icmp .ne 7, 3) := by decide +kernel
theorem dX9_foldOf_16 : decode cX9_foldOf 16 = .ok (.iconst 2, 1) := by decide +kernel
theorem dX9_foldOf_17 : decode cX9_foldOf 17 = .ok (.goto 24, 3) := by decide +kernel
theorem dX9_foldOf_20 : decode cX9_foldOf 20 = .ok (.iload_n 0, 1) := by decide +kernel
theorem dX9_foldOf_21 : decode cX9_foldOf 21 = .ok (.bipush 98, 2) := by decide +kernel
theorem dX9_foldOf_23 : decode cX9_foldOf 23 = .ok (.if_icmp .ne 7, 3) := by decide +kernel
theorem dX9_foldOf_26 : decode cX9_foldOf 26 = .ok (.iconst 3, 1) := by decide +kernel
theorem dX9_foldOf_27 : decode cX9_foldOf 27 = .ok (.goto 14, 3) := by decide +kernel
theorem dX9_foldOf_30 : decode cX9_foldOf 30 = .ok (.iload_n 0, 1) := by decide +kernel
theorem dX9_foldOf_31 : decode cX9_foldOf 31 = .ok (.bipush 99, 2) := by decide +kernel
theorem dX9_foldOf_33 : decode cX9_foldOf 33 = .ok (.if_icmp .ne 7, 3) := by decide +kernel
theorem dX9_foldOf_36 : decode cX9_foldOf 36 = .ok (.iconst 4, 1) := by decide +kernel
theorem dX9_foldOf_37 : decode cX9_foldOf 37 = .ok (.goto 4, 3) := by decide +kernel
theorem dX9_foldOf_40 : decode cX9_foldOf 40 = .ok (.iconst 0, 1) := by decide +kernel
theorem dX9_foldOf_41 : decode cX9_foldOf 41 = .ok (.ireturn, 1) := by decide +kernel
set_option maxRecDepth 20000 in
theorem ggX9_foldHere_X9_here : GoodIn wsX9_foldHere wsX9_here := goodIn_ca (goodIn_r _ [7, 2, 8, 9, 13, 14, 15, 16, 17, 18, 19, 20, 21, 22, 23, 24, 25, 26, 27, 28, 29, 30, 31, 32] (by decide +kernel) (by decide +kernel)) (goodIn_sub (fun _ h => List.mem_cons_of_mem _ (List.mem_append_right _ h)) (by decide +kernel))
set_option maxRecDepth 20000 in
theorem gX9_foldHere_X9_here : GoodIn wsX9_foldHere (wsV RX9 205 RX9 yX9_here wsX9_here) := goodIn_app (goodIn_of _ (by decide +kernel)) ggX9_foldHere_X9_here
set_option maxRecDepth 20000 in
theorem ggX9_foldHere_X9_foldOf : GoodIn wsX9_foldHere wsX9_foldOf := goodIn_r _ [12] (by decide +kernel) (by decide +kernel)
