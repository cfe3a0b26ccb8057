set_option maxRecDepth 20000 in
theorem ggX1_length_J0_length_8abf5 : GoodIn wsX1_length wsJ0_length_8abf5 := goodIn_r _ [6, 7, 8, 9, 10, 5, 11, 12, 13, 14, 15, 16, 17] (by decide +kernel) (by decide +kernel)
set_option maxRecDepth 20000 in
theorem gX1_length_J0_length_8abf5 : GoodIn wsX1_length (wsV RX1 54 RJ0 yJ0_length_8abf5 wsJ0_length_8abf5) := goodIn_app (goodIn_of _ (by decide +kernel)) ggX1_length_J0_length_8abf5
theorem dX1_length_0 : decode cX1_length 0 = .ok (.aload_n 0, 1) := by decide +kernel
theorem dX1_length_1 : decode cX1_length 1 = .ok (.getfield 50, 3) := by decide +kernel
theorem dX1_length_4 : decode cX1_length 4 = .ok (.invokevirtual 54, 3) := by decide +kernel
theorem dX1_length_7 : decode cX1_length 7 = .ok (.ireturn, 1) := by decide +kernel
set_option maxRecDepth 20000 in
theorem ggX1_signAt_J0_length_8abf5 : GoodIn wsX1_signAt wsJ0_length_8abf5 := goodIn_r _ [6, 7, 8, 9, 10, 5, 11, 12, 13, 51, 52, 53, 54] (by decide +kernel) (by decide +kernel)
set_option maxRecDepth 20000 in
theorem gX1_signAt_J0_length_8abf5 : GoodIn wsX1_signAt (wsV RX1 54 RJ0 yJ0_length_8abf5 wsJ0_length_8abf5) := goodIn_app (goodIn_of _ (by decide +kernel)) ggX1_signAt_J0_length_8abf5
set_option maxRecDepth 20000 in
theorem ggX1_signAt_J0_charAt_5068e : GoodIn wsX1_signAt wsJ0_charAt_5068e := goodIn_r _ [17, 7, 18, 19, 20, 5, 21, 12, 13, 22, 23, 24, 25, 26, 27, 28, 29, 30, 31, 32, 33, 34, 35, 36, 37, 38, 39, 40, 41, 42, 43, 44, 45, 46, 47, 48, 49, 50, 51, 52, 53, 54] (by decide +kernel) (by decide +kernel)
set_option maxRecDepth 20000 in
theorem gX1_signAt_J0_charAt_5068e : GoodIn wsX1_signAt (wsV RX1 60 RJ0 yJ0_charAt_5068e wsJ0_charAt_5068e) := goodIn_app (goodIn_of _ (by decide +kernel)) ggX1_signAt_J0_charAt_5068e
theorem dX1_signAt_0 : decode cX1_signAt 0 = .ok (.iload_n 1, 1) := by decide +kernel
theorem dX1_signAt_1 : decode cX1_signAt 1 = .ok (.ifCond .lt 25, 3) := by decide +kernel
theorem dX1_signAt_4 : decode cX1_signAt 4 = .ok (.iload_n 1, 1) := by decide +kernel
theorem dX1_signAt_5 : decode cX1_signAt 5 = .ok (.aload_n 0, 1) := by decide +kernel
theorem dX1_signAt_6 : decode cX1_signAt 6 = .ok (.getfield 50, 3) := by decide +kernel
theorem dX1_signAt_9 : decode cX1_signAt 9 = .ok (.invokevirtual 54, 3) := by decide +kernel
theorem dX1_signAt_12 : decode cX1_signAt 12 = .ok (.if_icmp .ge 14, 3) := by decide +kernel
theorem dX1_signAt_15 : decode cX1_signAt 15 = .ok (.aload_n 0, 1) := by decide +kernel
theorem dX1_signAt_16 : decode cX1_signAt 16 = .ok (.getfield 50, 3) := by decide +kernel
theorem dX1_signAt_19 : decode cX1_signAt 19 = .ok (.iload_n 1, 1) := by decide +kernel
theorem dX1_signAt_20 : decode cX1_signAt 20 = .ok (.invokevirtual 60, 3) := by decide +kernel
theorem dX1_signAt_23 : decode cX1_signAt 23 = .ok (.goto 5, 3) := by decide +kernel
theorem dX1_signAt_26 : decode cX1_signAt 26 = .ok (.bipush 32, 2) := by decide +kernel
theorem dX1_signAt_28 : decode cX1_signAt 28 = .ok (.ireturn, 1) := by decide +kernel
theorem dX2_init_0 : decode cX2_init 0 = .ok (.aload_n 0, 1) := by decide +kernel
theorem dX2_init_1 : decode cX2_init 1 = .ok (.invokespecial 3, 3) := by decide +kernel
theorem dX2_init_4 : decode cX2_init 4 = .ok (.aload_n 0, 1) := by decide +kernel
theorem dX2_init_5 : decode cX2_init 5 = .ok (.sipush 640, 3) := by decide +kernel
theorem dX2_init_8 : decode cX2_init 8 = .ok (.newarray .int, 2) := by decide +kernel
theorem dX2_init_10 : decode cX2_init 10 = .ok (.putfield 11, 3) := by decide +kernel
theorem dX2_init_13 : decode cX2_init 13 = .ok (.aload_n 0, 1) := by decide +kernel
theorem dX2_init_14 : decode cX2_init 14 = .ok (.iconst 0, 1) := by decide +kernel
theorem dX2_init_15 : decode cX2_init 15 = .ok (.putfield 17, 3) := by decide +kernel
theorem dX2_init_18 : decode cX2_init 18 = .ok (.return_, 1) := by decide +kernel
theorem dX2_size_0 : decode cX2_size 0 = .ok (.aload_n 0, 1) := by decide +kernel
theorem dX2_size_1 : decode cX2_size 1 = .ok (.getfield 17, 3) := by decide +kernel
theorem dX2_size_4 : decode cX2_size 4 = .ok (.ireturn, 1) := by decide +kernel
theorem dX2_empty_0 : decode cX2_empty 0 = .ok (.aload_n 0, 1) := by decide +kernel
theorem dX2_empty_1 : decode cX2_empty 1 = .ok (.iconst 0, 1) := by decide +kernel
theorem dX2_empty_2 : decode cX2_empty 2 = .ok (.putfield 17, 3) := by decide +kernel
theorem dX2_empty_5 : decode cX2_empty 5 = .ok (.return_, 1) := by decide +kernel
theorem dX2_push_0 : decode cX2_push 0 = .ok (.aload_n 0, 1) := by decide +kernel
theorem dX2_push_1 : decode cX2_push 1 = .ok (.getfield 17, 3) := by decide +kernel
theorem dX2_push_4 : decode cX2_push 4 = .ok (.bipush 8, 2) := by decide +kernel
theorem dX2_push_6 : decode cX2_push 6 = .ok (.if_icmp .lt 26, 3) := by decide +kernel
theorem dX2_push_9 : decode cX2_push 9 = .ok (.aload_n 0, 1) := by decide +kernel
theorem dX2_push_10 : decode cX2_push 10 = .ok (.getfield 11, 3) := by decide +kernel
theorem dX2_push_13 : decode cX2_push 13 = .ok (.bipush 80, 2) := by decide +kernel
theorem dX2_push_15 : decode cX2_push 15 = .ok (.aload_n 0, 1) := by decide +kernel
theorem dX2_push_16 : decode cX2_push 16 = .ok (.getfield 11, 3) := by decide +kernel
theorem dX2_push_19 : decode cX2_push 19 = .ok (.iconst 0, 1) := by decide +kernel
theorem dX2_push_20 : decode cX2_push 20 = .ok (.sipush 560, 3) := by decide +kernel
theorem dX2_push_23 : decode cX2_push 23 = .ok (.invokestatic 21, 3) := by decide +kernel
theorem dX2_push_26 : decode cX2_push 26 = .ok (.aload_n 0, 1) := by decide +kernel
theorem dX2_push_27 : decode cX2_push 27 = .ok (.bipush 7, 2) := by decide +kernel
theorem dX2_push_29 : decode cX2_push 29 = .ok (.putfield 17, 3) := by decide +kernel
theorem dX2_push_32 : decode cX2_push 32 = .ok (.aload_n 0, 1) := by decide +kernel
theorem dX2_push_33 : decode cX2_push 33 = .ok (.getfield 17, 3) := by decide +kernel
theorem dX2_push_36 : decode cX2_push 36 = .ok (.ifCond .lt 38, 3) := by decide +kernel
theorem dX2_push_39 : decode cX2_push 39 = .ok (.aload_n 1, 1) := by decide +kernel
theorem dX2_push_40 : decode cX2_push 40 = .ok (.arraylength, 1) := by decide +kernel
theorem dX2_push_41 : decode cX2_push 41 = .ok (.bipush 80, 2) := by decide +kernel
theorem dX2_push_43 : decode cX2_push 43 = .ok (.if_icmp .ne 31, 3) := by decide +kernel
theorem dX2_push_46 : decode cX2_push 46 = .ok (.aload_n 1, 1) := by decide +kernel
theorem dX2_push_47 : decode cX2_push 47 = .ok (.iconst 0, 1) := by decide +kernel
theorem dX2_push_48 : decode cX2_push 48 = .ok (.aload_n 0, 1) := by decide +kernel
theorem dX2_push_49 : decode cX2_push 49 = .ok (.getfield 11, 3) := by decide +kernel
theorem dX2_push_52 : decode cX2_push 52 = .ok (.aload_n 0, 1) := by decide +kernel
theorem dX2_push_53 : decode cX2_push 53 = .ok (.getfield 17, 3) := by decide +kernel
theorem dX2_push_56 : decode cX2_push 56 = .ok (.bipush 80, 2) := by decide +kernel
theorem dX2_push_58 : decode cX2_push 58 = .ok (.imul, 1) := by decide +kernel
theorem dX2_push_59 : decode cX2_push 59 = .ok (.bipush 80, 2) := by decide +kernel
theorem dX2_push_61 : decode cX2_push 61 = .ok (.invokestatic 21, 3) := by decide +kernel
theorem dX2_push_64 : decode cX2_push 64 = .ok (.aload_n 0, 1) := by decide +kernel
theorem dX2_push_65 : decode cX2_push 65 = .ok (.dup, 1) := by decide +kernel
theorem dX2_push_66 : decode cX2_push 66 = .ok (.getfield 17, 3) := by decide +kernel
theorem dX2_push_69 : decode cX2_push 69 = .ok (.iconst 1, 1) := by decide +kernel
theorem dX2_push_70 : decode cX2_push 70 = .ok (.iadd, 1) := by decide +kernel
theorem dX2_push_71 : decode cX2_push 71 = .ok (.putfield 17, 3) := by decide +kernel
theorem dX2_push_74 : decode cX2_push 74 = .ok (.return_, 1) := by decide +kernel
theorem dX2_pop_0 : decode cX2_pop 0 = .ok (.aload_n 0, 1) := by decide +kernel
theorem dX2_pop_1 : decode cX2_pop 1 = .ok (.getfield 17, 3) := by decide +kernel
theorem dX2_pop_4 : decode cX2_pop 4 = .ok (.ifCond .le 47, 3) := by decide +kernel
theorem dX2_pop_7 : decode cX2_pop 7 = .ok (.aload_n 0, 1) := by decide +kernel
theorem dX2_pop_8 : decode cX2_pop 8 = .ok (.getfield 17, 3) := by decide +kernel
theorem dX2_pop_11 : decode cX2_pop 11 = .ok (.bipush 8, 2) := by decide +kernel
theorem dX2_pop_13 : decode cX2_pop 13 = .ok (.if_icmp .gt 38, 3) := by decide +kernel
theorem dX2_pop_16 : decode cX2_pop 16 = .ok (.aload_n 1, 1) := by decide +kernel
theorem dX2_pop_17 : decode cX2_pop 17 = .ok (.arraylength, 1) := by decide +kernel
theorem dX2_pop_18 : decode cX2_pop 18 = .ok (.bipush 80, 2) := by decide +kernel
theorem dX2_pop_20 : decode cX2_pop 20 = .ok (.if_icmp .ne 31, 3) := by decide +kernel
theorem dX2_pop_23 : decode cX2_pop 23 = .ok (.aload_n 0, 1) := by decide +kernel
theorem dX2_pop_24 : decode cX2_pop 24 = .ok (.dup, 1) := by decide +kernel
theorem dX2_pop_25 : decode cX2_pop 25 = .ok (.getfield 17, 3) := by decide +kernel
theorem dX2_pop_28 : decode cX2_pop 28 = .ok (.iconst 1, 1) := by decide +kernel
theorem dX2_pop_29 : decode cX2_pop 29 = .ok (.isub, 1) := by decide +kernel
theorem dX2_pop_30 : decode cX2_pop 30 = .ok (.putfield 17, 3) := by decide +kernel
theorem dX2_pop_33 : decode cX2_pop 33 = .ok (.aload_n 0, 1) := by decide +kernel
theorem dX2_pop_34 : decode cX2_pop 34 = .ok (.getfield 11, 3) := by decide +kernel
theorem dX2_pop_37 : decode cX2_pop 37 = .ok (.aload_n 0, 1) := by decide +kernel
theorem dX2_pop_38 : decode cX2_pop 38 = .ok (.getfield 17, 3) := by decide +kernel
theorem dX2_pop_41 : decode cX2_pop 41 = .ok (.bipush 80, 2) := by decide +kernel
theorem dX2_pop_43 : decode cX2_pop 43 = .ok (.imul, 1) := by decide +kernel
theorem dX2_pop_44 : decode cX2_pop 44 = .ok (.aload_n 1, 1) := by decide +kernel
theorem dX2_pop_45 : decode cX2_pop 45 = .ok (.iconst 0, 1) := by decide +kernel
theorem dX2_pop_46 : decode cX2_pop 46 = .ok (.bipush 80, 2) := by decide +kernel
theorem dX2_pop_48 : decode cX2_pop 48 = .ok (.invokestatic 21, 3) := by decide +kernel
theorem dX2_pop_51 : decode cX2_pop 51 = .ok (.return_, 1) := by decide +kernel
theorem dX3_init_0 : decode cX3_init 0 = .ok (.aload_n 0, 1) := by decide +kernel
theorem dX3_init_1 : decode cX3_init 1 = .ok (.invokespecial 1, 3) := by decide +kernel
theorem dX3_init_4 : decode cX3_init 4 = .ok (.aload_n 0, 1) := by decide +kernel
theorem dX3_init_5 : decode cX3_init 5 = .ok (.bipush 23, 2) := by decide +kernel
theorem dX3_init_7 : decode cX3_init 7 = .ok (.newarray .char, 2) := by decide +kernel
theorem dX3_init_9 : decode cX3_init 9 = .ok (.putfield 9, 3) := by decide +kernel
theorem dX3_init_12 : decode cX3_init 12 = .ok (.aload_n 0, 1) := by decide +kernel
theorem dX3_init_13 : decode cX3_init 13 = .ok (.iconst 0, 1) := by decide +kernel
theorem dX3_init_14 : decode cX3_init 14 = .ok (.putfield 13, 3) := by decide +kernel
theorem dX3_init_17 : decode cX3_init 17 = .ok (.return_, 1) := by decide +kernel
theorem dX3_length_0 : decode cX3_length 0 = .ok (.aload_n 0, 1) := by decide +kernel
theorem dX3_length_1 : decode cX3_length 1 = .ok (.getfield 13, 3) := by decide +kernel
theorem dX3_length_4 : decode cX3_length 4 = .ok (.ireturn, 1) := by decide +kernel
theorem dX3_empty_0 : decode cX3_empty 0 = .ok (.aload_n 0, 1) := by decide +kernel
theorem dX3_empty_1 : decode cX3_empty 1 = .ok (.iconst 0, 1) := by decide +kernel
theorem dX3_empty_2 : decode cX3_empty 2 = .ok (.putfield 13, 3) := by decide +kernel
theorem dX3_empty_5 : decode cX3_empty 5 = .ok (.return_, 1) := by decide +kernel
theorem dX3_add_0 : decode cX3_add 0 = .ok (.aload_n 0, 1) := by decide +kernel
theorem dX3_add_1 : decode cX3_add 1 = .ok (.getfield 13, 3) := by decide +kernel
theorem dX3_add_4 : decode cX3_add 4 = .ok (.ifCond .lt 32, 3) := by decide +kernel
theorem dX3_add_7 : decode cX3_add 7 = .ok (.aload_n 0, 1) := by decide +kernel
theorem dX3_add_8 : decode cX3_add 8 = .ok (.getfield 13, 3) := by decide +kernel
theorem dX3_add_11 : decode cX3_add 11 = .ok (.bipush 23, 2) := by decide +kernel
theorem dX3_add_13 : decode cX3_add 13 = .ok (.if_icmp .ge 23, 3) := by decide +kernel
theorem dX3_add_16 : decode cX3_add 16 = .ok (.aload_n 0, 1) := by decide +kernel
theorem dX3_add_17 : decode cX3_add 17 = .ok (.getfield 9, 3) := by decide +kernel
theorem dX3_add_20 : decode cX3_add 20 = .ok (.aload_n 0, 1) := by decide +kernel
theorem dX3_add_21 : decode cX3_add 21 = .ok (.getfield 13, 3) := by decide +kernel
theorem dX3_add_24 : decode cX3_add 24 = .ok (.iload_n 1, 1) := by decide +kernel
theorem dX3_add_25 : decode cX3_add 25 = .ok (.castore, 1) := by decide +kernel
theorem dX3_add_26 : decode cX3_add 26 = .ok (.aload_n 0, 1) := by decide +kernel
theorem dX3_add_27 : decode cX3_add 27 = .ok (.dup, 1) := by decide +kernel
theorem dX3_add_28 : decode cX3_add 28 = .ok (.getfield 13, 3) := by decide +kernel
theorem dX3_add_31 : decode cX3_add 31 = .ok (.iconst 1, 1) := by decide +kernel
theorem dX3_add_32 : decode cX3_add 32 = .ok (.iadd, 1) := by decide +kernel
theorem dX3_add_33 : decode cX3_add 33 = .ok (.putfield 13, 3) := by decide +kernel
theorem dX3_add_36 : decode cX3_add 36 = .ok (.return_, 1) := by decide +kernel
set_option maxRecDepth 20000 in
theorem ggX3_addDigit_X3_add : GoodIn wsX3_addDigit wsX3_add := goodIn_ca (goodIn_r _ [5, 6, 7, 8, 9] (by decide +kernel) (by decide +kernel)) (goodIn_sub (fun _ h => List.mem_cons_of_mem _ (List.mem_append_right _ h)) (by decide +kernel))
set_option maxRecDepth 20000 in
theorem gX3_addDigit_X3_add : GoodIn wsX3_addDigit (wsV RX3 17 RX3 yX3_add wsX3_add) := goodIn_app (goodIn_of _ (by decide +kernel)) ggX3_addDigit_X3_add
theorem dX3_addDigit_0 : decode cX3_addDigit 0 = .ok (.aload_n 0, 1) := by decide +kernel
theorem dX3_addDigit_1 : decode cX3_addDigit 1 = .ok (.bipush 48, 2) := by decide +kernel
theorem dX3_addDigit_3 : decode cX3_addDigit 3 = .ok (.iload_n 1, 1) := by decide +kernel
theorem dX3_addDigit_4 : decode cX3_addDigit 4 = .ok (.iadd, 1) := by decide +kernel
theorem dX3_addDigit_5 : decode cX3_addDigit 5 = .ok (.i2c, 1) := by decide +kernel
theorem dX3_addDigit_6 : decode cX3_addDigit 6 = .ok (.invokevirtual 17, 3) := by decide +kernel
theorem dX3_addDigit_9 : decode cX3_addDigit 9 = .ok (.return_, 1) := by decide +kernel
theorem dX3_at_0 : decode cX3_at 0 = .ok (.iload_n 1, 1) := by decide +kernel
theorem dX3_at_1 : decode cX3_at 1 = .ok (.ifCond .lt 26, 3) := by decide +kernel
theorem dX3_at_4 : decode cX3_at 4 = .ok (.iload_n 1, 1) := by decide +kernel
theorem dX3_at_5 : decode cX3_at 5 = .ok (.aload_n 0, 1) := by decide +kernel
theorem dX3_at_6 : decode cX3_at 6 = .ok (.getfield 13, 3) := by decide +kernel
theorem dX3_at_9 : decode cX3_at 9 = .ok (.if_icmp .ge 18, 3) := by decide +kernel
theorem dX3_at_12 : decode cX3_at 12 = .ok (.iload_n 1, 1) := by decide +kernel
theorem dX3_at_13 : decode cX3_at 13 = .ok (.bipush 23, 2) := by decide +kernel
theorem dX3_at_15 : decode cX3_at 15 = .ok (.if_icmp .ge 12, 3) := by decide +kernel
theorem dX3_at_18 : decode cX3_at 18 = .ok (.aload_n 0, 1) := by decide +kernel
theorem dX3_at_19 : decode cX3_at 19 = .ok (.getfield 9, 3) := by decide +kernel
theorem dX3_at_22 : decode cX3_at 22 = .ok (.iload_n 1, 1) := by decide +kernel
theorem dX3_at_23 : decode cX3_at 23 = .ok (.caload, 1) := by decide +kernel
theorem dX3_at_24 : decode cX3_at 24 = .ok (.goto 5, 3) := by decide +kernel
theorem dX3_at_27 : decode cX3_at 27 = .ok (.bipush 32, 2) := by decide +kernel
theorem dX3_at_29 : decode cX3_at 29 = .ok (.ireturn, 1) := by decide +kernel
theorem dX4_init_0 : decode cX4_init 0 = .ok (.aload_n 0, 1) := by decide +kernel
theorem dX4_init_1 : decode cX4_init 1 = .ok (.invokespecial 3, 3) := by decide +kernel
theorem dX4_init_4 : decode cX4_init 4 = .ok (.aload_n 0, 1) := by decide +kernel
theorem dX4_init_5 : decode cX4_init 5 = .ok (.bipush 6, 2) := by decide +kernel
theorem dX4_init_7 : decode cX4_init 7 = .ok (.newarray .int, 2) := by decide +kernel
theorem dX4_init_9 : decode cX4_init 9 = .ok (.putfield 9, 3) := by decide +kernel
theorem dX4_init_12 : decode cX4_init 12 = .ok (.aload_n 0, 1) := by decide +kernel
theorem dX4_init_13 : decode cX4_init 13 = .ok (.bipush 6, 2) := by decide +kernel
theorem dX4_init_15 : decode cX4_init 15 = .ok (.newarray .int, 2) := by decide +kernel
theorem dX4_init_17 : decode cX4_init 17 = .ok (.putfield 15, 3) := by decide +kernel
theorem dX4_init_20 : decode cX4_init 20 = .ok (.aload_n 0, 1) := by decide +kernel
theorem dX4_init_21 : decode cX4_init 21 = .ok (.bipush 6, 2) := by decide +kernel
theorem dX4_init_23 : decode cX4_init 23 = .ok (.newarray .int, 2) := by decide +kernel
theorem dX4_init_25 : decode cX4_init 25 = .ok (.putfield 18, 3) := by decide +kernel
theorem dX4_init_28 : decode cX4_init 28 = .ok (.aload_n 0, 1) := by decide +kernel
theorem dX4_init_29 : decode cX4_init 29 = .ok (.bipush 6, 2) := by decide +kernel
theorem dX4_init_31 : decode cX4_init 31 = .ok (.newarray .int, 2) := by decide +kernel
theorem dX4_init_33 : decode cX4_init 33 = .ok (.putfield 21, 3) := by decide +kernel
theorem dX4_init_36 : decode cX4_init 36 = .ok (.aload_n 0, 1) := by decide +kernel
theorem dX4_init_37 : decode cX4_init 37 = .ok (.iconst 4, 1) := by decide +kernel
theorem dX4_init_38 : decode cX4_init 38 = .ok (.newarray .int, 2) := by decide +kernel
theorem dX4_init_40 : decode cX4_init 40 = .ok (.putfield 24, 3) := by decide +kernel
theorem dX4_init_43 : decode cX4_init 43 = .ok (.aload_n 0, 1) := by decide +kernel
theorem dX4_init_44 : decode cX4_init 44 = .ok (.iconst 4, 1) := by decide +kernel
theorem dX4_init_45 : decode cX4_init 45 = .ok (.newarray .int, 2) := by decide +kernel
theorem dX4_init_47 : decode cX4_init 47 = .ok (.putfield 27, 3) := by decide +kernel
theorem dX4_init_50 : decode cX4_init 50 = .ok (.aload_n 0, 1) := by decide +kernel
theorem dX4_init_51 : decode cX4_init 51 = .ok (.iconst 0, 1) := by decide +kernel
theorem dX4_init_52 : decode cX4_init 52 = .ok (.putfield 30, 3) := by decide +kernel
theorem dX4_init_55 : decode cX4_init 55 = .ok (.return_, 1) := by decide +kernel
set_option maxRecDepth 20000 in
theorem ggX4_hear_X6_laidOn : GoodIn wsX4_hear wsX6_laidOn := goodIn_ca (goodIn_r _ [10, 11, 12, 13, 9, 14, 15, 46] (by decide +kernel) (by decide +kernel)) (goodIn_sub (fun _ h => List.mem_cons_of_mem _ (List.mem_append_right _ h)) (by decide +kernel))
set_option maxRecDepth 20000 in
theorem gX4_hear_X6_laidOn : GoodIn wsX4_hear (wsV RX4 34 RX6 yX6_laidOn wsX6_laidOn) := goodIn_app (goodIn_of _ (by decide +kernel)) ggX4_hear_X6_laidOn
set_option maxRecDepth 20000 in
theorem ggX4_hear_X6_seatedAt : GoodIn wsX4_hear wsX6_seatedAt := goodIn_ca (goodIn_r _ [19, 15, 20, 21, 9, 22, 46] (by decide +kernel) (by decide +kernel)) (goodIn_sub (fun _ h => List.mem_cons_of_mem _ (List.mem_append_right _ h)) (by decide +kernel))
set_option maxRecDepth 20000 in
theorem gX4_hear_X6_seatedAt : GoodIn wsX4_hear (wsV RX4 40 RX6 yX6_seatedAt wsX6_seatedAt) := goodIn_app (goodIn_of _ (by decide +kernel)) ggX4_hear_X6_seatedAt
set_option maxRecDepth 20000 in
theorem ggX4_hear_X6_foldOf : GoodIn wsX4_hear wsX6_foldOf := goodIn_ca (goodIn_r _ [26, 27, 28, 29, 9, 30, 15, 46] (by decide +kernel) (by decide +kernel)) (goodIn_sub (fun _ h => List.mem_cons_of_mem _ (List.mem_append_right _ h)) (by decide +kernel))
set_option maxRecDepth 20000 in
theorem gX4_hear_X6_foldOf : GoodIn wsX4_hear (wsV RX4 44 RX6 yX6_foldOf wsX6_foldOf) := goodIn_app (goodIn_of _ (by decide +kernel)) ggX4_hear_X6_foldOf
set_option maxRecDepth 20000 in
theorem ggX4_hear_X6_colourOf : GoodIn wsX4_hear wsX6_colourOf := goodIn_ca (goodIn_r _ [34, 27, 28, 29, 9, 30, 15, 46] (by decide +kernel) (by decide +kernel)) (goodIn_sub (fun _ h => List.mem_cons_of_mem _ (List.mem_append_right _ h)) (by decide +kernel))
set_option maxRecDepth 20000 in
theorem gX4_hear_X6_colourOf : GoodIn wsX4_hear (wsV RX4 47 RX6 yX6_colourOf wsX6_colourOf) := goodIn_app (goodIn_of _ (by decide +kernel)) ggX4_hear_X6_colourOf
set_option maxRecDepth 20000 in
theorem ggX4_hear_X6_stainsOf : GoodIn wsX4_hear wsX6_stainsOf := goodIn_ca (goodIn_r _ [38, 27, 28, 29, 9, 30, 15, 46] (by decide +kernel) (by decide +kernel)) (goodIn_sub (fun _ h => List.mem_cons_of_mem _ (List.mem_append_right _ h)) (by decide +kernel))
set_option maxRecDepth 20000 in
theorem gX4_hear_X6_stainsOf : GoodIn wsX4_hear (wsV RX4 50 RX6 yX6_stainsOf wsX6_stainsOf) := goodIn_app (goodIn_of _ (by decide +kernel)) ggX4_hear_X6_stainsOf
theorem dX4_hear_0 : decode cX4_hear 0 = .ok (.aload_n 0, 1) := by decide +kernel
theorem dX4_hear_1 : decode cX4_hear 1 = .ok (.iconst 0, 1) := by decide +kernel
theorem dX4_hear_2 : decode cX4_hear 2 = .ok (.putfield 30, 3) := by decide +kernel
theorem dX4_hear_5 : decode cX4_hear 5 = .ok (.iconst 0, 1) := by decide +kernel
theorem dX4_hear_6 : decode cX4_hear 6 = .ok (.istore_n 3, 1) := by decide +kernel
theorem dX4_hear_7 : decode cX4_hear 7 = .ok (.iload_n 3, 1) := by decide +kernel
theorem dX4_hear_8 : decode cX4_hear 8 = .ok (.aload_n 1, 1) := by decide +kernel
theorem dX4_hear_9 : decode cX4_hear 9 = .ok (.iload_n 2, 1) := by decide +kernel
theorem dX4_hear_10 : decode cX4_hear 10 = .ok (.invokevirtual 34, 3) := by decide +kernel
theorem dX4_hear_13 : decode cX4_hear 13 = .ok (.if_icmp .ge 101, 3) := by decide +kernel
theorem dX4_hear_16 : decode cX4_hear 16 = .ok (.aload_n 1, 1) := by decide +kernel
theorem dX4_hear_17 : decode cX4_hear 17 = .ok (.iload_n 2, 1) := by decide +kernel
theorem dX4_hear_18 : decode cX4_hear 18 = .ok (.iload_n 3, 1) := by decide +kernel
theorem dX4_hear_19 : decode cX4_hear 19 = .ok (.invokevirtual 40, 3) := by decide +kernel
theorem dX4_hear_22 : decode cX4_hear 22 = .ok (.istore 4, 2) := by decide +kernel
theorem dX4_hear_24 : decode cX4_hear 24 = .ok (.aload_n 1, 1) := by decide +kernel
theorem dX4_hear_25 : decode cX4_hear 25 = .ok (.iload 4, 2) := by decide +kernel
theorem dX4_hear_27 : decode cX4_hear 27 = .ok (.invokevirtual 44, 3) := by decide +kernel
theorem dX4_hear_30 : decode cX4_hear 30 = .ok (.ifCond .eq 78, 3) := by decide +kernel
theorem dX4_hear_33 : decode cX4_hear 33 = .ok (.aload_n 0, 1) := by decide +kernel
theorem dX4_hear_34 : decode cX4_hear 34 = .ok (.getfield 30, 3) := by decide +kernel
theorem dX4_hear_37 : decode cX4_hear 37 = .ok (.bipush 6, 2) := by decide +kernel
theorem dX4_hear_39 : decode cX4_hear 39 = .ok (.if_icmp .ge 69, 3) := by decide +kernel
theorem dX4_hear_42 : decode cX4_hear 42 = .ok (.aload_n 0, 1) := by decide +kernel
theorem dX4_hear_43 : decode cX4_hear 43 = .ok (.getfield 9, 3) := by decide +kernel
theorem dX4_hear_46 : decode cX4_hear 46 = .ok (.aload_n 0, 1) := by decide +kernel
theorem dX4_hear_47 : decode cX4_hear 47 = .ok (.getfield 30, 3) := by decide +kernel
theorem dX4_hear_50 : decode cX4_hear 50 = .ok (.iload 4, 2) := by decide +kernel
theorem dX4_hear_52 : decode cX4_hear 52 = .ok (.iastore, 1) := by decide +kernel
theorem dX4_hear_53 : decode cX4_hear 53 = .ok (.aload_n 0, 1) := by decide +kernel
theorem dX4_hear_54 : decode cX4_hear 54 = .ok (.getfield 15, 3) := by decide +kernel
theorem dX4_hear_57 : decode cX4_hear 57 = .ok (.aload_n 0, 1) := by decide +kernel
theorem dX4_hear_58 : decode cX4_hear 58 = .ok (.getfield 30, 3) := by decide +kernel
theorem dX4_hear_61 : decode cX4_hear 61 = .ok (.aload_n 1, 1) := by decide +kernel
theorem dX4_hear_62 : decode cX4_hear 62 = .ok (.iload 4, 2) := by decide +kernel
theorem dX4_hear_64 : decode cX4_hear 64 = .ok (.invokevirtual 44, 3) := by decide +kernel
theorem dX4_hear_67 : decode cX4_hear 67 = .ok (.iastore, 1) := by decide +kernel
theorem dX4_hear_68 : decode cX4_hear 68 = .ok (.aload_n 0, 1) := by decide +kernel
theorem dX4_hear_69 : decode cX4_hear 69 = .ok (.getfield 18, 3) := by decide +kernel
theorem dX4_hear_72 : decode cX4_hear 72 = .ok (.aload_n 0, 1) := by decide +kernel
theorem dX4_hear_73 : decode cX4_hear 73 = .ok (.getfield 30, 3) := by decide +kernel
theorem dX4_hear_76 : decode cX4_hear 76 = .ok (.aload_n 1, 1) := by decide +kernel
theorem dX4_hear_77 : decode cX4_hear 77 = .ok (.iload 4, 2) := by decide +kernel
theorem dX4_hear_79 : decode cX4_hear 79 = .ok (.invokevirtual 47, 3) := by decide +kernel
theorem dX4_hear_82 : decode cX4_hear 82 = .ok (.iastore, 1) := by decide +kernel
theorem dX4_hear_83 : decode cX4_hear 83 = .ok (.aload_n 0, 1) := by decide +kernel
theorem dX4_hear_84 : decode cX4_hear 84 = .ok (.getfield 21, 3) := by decide +kernel
theorem dX4_hear_87 : decode cX4_hear 87 = .ok (.aload_n 0, 1) := by decide +kernel
theorem dX4_hear_88 : decode cX4_hear 88 = .ok (.getfield 30, 3) := by decide +kernel
theorem dX4_hear_91 : decode cX4_hear 91 = .ok (.aload_n 1, 1) := by decide +kernel
theorem dX4_hear_92 : decode cX4_hear 92 = .ok (.iload 4, 2) := by decide +kernel
theorem dX4_hear_94 : decode cX4_hear 94 = .ok (.invokevirtual 50, 3) := by decide +kernel
theorem dX4_hear_97 : decode cX4_hear 97 = .ok (.iastore, 1) := by decide +kernel
theorem dX4_hear_98 : decode cX4_hear 98 = .ok (.aload_n 0, 1) := by decide +kernel
theorem dX4_hear_99 : decode cX4_hear 99 = .ok (.dup, 1) := by decide +kernel
theorem dX4_hear_100 : decode cX4_hear 100 = .ok (.getfield 30, 3) := by decide +kernel
theorem dX4_hear_103 : decode cX4_hear 103 = .ok (.iconst 1, 1) := by decide +kernel
theorem dX4_hear_104 : decode cX4_hear 104 = .ok (.iadd, 1) := by decide +kernel
theorem dX4_hear_105 : decode cX4_hear 105 = .ok (.putfield 30, 3) := by decide +kernel
theorem dX4_hear_108 : decode cX4_hear 108 = .ok (.iinc 3 1, 3) := by decide +kernel
theorem dX4_hear_111 : decode cX4_hear 111 = .ok (.goto (-104), 3) := by decide +kernel
theorem dX4_hear_114 : decode cX4_hear 114 = .ok (.return_, 1) := by decide +kernel
theorem dX4_size_0 : decode cX4_size 0 = .ok (.aload_n 0, 1) := by decide +kernel
theorem dX4_size_1 : decode cX4_size 1 = .ok (.getfield 30, 3) := by decide +kernel
theorem dX4_size_4 : decode cX4_size 4 = .ok (.ireturn, 1) := by decide +kernel
set_option maxRecDepth 20000 in
theorem ggX4_napkinAt_X4_isNumber : GoodIn wsX4_napkinAt wsX4_isNumber := goodIn_r _ [6, 7, 8, 9, 10, 11, 12, 13, 14] (by decide +kernel) (by decide +kernel)
set_option maxRecDepth 20000 in
theorem gX4_napkinAt_X4_isNumber : GoodIn wsX4_napkinAt (wsV RX4 53 RX4 yX4_isNumber wsX4_isNumber) := goodIn_app (goodIn_of _ (by decide +kernel)) ggX4_napkinAt_X4_isNumber
theorem dX4_napkinAt_0 : decode cX4_napkinAt 0 = .ok (.aload_n 0, 1) := by decide +kernel
theorem dX4_napkinAt_1 : decode cX4_napkinAt 1 = .ok (.iload_n 1, 1) := by decide +kernel
theorem dX4_napkinAt_2 : decode cX4_napkinAt 2 = .ok (.invokevirtual 53, 3) := by decide +kernel
theorem dX4_napkinAt_5 : decode cX4_napkinAt 5 = .ok (.ifCond .eq 12, 3) := by decide +kernel
theorem dX4_napkinAt_8 : decode cX4_napkinAt 8 = .ok (.aload_n 0, 1) := by decide +kernel
theorem dX4_napkinAt_9 : decode cX4_napkinAt 9 = .ok (.getfield 9, 3) := by decide +kernel
theorem dX4_napkinAt_12 : decode cX4_napkinAt 12 = .ok (.iload_n 1, 1) := by decide +kernel
theorem dX4_napkinAt_13 : decode cX4_napkinAt 13 = .ok (.iaload, 1) := by decide +kernel
theorem dX4_napkinAt_14 : decode cX4_napkinAt 14 = .ok (.goto 4, 3) := by decide +kernel
theorem dX4_napkinAt_17 : decode cX4_napkinAt 17 = .ok (.iconst (-1), 1) := by decide +kernel
theorem dX4_napkinAt_18 : decode cX4_napkinAt 18 = .ok (.ireturn, 1) := by decide +kernel
set_option maxRecDepth 20000 in
theorem ggX4_isBoatAt_X4_foldAt : GoodIn wsX4_isBoatAt wsX4_foldAt := goodIn_ca (goodIn_r _ [5, 6, 7, 8, 9, 10, 11, 12, 13, 14] (by decide +kernel) (by decide +kernel)) (goodIn_sub (fun _ h => List.mem_cons_of_mem _ (List.mem_append_right _ h)) (by decide +kernel))
set_option maxRecDepth 20000 in
theorem gX4_isBoatAt_X4_foldAt : GoodIn wsX4_isBoatAt (wsV RX4 57 RX4 yX4_foldAt wsX4_foldAt) := goodIn_app (goodIn_of _ (by decide +kernel)) ggX4_isBoatAt_X4_foldAt
theorem dX4_isBoatAt_0 : decode cX4_isBoatAt 0 = .ok (.aload_n 0, 1) := by decide +kernel
theorem dX4_isBoatAt_1 : decode cX4_isBoatAt 1 = .ok (.iload_n 1, 1) := by decide +kernel
theorem dX4_isBoatAt_2 : decode cX4_isBoatAt 2 = .ok (.invokevirtual 57, 3) := by decide +kernel
theorem dX4_isBoatAt_5 : decode cX4_isBoatAt 5 = .ok (.iconst 3, 1) := by decide +kernel
theorem dX4_isBoatAt_6 : decode cX4_isBoatAt 6 = .ok (.if_icmp .ne 7, 3) := by decide +kernel
theorem dX4_isBoatAt_9 : decode cX4_isBoatAt 9 = .ok (.iconst 1, 1) := by decide +kernel
theorem dX4_isBoatAt_10 : decode cX4_isBoatAt 10 = .ok (.goto 4, 3) := by decide +kernel
theorem dX4_isBoatAt_13 : decode cX4_isBoatAt 13 = .ok (.iconst 0, 1) := by decide +kernel
theorem dX4_isBoatAt_14 : decode cX4_isBoatAt 14 = .ok (.ireturn, 1) := by decide +kernel
set_option maxRecDepth 20000 in
theorem ggX4_countOf_X4_foldAt : GoodIn wsX4_countOf wsX4_foldAt := goodIn_ca (goodIn_r _ [6, 1, 7, 8, 9, 10, 11, 12, 13, 14] (by decide +kernel) (by decide +kernel)) (goodIn_sub (fun _ h => List.mem_cons_of_mem _ (List.mem_append_right _ h)) (by decide +kernel))
set_option maxRecDepth 20000 in
theorem gX4_countOf_X4_foldAt : GoodIn wsX4_countOf (wsV RX4 57 RX4 yX4_foldAt wsX4_foldAt) := goodIn_app (goodIn_of _ (by decide +kernel)) ggX4_countOf_X4_foldAt
theorem dX4_countOf_0 : decode cX4_countOf 0 = .ok (.iconst 0, 1) := by decide +kernel
theorem dX4_countOf_1 : decode cX4_countOf 1 = .ok (.istore_n 2, 1) := by decide +kernel
theorem dX4_countOf_2 : decode cX4_countOf 2 = .ok (.iconst 0, 1) := by decide +kernel
theorem dX4_countOf_3 : decode cX4_countOf 3 = .ok (.istore_n 3, 1) := by decide +kernel
theorem dX4_countOf_4 : decode cX4_countOf 4 = .ok (.iload_n 3, 1) := by decide +kernel
theorem dX4_countOf_5 : decode cX4_countOf 5 = .ok (.aload_n 0, 1) := by decide +kernel
theorem dX4_countOf_6 : decode cX4_countOf 6 = .ok (.getfield 30, 3) := by decide +kernel
theorem dX4_countOf_9 : decode cX4_countOf 9 = .ok (.if_icmp .ge 21, 3) := by decide +kernel
theorem dX4_countOf_12 : decode cX4_countOf 12 = .ok (.aload_n 0, 1) := by decide +kernel
theorem dX4_countOf_13 : decode cX4_countOf 13 = .ok (.iload_n 3, 1) := by decide +kernel
theorem dX4_countOf_14 : decode cX4_countOf 14 = .ok (.invokevirtual 57, 3) := by decide +kernel
theorem dX4_countOf_17 : decode cX4_countOf 17 = .ok (.iload_n 1, 1) := by decide +kernel
theorem dX4_countOf_18 : decode cX4_countOf 18 = .ok (.if_icmp .ne 6, 3) := by decide +kernel
theorem dX4_countOf_21 : decode cX4_countOf 21 = .ok (.iinc 2 1, 3) := by decide +kernel
theorem dX4_countOf_24 : decode cX4_countOf 24 = .ok (.iinc 3 1, 3) := by decide +kernel
theorem dX4_countOf_27 : decode cX4_countOf 27 = .ok (.goto (-23), 3) := by decide +kernel
theorem dX4_countOf_30 : decode cX4_countOf 30 = .ok (.iload_n 2, 1) := by decide +kernel
theorem dX4_countOf_31 : decode cX4_countOf 31 = .ok (.ireturn, 1) := by decide +kernel
set_option maxRecDepth 20000 in
theorem ggX4_errorByNapkins_X4_foldAt : GoodIn wsX4_errorByNapkins wsX4_foldAt := goodIn_ca (goodIn_r _ [6, 1, 7, 14, 15, 16, 17, 18, 19, 20] (by decide +kernel) (by decide +kernel)) (goodIn_sub (fun _ h => List.mem_cons_of_mem _ (List.mem_append_right _ h)) (by decide +kernel))
set_option maxRecDepth 20000 in
theorem gX4_errorByNapkins_X4_foldAt : GoodIn wsX4_errorByNapkins (wsV RX4 57 RX4 yX4_foldAt wsX4_foldAt) := goodIn_app (goodIn_of _ (by decide +kernel)) ggX4_errorByNapkins_X4_foldAt
set_option maxRecDepth 20000 in
theorem ggX4_errorByNapkins_X4_pointAfter : GoodIn wsX4_errorByNapkins wsX4_pointAfter := goodIn_r _ [10] (by decide +kernel) (by decide +kernel)
set_option maxRecDepth 20000 in
theorem gX4_errorByNapkins_X4_pointAfter : GoodIn wsX4_errorByNapkins (va_wsS RX4 60 yX4_pointAfter wsX4_pointAfter) := goodIn_app (goodIn_of _ (by decide +kernel)) ggX4_errorByNapkins_X4_pointAfter
set_option maxRecDepth 20000 in
theorem ggX4_errorByNapkins_X4_isEnd : GoodIn wsX4_errorByNapkins wsX4_isEnd := goodIn_r _ [13] (by decide +kernel) (by decide +kernel)
set_option maxRecDepth 20000 in
theorem gX4_errorByNapkins_X4_isEnd : GoodIn wsX4_errorByNapkins (va_wsS RX4 63 yX4_isEnd wsX4_isEnd) := goodIn_app (goodIn_of _ (by decide +kernel)) ggX4_errorByNapkins_X4_isEnd
theorem dX4_errorByNapkins_0 : decode cX4_errorByNapkins 0 = .ok (.iconst 0, 1) := by decide +kernel
theorem dX4_errorByNapkins_1 : decode cX4_errorByNapkins 1 = .ok (.istore_n 1, 1) := by decide +kernel
theorem dX4_errorByNapkins_2 : decode cX4_errorByNapkins 2 = .ok (.iconst 0, 1) := by decide +kernel
theorem dX4_errorByNapkins_3 : decode cX4_errorByNapkins 3 = .ok (.istore_n 2, 1) := by decide +kernel
theorem dX4_errorByNapkins_4 : decode cX4_errorByNapkins 4 = .ok (.iload_n 2, 1) := by decide +kernel
theorem dX4_errorByNapkins_5 : decode cX4_errorByNapkins 5 = .ok (.aload_n 0, 1) := by decide +kernel
theorem dX4_errorByNapkins_6 : decode cX4_errorByNapkins 6 = .ok (.getfield 30, 3) := by decide +kernel
theorem dX4_errorByNapkins_9 : decode cX4_errorByNapkins 9 = .ok (.if_icmp .ge 26, 3) := by decide +kernel
theorem dX4_errorByNapkins_12 : decode cX4_errorByNapkins 12 = .ok (.iload_n 1, 1) := by decide +kernel
theorem dX4_errorByNapkins_13 : decode cX4_errorByNapkins 13 = .ok (.aload_n 0, 1) := by decide +kernel
theorem dX4_errorByNapkins_14 : decode cX4_errorByNapkins 14 = .ok (.iload_n 2, 1) := by decide +kernel
theorem dX4_errorByNapkins_15 : decode cX4_errorByNapkins 15 = .ok (.invokevirtual 57, 3) := by decide +kernel
theorem dX4_errorByNapkins_18 : decode cX4_errorByNapkins 18 = .ok (.invokestatic 60, 3) := by decide +kernel
theorem dX4_errorByNapkins_21 : decode cX4_errorByNapkins 21 = .ok (.istore_n 1, 1) := by decide +kernel
theorem dX4_errorByNapkins_22 : decode cX4_errorByNapkins 22 = .ok (.iload_n 1, 1) := by decide +kernel
theorem dX4_errorByNapkins_23 : decode cX4_errorByNapkins 23 = .ok (.iconst (-1), 1) := by decide +kernel
theorem dX4_errorByNapkins_24 : decode cX4_errorByNapkins 24 = .ok (.if_icmp .ne 5, 3) := by decide +kernel
theorem dX4_errorByNapkins_27 : decode cX4_errorByNapkins 27 = .ok (.iload_n 2, 1) := by decide +kernel
theorem dX4_errorByNapkins_28 : decode cX4_errorByNapkins 28 = .ok (.ireturn, 1) := by decide +kernel
theorem dX4_errorByNapkins_29 : decode cX4_errorByNapkins 29 = .ok (.iinc 2 1, 3) := by decide +kernel
theorem dX4_errorByNapkins_32 : decode cX4_errorByNapkins 32 = .ok (.goto (-28), 3) := by decide +kernel
theorem dX4_errorByNapkins_35 : decode cX4_errorByNapkins 35 = .ok (.iload_n 1, 1) := by decide +kernel
theorem dX4_errorByNapkins_36 : decode cX4_errorByNapkins 36 = .ok (.invokestatic 63, 3) := by decide +kernel
theorem dX4_errorByNapkins_39 : decode cX4_errorByNapkins 39 = .ok (.ifCond .eq 7, 3) := by decide +kernel
theorem dX4_errorByNapkins_42 : decode cX4_errorByNapkins 42 = .ok (.iconst (-1), 1) := by decide +kernel
theorem dX4_errorByNapkins_43 : decode cX4_errorByNapkins 43 = .ok (.goto 7, 3) := by decide +kernel
theorem dX4_errorByNapkins_46 : decode cX4_errorByNapkins 46 = .ok (.aload_n 0, 1) := by decide +kernel
theorem dX4_errorByNapkins_47 : decode cX4_errorByNapkins 47 = .ok (.getfield 30, 3) := by decide +kernel
theorem dX4_errorByNapkins_50 : decode cX4_errorByNapkins 50 = .ok (.ireturn, 1) := by decide +kernel
set_option maxRecDepth 20000 in
theorem ggX4_errorByPhrases_X4_crownFrom : GoodIn wsX4_errorByPhrases wsX4_crownFrom := goodIn_ca (goodIn_r _ [6, 1, 7, 8, 9, 5, 10, 11, 20, 21, 22, 23, 24, 25, 26] (by decide +kernel) (by decide +kernel)) (goodIn_sub (fun _ h => List.mem_cons_of_mem _ (List.mem_append_right _ h)) (by decide +kernel))
set_option maxRecDepth 20000 in
theorem gX4_errorByPhrases_X4_crownFrom : GoodIn wsX4_errorByPhrases (wsV RX4 66 RX4 yX4_crownFrom wsX4_crownFrom) := goodIn_app (goodIn_of _ (by decide +kernel)) ggX4_errorByPhrases_X4_crownFrom
set_option maxRecDepth 20000 in
theorem ggX4_errorByPhrases_X4_errorInPhrase : GoodIn wsX4_errorByPhrases wsX4_errorInPhrase := goodIn_ca (goodIn_r _ [15, 16, 17, 18, 5, 19, 1, 7, 8, 9, 10, 11, 20, 21, 22, 23, 24, 25, 26] (by decide +kernel) (by decide +kernel)) (goodIn_sub (fun _ h => List.mem_cons_of_mem _ (List.mem_append_right _ h)) (by decide +kernel))
set_option maxRecDepth 20000 in
theorem gX4_errorByPhrases_X4_errorInPhrase : GoodIn wsX4_errorByPhrases (wsV RX4 69 RX4 yX4_errorInPhrase wsX4_errorInPhrase) := goodIn_app (goodIn_of _ (by decide +kernel)) ggX4_errorByPhrases_X4_errorInPhrase
theorem dX4_errorByPhrases_0 : decode cX4_errorByPhrases 0 = .ok (.iconst 0, 1) := by decide +kernel
theorem dX4_errorByPhrases_1 : decode cX4_errorByPhrases 1 = .ok (.istore_n 1, 1) := by decide +kernel
theorem dX4_errorByPhrases_2 : decode cX4_errorByPhrases 2 = .ok (.iconst 0, 1) := by decide +kernel
theorem dX4_errorByPhrases_3 : decode cX4_errorByPhrases 3 = .ok (.istore_n 2, 1) := by decide +kernel
theorem dX4_errorByPhrases_4 : decode cX4_errorByPhrases 4 = .ok (.iload_n 2, 1) := by decide +kernel
theorem dX4_errorByPhrases_5 : decode cX4_errorByPhrases 5 = .ok (.aload_n 0, 1) := by decide +kernel
theorem dX4_errorByPhrases_6 : decode cX4_errorByPhrases 6 = .ok (.getfield 30, 3) := by decide +kernel
theorem dX4_errorByPhrases_9 : decode cX4_errorByPhrases 9 = .ok (.if_icmp .gt 44, 3) := by decide +kernel
theorem dX4_errorByPhrases_12 : decode cX4_errorByPhrases 12 = .ok (.aload_n 0, 1) := by decide +kernel
theorem dX4_errorByPhrases_13 : decode cX4_errorByPhrases 13 = .ok (.iload_n 1, 1) := by decide +kernel
theorem dX4_errorByPhrases_14 : decode cX4_errorByPhrases 14 = .ok (.invokevirtual 66, 3) := by decide +kernel
theorem dX4_errorByPhrases_17 : decode cX4_errorByPhrases 17 = .ok (.istore_n 3, 1) := by decide +kernel
theorem dX4_errorByPhrases_18 : decode cX4_errorByPhrases 18 = .ok (.aload_n 0, 1) := by decide +kernel
theorem dX4_errorByPhrases_19 : decode cX4_errorByPhrases 19 = .ok (.iload_n 1, 1) := by decide +kernel
theorem dX4_errorByPhrases_20 : decode cX4_errorByPhrases 20 = .ok (.iload_n 3, 1) := by decide +kernel
theorem dX4_errorByPhrases_21 : decode cX4_errorByPhrases 21 = .ok (.invokevirtual 69, 3) := by decide +kernel
theorem dX4_errorByPhrases_24 : decode cX4_errorByPhrases 24 = .ok (.istore 4, 2) := by decide +kernel
theorem dX4_errorByPhrases_26 : decode cX4_errorByPhrases 26 = .ok (.iload 4, 2) := by decide +kernel
theorem dX4_errorByPhrases_28 : decode cX4_errorByPhrases 28 = .ok (.iconst (-1), 1) := by decide +kernel
theorem dX4_errorByPhrases_29 : decode cX4_errorByPhrases 29 = .ok (.if_icmp .ne 11, 3) := by decide +kernel
theorem dX4_errorByPhrases_32 : decode cX4_errorByPhrases 32 = .ok (.iload_n 3, 1) := by decide +kernel
theorem dX4_errorByPhrases_33 : decode cX4_errorByPhrases 33 = .ok (.aload_n 0, 1) := by decide +kernel
theorem dX4_errorByPhrases_34 : decode cX4_errorByPhrases 34 = .ok (.getfield 30, 3) := by decide +kernel
theorem dX4_errorByPhrases_37 : decode cX4_errorByPhrases 37 = .ok (.if_icmp .ne 6, 3) := by decide +kernel
theorem dX4_errorByPhrases_40 : decode cX4_errorByPhrases 40 = .ok (.iload 4, 2) := by decide +kernel
theorem dX4_errorByPhrases_42 : decode cX4_errorByPhrases 42 = .ok (.ireturn, 1) := by decide +kernel
theorem dX4_errorByPhrases_43 : decode cX4_errorByPhrases 43 = .ok (.iload_n 3, 1) := by decide +kernel
theorem dX4_errorByPhrases_44 : decode cX4_errorByPhrases 44 = .ok (.iconst 1, 1) := by decide +kernel
theorem dX4_errorByPhrases_45 : decode cX4_errorByPhrases 45 = .ok (.iadd, 1) := by decide +kernel
theorem dX4_errorByPhrases_46 : decode cX4_errorByPhrases 46 = .ok (.istore_n 1, 1) := by decide +kernel
theorem dX4_errorByPhrases_47 : decode cX4_errorByPhrases 47 = .ok (.iinc 2 1, 3) := by decide +kernel
theorem dX4_errorByPhrases_50 : decode cX4_errorByPhrases 50 = .ok (.goto (-46), 3) := by decide +kernel
theorem dX4_errorByPhrases_53 : decode cX4_errorByPhrases 53 = .ok (.iconst (-1), 1) := by decide +kernel
theorem dX4_errorByPhrases_54 : decode cX4_errorByPhrases 54 = .ok (.ireturn, 1) := by decide +kernel
set_option maxRecDepth 20000 in
theorem ggX4_isWhole_X4_errorByNapkins : GoodIn wsX4_isWhole wsX4_errorByNapkins := goodIn_ca (goodIn_r _ [5, 6, 7, 8, 9, 4, 10, 11, 12, 13, 14, 15, 16, 17, 18, 19, 20, 21, 22, 23, 24] (by decide +kernel) (by decide +kernel)) (goodIn_sub (fun _ h => List.mem_cons_of_mem _ (List.mem_append_right _ h)) (by decide +kernel))
set_option maxRecDepth 20000 in
theorem gX4_isWhole_X4_errorByNapkins : GoodIn wsX4_isWhole (wsV RX4 72 RX4 yX4_errorByNapkins wsX4_errorByNapkins) := goodIn_app (goodIn_of _ (by decide +kernel)) ggX4_isWhole_X4_errorByNapkins
theorem dX4_isWhole_0 : decode cX4_isWhole 0 = .ok (.aload_n 0, 1) := by decide +kernel
theorem dX4_isWhole_1 : decode cX4_isWhole 1 = .ok (.invokevirtual 72, 3) := by decide +kernel
theorem dX4_isWhole_4 : decode cX4_isWhole 4 = .ok (.iconst (-1), 1) := by decide +kernel
theorem dX4_isWhole_5 : decode cX4_isWhole 5 = .ok (.if_icmp .ne 7, 3) := by decide +kernel
theorem dX4_isWhole_8 : decode cX4_isWhole 8 = .ok (.iconst 1, 1) := by decide +kernel
theorem dX4_isWhole_9 : decode cX4_isWhole 9 = .ok (.goto 4, 3) := by decide +kernel
theorem dX4_isWhole_12 : decode cX4_isWhole 12 = .ok (.iconst 0, 1) := by decide +kernel
theorem dX4_isWhole_13 : decode cX4_isWhole 13 = .ok (.ireturn, 1) := by decide +kernel
set_option maxRecDepth 20000 in
theorem ggX4_isToldAlike_X4_errorByNapkins : GoodIn wsX4_isToldAlike wsX4_errorByNapkins := goodIn_ca (goodIn_r _ [5, 6, 7, 8, 9, 4, 10, 11, 12, 13, 14, 15, 16, 17, 88, 89, 90, 91, 92, 93, 94] (by decide +kernel) (by decide +kernel)) (goodIn_sub (fun _ h => List.mem_cons_of_mem _ (List.mem_append_right _ h)) (by decide +kernel))
set_option maxRecDepth 20000 in
theorem gX4_isToldAlike_X4_errorByNapkins : GoodIn wsX4_isToldAlike (wsV RX4 72 RX4 yX4_errorByNapkins wsX4_errorByNapkins) := goodIn_app (goodIn_of _ (by decide +kernel)) ggX4_isToldAlike_X4_errorByNapkins
set_option maxRecDepth 20000 in
theorem ggX4_isToldAlike_X4_errorByPhrases : GoodIn wsX4_isToldAlike wsX4_errorByPhrases := goodIn_ca (goodIn_r _ [21, 6, 22, 23, 24, 4, 25, 7, 8, 9, 10, 11, 26, 27, 28, 29, 30, 31, 32, 33, 88, 89, 90, 91, 92, 93, 94] (by decide +kernel) (by decide +kernel)) (goodIn_sub (fun _ h => List.mem_cons_of_mem _ (List.mem_append_right _ h)) (by decide +kernel))
set_option maxRecDepth 20000 in
theorem gX4_isToldAlike_X4_errorByPhrases : GoodIn wsX4_isToldAlike (wsV RX4 76 RX4 yX4_errorByPhrases wsX4_errorByPhrases) := goodIn_app (goodIn_of _ (by decide +kernel)) ggX4_isToldAlike_X4_errorByPhrases
set_option maxRecDepth 20000 in
theorem ggX4_isToldAlike_X4_fewestBySets : GoodIn wsX4_isToldAlike wsX4_fewestBySets := goodIn_ca (goodIn_r _ [37, 6, 38, 39, 40, 41, 42, 43, 44, 45, 46, 47, 4, 48, 7, 8, 9, 10, 11, 12, 13, 14, 15, 16, 17, 88, 89, 90, 91, 92, 93, 94] (by decide +kernel) (by decide +kernel)) (goodIn_sub (fun _ h => List.mem_cons_of_mem _ (List.mem_append_right _ h)) (by decide +kernel))
set_option maxRecDepth 20000 in
theorem gX4_isToldAlike_X4_fewestBySets : GoodIn wsX4_isToldAlike (wsV RX4 79 RX4 yX4_fewestBySets wsX4_fewestBySets) := goodIn_app (goodIn_of _ (by decide +kernel)) ggX4_isToldAlike_X4_fewestBySets
set_option maxRecDepth 20000 in
theorem ggX4_isToldAlike_X4_fewestByPoints : GoodIn wsX4_isToldAlike wsX4_fewestByPoints := goodIn_ca (goodIn_r _ [52, 53, 6, 54, 55, 56, 57, 7, 8, 9, 4, 10, 11, 58, 59, 60, 61, 62, 63, 64, 65, 66, 12, 13, 14, 88, 89, 90, 91, 92, 93, 94] (by decide +kernel) (by decide +kernel)) (goodIn_sub (fun _ h => List.mem_cons_of_mem _ (List.mem_append_right _ h)) (by decide +kernel))
set_option maxRecDepth 20000 in
theorem gX4_isToldAlike_X4_fewestByPoints : GoodIn wsX4_isToldAlike (wsV RX4 82 RX4 yX4_fewestByPoints wsX4_fewestByPoints) := goodIn_app (goodIn_of _ (by decide +kernel)) ggX4_isToldAlike_X4_fewestByPoints
set_option maxRecDepth 20000 in
theorem ggX4_isToldAlike_X4_doubtByNapkins : GoodIn wsX4_isToldAlike wsX4_doubtByNapkins := goodIn_ca (goodIn_r _ [70, 6, 71, 72, 73, 4, 74, 75, 76, 77, 78, 79, 88, 89, 90, 91, 92, 93, 94] (by decide +kernel) (by decide +kernel)) (goodIn_sub (fun _ h => List.mem_cons_of_mem _ (List.mem_append_right _ h)) (by decide +kernel))
set_option maxRecDepth 20000 in
theorem gX4_isToldAlike_X4_doubtByNapkins : GoodIn wsX4_isToldAlike (wsV RX4 85 RX4 yX4_doubtByNapkins wsX4_doubtByNapkins) := goodIn_app (goodIn_of _ (by decide +kernel)) ggX4_isToldAlike_X4_doubtByNapkins
set_option maxRecDepth 20000 in
theorem ggX4_isToldAlike_X4_doubtByFolds : GoodIn wsX4_isToldAlike wsX4_doubtByFolds := goodIn_ca (goodIn_r _ [83, 84, 85, 86, 4, 87, 6, 7, 8, 9, 10, 11, 71, 72, 73, 74, 75, 76, 77, 78, 79, 88, 89, 90, 91, 92, 93, 94] (by decide +kernel) (by decide +kernel)) (goodIn_sub (fun _ h => List.mem_cons_of_mem _ (List.mem_append_right _ h)) (by decide +kernel))
set_option maxRecDepth 20000 in
theorem gX4_isToldAlike_X4_doubtByFolds : GoodIn wsX4_isToldAlike (wsV RX4 88 RX4 yX4_doubtByFolds wsX4_doubtByFolds) := goodIn_app (goodIn_of _ (by decide +kernel)) ggX4_isToldAlike_X4_doubtByFolds
theorem dX4_isToldAlike_0 : decode cX4_isToldAlike 0 = .ok (.aload_n 0, 1) := by decide +kernel
theorem dX4_isToldAlike_1 : decode cX4_isToldAlike 1 = .ok (.invokevirtual 72, 3) := by decide +kernel
theorem dX4_isToldAlike_4 : decode cX4_isToldAlike 4 = .ok (.aload_n 0, 1) := by decide +kernel
theorem dX4_isToldAlike_5 : decode cX4_isToldAlike 5 = .ok (.invokevirtual 76, 3) := by decide +kernel
theorem dX4_isToldAlike_8 : decode cX4_isToldAlike 8 = .ok (.if_icmp .ne 29, 3) := by decide +kernel
theorem dX4_isToldAlike_11 : decode cX4_isToldAlike 11 = .ok (.aload_n 0, 1) := by decide +kernel
theorem dX4_isToldAlike_12 : decode cX4_isToldAlike 12 = .ok (.invokevirtual 79, 3) := by decide +kernel
theorem dX4_isToldAlike_15 : decode cX4_isToldAlike 15 = .ok (.aload_n 0, 1) := by decide +kernel
theorem dX4_isToldAlike_16 : decode cX4_isToldAlike 16 = .ok (.invokevirtual 82, 3) := by decide +kernel
theorem dX4_isToldAlike_19 : decode cX4_isToldAlike 19 = .ok (.if_icmp .ne 18, 3) := by decide +kernel
theorem dX4_isToldAlike_22 : decode cX4_isToldAlike 22 = .ok (.aload_n 0, 1) := by decide +kernel
theorem dX4_isToldAlike_23 : decode cX4_isToldAlike 23 = .ok (.invokevirtual 85, 3) := by decide +kernel
theorem dX4_isToldAlike_26 : decode cX4_isToldAlike 26 = .ok (.aload_n 0, 1) := by decide +kernel
theorem dX4_isToldAlike_27 : decode cX4_isToldAlike 27 = .ok (.invokevirtual 88, 3) := by decide +kernel
theorem dX4_isToldAlike_30 : decode cX4_isToldAlike 30 = .ok (.if_icmp .ne 7, 3) := by decide +kernel
theorem dX4_isToldAlike_33 : decode cX4_isToldAlike 33 = .ok (.iconst 1, 1) := by decide +kernel
theorem dX4_isToldAlike_34 : decode cX4_isToldAlike 34 = .ok (.goto 4, 3) := by decide +kernel
theorem dX4_isToldAlike_37 : decode cX4_isToldAlike 37 = .ok (.iconst 0, 1) := by decide +kernel
theorem dX4_isToldAlike_38 : decode cX4_isToldAlike 38 = .ok (.ireturn, 1) := by decide +kernel
set_option maxRecDepth 20000 in
theorem ggX4_phraseCount_X4_errorByNapkins : GoodIn wsX4_phraseCount wsX4_errorByNapkins := goodIn_ca (goodIn_r _ [5, 6, 7, 8, 9, 4, 10, 11, 12, 13, 14, 15, 16, 17, 22, 23, 24, 25, 26, 27, 28] (by decide +kernel) (by decide +kernel)) (goodIn_sub (fun _ h => List.mem_cons_of_mem _ (List.mem_append_right _ h)) (by decide +kernel))
set_option maxRecDepth 20000 in
theorem gX4_phraseCount_X4_errorByNapkins : GoodIn wsX4_phraseCount (wsV RX4 72 RX4 yX4_errorByNapkins wsX4_errorByNapkins) := goodIn_app (goodIn_of _ (by decide +kernel)) ggX4_phraseCount_X4_errorByNapkins
set_option maxRecDepth 20000 in
theorem ggX4_phraseCount_X4_countOf : GoodIn wsX4_phraseCount wsX4_countOf := goodIn_ca (goodIn_r _ [21, 6, 7, 8, 9, 4, 10, 11, 22, 23, 24, 25, 26, 27, 28] (by decide +kernel) (by decide +kernel)) (goodIn_sub (fun _ h => List.mem_cons_of_mem _ (List.mem_append_right _ h)) (by decide +kernel))
set_option maxRecDepth 20000 in
theorem gX4_phraseCount_X4_countOf : GoodIn wsX4_phraseCount (wsV RX4 91 RX4 yX4_countOf wsX4_countOf) := goodIn_app (goodIn_of _ (by decide +kernel)) ggX4_phraseCount_X4_countOf
theorem dX4_phraseCount_0 : decode cX4_phraseCount 0 = .ok (.aload_n 0, 1) := by decide +kernel
theorem dX4_phraseCount_1 : decode cX4_phraseCount 1 = .ok (.invokevirtual 72, 3) := by decide +kernel
theorem dX4_phraseCount_4 : decode cX4_phraseCount 4 = .ok (.iconst (-1), 1) := by decide +kernel
theorem dX4_phraseCount_5 : decode cX4_phraseCount 5 = .ok (.if_icmp .ne 13, 3) := by decide +kernel
theorem dX4_phraseCount_8 : decode cX4_phraseCount 8 = .ok (.aload_n 0, 1) := by decide +kernel
theorem dX4_phraseCount_9 : decode cX4_phraseCount 9 = .ok (.iconst 4, 1) := by decide +kernel
theorem dX4_phraseCount_10 : decode cX4_phraseCount 10 = .ok (.invokevirtual 91, 3) := by decide +kernel
theorem dX4_phraseCount_13 : decode cX4_phraseCount 13 = .ok (.iconst 1, 1) := by decide +kernel
theorem dX4_phraseCount_14 : decode cX4_phraseCount 14 = .ok (.iadd, 1) := by decide +kernel
theorem dX4_phraseCount_15 : decode cX4_phraseCount 15 = .ok (.goto 4, 3) := by decide +kernel
theorem dX4_phraseCount_18 : decode cX4_phraseCount 18 = .ok (.iconst 0, 1) := by decide +kernel
theorem dX4_phraseCount_19 : decode cX4_phraseCount 19 = .ok (.ireturn, 1) := by decide +kernel
set_option maxRecDepth 20000 in
theorem ggX4_startOf_X4_crownFrom : GoodIn wsX4_startOf wsX4_crownFrom := goodIn_ca (goodIn_r _ [6, 1, 7, 8, 9, 5, 10, 11, 12, 13, 14, 15, 16, 17, 18] (by decide +kernel) (by decide +kernel)) (goodIn_sub (fun _ h => List.mem_cons_of_mem _ (List.mem_append_right _ h)) (by decide +kernel))
set_option maxRecDepth 20000 in
theorem gX4_startOf_X4_crownFrom : GoodIn wsX4_startOf (wsV RX4 66 RX4 yX4_crownFrom wsX4_crownFrom) := goodIn_app (goodIn_of _ (by decide +kernel)) ggX4_startOf_X4_crownFrom
theorem dX4_startOf_0 : decode cX4_startOf 0 = .ok (.iconst 0, 1) := by decide +kernel
theorem dX4_startOf_1 : decode cX4_startOf 1 = .ok (.istore_n 2, 1) := by decide +kernel
theorem dX4_startOf_2 : decode cX4_startOf 2 = .ok (.iconst 0, 1) := by decide +kernel
theorem dX4_startOf_3 : decode cX4_startOf 3 = .ok (.istore_n 3, 1) := by decide +kernel
theorem dX4_startOf_4 : decode cX4_startOf 4 = .ok (.iload_n 3, 1) := by decide +kernel
theorem dX4_startOf_5 : decode cX4_startOf 5 = .ok (.iload_n 1, 1) := by decide +kernel
theorem dX4_startOf_6 : decode cX4_startOf 6 = .ok (.if_icmp .ge 25, 3) := by decide +kernel
theorem dX4_startOf_9 : decode cX4_startOf 9 = .ok (.iload_n 2, 1) := by decide +kernel
theorem dX4_startOf_10 : decode cX4_startOf 10 = .ok (.aload_n 0, 1) := by decide +kernel
theorem dX4_startOf_11 : decode cX4_startOf 11 = .ok (.getfield 30, 3) := by decide +kernel
theorem dX4_startOf_14 : decode cX4_startOf 14 = .ok (.if_icmp .ge 17, 3) := by decide +kernel
theorem dX4_startOf_17 : decode cX4_startOf 17 = .ok (.aload_n 0, 1) := by decide +kernel
theorem dX4_startOf_18 : decode cX4_startOf 18 = .ok (.iload_n 2, 1) := by decide +kernel
theorem dX4_startOf_19 : decode cX4_startOf 19 = .ok (.invokevirtual 66, 3) := by decide +kernel
theorem dX4_startOf_22 : decode cX4_startOf 22 = .ok (.iconst 1, 1) := by decide +kernel
theorem dX4_startOf_23 : decode cX4_startOf 23 = .ok (.iadd, 1) := by decide +kernel
theorem dX4_startOf_24 : decode cX4_startOf 24 = .ok (.istore_n 2, 1) := by decide +kernel
theorem dX4_startOf_25 : decode cX4_startOf 25 = .ok (.iinc 3 1, 3) := by decide +kernel
theorem dX4_startOf_28 : decode cX4_startOf 28 = .ok (.goto (-24), 3) := by decide +kernel
theorem dX4_startOf_31 : decode cX4_startOf 31 = .ok (.iload_n 2, 1) := by decide +kernel
theorem dX4_startOf_32 : decode cX4_startOf 32 = .ok (.ireturn, 1) := by decide +kernel
set_option maxRecDepth 20000 in
theorem ggX4_moodFrom_X4_foldAt : GoodIn wsX4_moodFrom wsX4_foldAt := goodIn_ca (goodIn_r _ [6, 1, 7, 8, 9, 10, 11, 12, 13, 14] (by decide +kernel) (by decide +kernel)) (goodIn_sub (fun _ h => List.mem_cons_of_mem _ (List.mem_append_right _ h)) (by decide +kernel))
set_option maxRecDepth 20000 in
theorem gX4_moodFrom_X4_foldAt : GoodIn wsX4_moodFrom (wsV RX4 57 RX4 yX4_foldAt wsX4_foldAt) := goodIn_app (goodIn_of _ (by decide +kernel)) ggX4_moodFrom_X4_foldAt
theorem dX4_moodFrom_0 : decode cX4_moodFrom 0 = .ok (.iload_n 1, 1) := by decide +kernel
theorem dX4_moodFrom_1 : decode cX4_moodFrom 1 = .ok (.istore_n 2, 1) := by decide +kernel
theorem dX4_moodFrom_2 : decode cX4_moodFrom 2 = .ok (.iload_n 2, 1) := by decide +kernel
theorem dX4_moodFrom_3 : decode cX4_moodFrom 3 = .ok (.aload_n 0, 1) := by decide +kernel
theorem dX4_moodFrom_4 : decode cX4_moodFrom 4 = .ok (.getfield 30, 3) := by decide +kernel
theorem dX4_moodFrom_7 : decode cX4_moodFrom 7 = .ok (.if_icmp .ge 18, 3) := by decide +kernel
theorem dX4_moodFrom_10 : decode cX4_moodFrom 10 = .ok (.aload_n 0, 1) := by decide +kernel
theorem dX4_moodFrom_11 : decode cX4_moodFrom 11 = .ok (.iload_n 2, 1) := by decide +kernel
theorem dX4_moodFrom_12 : decode cX4_moodFrom 12 = .ok (.invokevirtual 57, 3) := by decide +kernel
theorem dX4_moodFrom_15 : decode cX4_moodFrom 15 = .ok (.iconst 1, 1) := by decide +kernel
theorem dX4_moodFrom_16 : decode cX4_moodFrom 16 = .ok (.if_icmp .ne 9, 3) := by decide +kernel
theorem dX4_moodFrom_19 : decode cX4_moodFrom 19 = .ok (.iinc 2 1, 3) := by decide +kernel
theorem dX4_moodFrom_22 : decode cX4_moodFrom 22 = .ok (.goto (-20), 3) := by decide +kernel
theorem dX4_moodFrom_25 : decode cX4_moodFrom 25 = .ok (.iload_n 2, 1) := by decide +kernel
theorem dX4_moodFrom_26 : decode cX4_moodFrom 26 = .ok (.ireturn, 1) := by decide +kernel
set_option maxRecDepth 20000 in
theorem ggX4_isAgreed_X4_colourAt : GoodIn wsX4_isAgreed wsX4_colourAt := goodIn_ca (goodIn_r _ [5, 6, 7, 8, 9, 4, 10, 11, 12, 13, 14, 15, 16, 17, 18] (by decide +kernel) (by decide +kernel)) (goodIn_sub (fun _ h => List.mem_cons_of_mem _ (List.mem_append_right _ h)) (by decide +kernel))
set_option maxRecDepth 20000 in
theorem gX4_isAgreed_X4_colourAt : GoodIn wsX4_isAgreed (wsV RX4 94 RX4 yX4_colourAt wsX4_colourAt) := goodIn_app (goodIn_of _ (by decide +kernel)) ggX4_isAgreed_X4_colourAt
theorem dX4_isAgreed_0 : decode cX4_isAgreed 0 = .ok (.iload_n 1, 1) := by decide +kernel
theorem dX4_isAgreed_1 : decode cX4_isAgreed 1 = .ok (.istore_n 3, 1) := by decide +kernel
theorem dX4_isAgreed_2 : decode cX4_isAgreed 2 = .ok (.iload_n 3, 1) := by decide +kernel
theorem dX4_isAgreed_3 : decode cX4_isAgreed 3 = .ok (.iload_n 2, 1) := by decide +kernel
theorem dX4_isAgreed_4 : decode cX4_isAgreed 4 = .ok (.if_icmp .ge 24, 3) := by decide +kernel
theorem dX4_isAgreed_7 : decode cX4_isAgreed 7 = .ok (.aload_n 0, 1) := by decide +kernel
theorem dX4_isAgreed_8 : decode cX4_isAgreed 8 = .ok (.iload_n 3, 1) := by decide +kernel
theorem dX4_isAgreed_9 : decode cX4_isAgreed 9 = .ok (.invokevirtual 94, 3) := by decide +kernel
theorem dX4_isAgreed_12 : decode cX4_isAgreed 12 = .ok (.aload_n 0, 1) := by decide +kernel
theorem dX4_isAgreed_13 : decode cX4_isAgreed 13 = .ok (.iload_n 2, 1) := by decide +kernel
theorem dX4_isAgreed_14 : decode cX4_isAgreed 14 = .ok (.invokevirtual 94, 3) := by decide +kernel
theorem dX4_isAgreed_17 : decode cX4_isAgreed 17 = .ok (.if_icmp .ne 5, 3) := by decide +kernel
theorem dX4_isAgreed_20 : decode cX4_isAgreed 20 = .ok (.iconst 1, 1) := by decide +kernel
theorem dX4_isAgreed_21 : decode cX4_isAgreed 21 = .ok (.ireturn, 1) := by decide +kernel
theorem dX4_isAgreed_22 : decode cX4_isAgreed 22 = .ok (.iinc 3 1, 3) := by decide +kernel
theorem dX4_isAgreed_25 : decode cX4_isAgreed 25 = .ok (.goto (-23), 3) := by decide +kernel
theorem dX4_isAgreed_28 : decode cX4_isAgreed 28 = .ok (.iconst 0, 1) := by decide +kernel
theorem dX4_isAgreed_29 : decode cX4_isAgreed 29 = .ok (.ireturn, 1) := by decide +kernel
set_option maxRecDepth 20000 in
theorem ggX4_followers_X4_pointAtEnd : GoodIn wsX4_followers wsX4_pointAtEnd := goodIn_ca (goodIn_r _ [5, 6, 7, 8, 9, 4, 10, 11, 12, 13, 14, 15, 16, 17, 18, 19, 20, 21] (by decide +kernel) (by decide +kernel)) (goodIn_sub (fun _ h => List.mem_cons_of_mem _ (List.mem_append_right _ h)) (by decide +kernel))
set_option maxRecDepth 20000 in
theorem gX4_followers_X4_pointAtEnd : GoodIn wsX4_followers (wsV RX4 97 RX4 yX4_pointAtEnd wsX4_pointAtEnd) := goodIn_app (goodIn_of _ (by decide +kernel)) ggX4_followers_X4_pointAtEnd
set_option maxRecDepth 20000 in
theorem ggX4_followers_X4_pointAfter : GoodIn wsX4_followers wsX4_pointAfter := goodIn_r _ [14] (by decide +kernel) (by decide +kernel)
set_option maxRecDepth 20000 in
theorem gX4_followers_X4_pointAfter : GoodIn wsX4_followers (va_wsS RX4 60 yX4_pointAfter wsX4_pointAfter) := goodIn_app (goodIn_of _ (by decide +kernel)) ggX4_followers_X4_pointAfter
theorem dX4_followers_0 : decode cX4_followers 0 = .ok (.aload_n 0, 1) := by decide +kernel
theorem dX4_followers_1 : decode cX4_followers 1 = .ok (.iconst 0, 1) := by decide +kernel
theorem dX4_followers_2 : decode cX4_followers 2 = .ok (.invokevirtual 97, 3) := by decide +kernel
theorem dX4_followers_5 : decode cX4_followers 5 = .ok (.istore_n 1, 1) := by decide +kernel
theorem dX4_followers_6 : decode cX4_followers 6 = .ok (.iconst 0, 1) := by decide +kernel
theorem dX4_followers_7 : decode cX4_followers 7 = .ok (.istore_n 2, 1) := by decide +kernel
theorem dX4_followers_8 : decode cX4_followers 8 = .ok (.iconst 1, 1) := by decide +kernel
theorem dX4_followers_9 : decode cX4_followers 9 = .ok (.istore_n 3, 1) := by decide +kernel
theorem dX4_followers_10 : decode cX4_followers 10 = .ok (.iload_n 3, 1) := by decide +kernel
theorem dX4_followers_11 : decode cX4_followers 11 = .ok (.iconst 4, 1) := by decide +kernel
theorem dX4_followers_12 : decode cX4_followers 12 = .ok (.if_icmp .gt 24, 3) := by decide +kernel
theorem dX4_followers_15 : decode cX4_followers 15 = .ok (.iload_n 1, 1) := by decide +kernel
theorem dX4_followers_16 : decode cX4_followers 16 = .ok (.iload_n 3, 1) := by decide +kernel
theorem dX4_followers_17 : decode cX4_followers 17 = .ok (.invokestatic 60, 3) := by decide +kernel
theorem dX4_followers_20 : decode cX4_followers 20 = .ok (.iconst (-1), 1) := by decide +kernel
theorem dX4_followers_21 : decode cX4_followers 21 = .ok (.if_icmp .eq 9, 3) := by decide +kernel
theorem dX4_followers_24 : decode cX4_followers 24 = .ok (.iload_n 2, 1) := by decide +kernel
theorem dX4_followers_25 : decode cX4_followers 25 = .ok (.iconst 1, 1) := by decide +kernel
theorem dX4_followers_26 : decode cX4_followers 26 = .ok (.iload_n 3, 1) := by decide +kernel
theorem dX4_followers_27 : decode cX4_followers 27 = .ok (.ishl, 1) := by decide +kernel
theorem dX4_followers_28 : decode cX4_followers 28 = .ok (.ior, 1) := by decide +kernel
theorem dX4_followers_29 : decode cX4_followers 29 = .ok (.istore_n 2, 1) := by decide +kernel
theorem dX4_followers_30 : decode cX4_followers 30 = .ok (.iinc 3 1, 3) := by decide +kernel
theorem dX4_followers_33 : decode cX4_followers 33 = .ok (.goto (-23), 3) := by decide +kernel
theorem dX4_followers_36 : decode cX4_followers 36 = .ok (.iload_n 2, 1) := by decide +kernel
theorem dX4_followers_37 : decode cX4_followers 37 = .ok (.ireturn, 1) := by decide +kernel
set_option maxRecDepth 20000 in
theorem ggX4_fewestBySets_J6_bitCount_0f7a4 : GoodIn wsX4_fewestBySets wsJ6_bitCount_0f7a4 := goodIn_r _ [5, 6, 7, 8] (by decide +kernel) (by decide +kernel)
set_option maxRecDepth 20000 in
theorem gX4_fewestBySets_J6_bitCount_0f7a4 : GoodIn wsX4_fewestBySets (va_wsS RX4 100 yJ6_bitCount_0f7a4 wsJ6_bitCount_0f7a4) := goodIn_app (goodIn_of _ (by decide +kernel)) ggX4_fewestBySets_J6_bitCount_0f7a4
set_option maxRecDepth 20000 in
theorem ggX4_fewestBySets_X4_pointAtEnd : GoodIn wsX4_fewestBySets wsX4_pointAtEnd := goodIn_ca (goodIn_r _ [13, 1, 14, 15, 16, 12, 17, 18, 19, 20, 21, 25, 26, 27, 28, 29, 30, 31] (by decide +kernel) (by decide +kernel)) (goodIn_sub (fun _ h => List.mem_cons_of_mem _ (List.mem_append_right _ h)) (by decide +kernel))
set_option maxRecDepth 20000 in
theorem gX4_fewestBySets_X4_pointAtEnd : GoodIn wsX4_fewestBySets (wsV RX4 97 RX4 yX4_pointAtEnd wsX4_pointAtEnd) := goodIn_app (goodIn_of _ (by decide +kernel)) ggX4_fewestBySets_X4_pointAtEnd
set_option maxRecDepth 20000 in
theorem ggX4_fewestBySets_X4_isEnd : GoodIn wsX4_fewestBySets wsX4_isEnd := goodIn_r _ [24] (by decide +kernel) (by decide +kernel)
set_option maxRecDepth 20000 in
theorem gX4_fewestBySets_X4_isEnd : GoodIn wsX4_fewestBySets (va_wsS RX4 63 yX4_isEnd wsX4_isEnd) := goodIn_app (goodIn_of _ (by decide +kernel)) ggX4_fewestBySets_X4_isEnd
theorem dX4_fewestBySets_0 : decode cX4_fewestBySets 0 = .ok (.iconst (-1), 1) := by decide +kernel
theorem dX4_fewestBySets_1 : decode cX4_fewestBySets 1 = .ok (.istore_n 1, 1) := by decide +kernel
theorem dX4_fewestBySets_2 : decode cX4_fewestBySets 2 = .ok (.iconst 0, 1) := by decide +kernel
theorem dX4_fewestBySets_3 : decode cX4_fewestBySets 3 = .ok (.istore_n 2, 1) := by decide +kernel
theorem dX4_fewestBySets_4 : decode cX4_fewestBySets 4 = .ok (.iload_n 2, 1) := by decide +kernel
theorem dX4_fewestBySets_5 : decode cX4_fewestBySets 5 = .ok (.bipush 64, 2) := by decide +kernel
theorem dX4_fewestBySets_7 : decode cX4_fewestBySets 7 = .ok (.if_icmp .ge 47, 3) := by decide +kernel
theorem dX4_fewestBySets_10 : decode cX4_fewestBySets 10 = .ok (.iload_n 2, 1) := by decide +kernel
theorem dX4_fewestBySets_11 : decode cX4_fewestBySets 11 = .ok (.iconst 1, 1) := by decide +kernel
theorem dX4_fewestBySets_12 : decode cX4_fewestBySets 12 = .ok (.aload_n 0, 1) := by decide +kernel
theorem dX4_fewestBySets_13 : decode cX4_fewestBySets 13 = .ok (.getfield 30, 3) := by decide +kernel
theorem dX4_fewestBySets_16 : decode cX4_fewestBySets 16 = .ok (.ishl, 1) := by decide +kernel
theorem dX4_fewestBySets_17 : decode cX4_fewestBySets 17 = .ok (.if_icmp .ge 37, 3) := by decide +kernel
theorem dX4_fewestBySets_20 : decode cX4_fewestBySets 20 = .ok (.iload_n 2, 1) := by decide +kernel
theorem dX4_fewestBySets_21 : decode cX4_fewestBySets 21 = .ok (.invokestatic 100, 3) := by decide +kernel
theorem dX4_fewestBySets_24 : decode cX4_fewestBySets 24 = .ok (.istore_n 3, 1) := by decide +kernel
theorem dX4_fewestBySets_25 : decode cX4_fewestBySets 25 = .ok (.aload_n 0, 1) := by decide +kernel
theorem dX4_fewestBySets_26 : decode cX4_fewestBySets 26 = .ok (.iload_n 2, 1) := by decide +kernel
theorem dX4_fewestBySets_27 : decode cX4_fewestBySets 27 = .ok (.invokevirtual 97, 3) := by decide +kernel
theorem dX4_fewestBySets_30 : decode cX4_fewestBySets 30 = .ok (.invokestatic 63, 3) := by decide +kernel
theorem dX4_fewestBySets_33 : decode cX4_fewestBySets 33 = .ok (.ifCond .eq 15, 3) := by decide +kernel
theorem dX4_fewestBySets_36 : decode cX4_fewestBySets 36 = .ok (.iload_n 1, 1) := by decide +kernel
theorem dX4_fewestBySets_37 : decode cX4_fewestBySets 37 = .ok (.iconst (-1), 1) := by decide +kernel
theorem dX4_fewestBySets_38 : decode cX4_fewestBySets 38 = .ok (.if_icmp .eq 8, 3) := by decide +kernel
theorem dX4_fewestBySets_41 : decode cX4_fewestBySets 41 = .ok (.iload_n 3, 1) := by decide +kernel
theorem dX4_fewestBySets_42 : decode cX4_fewestBySets 42 = .ok (.iload_n 1, 1) := by decide +kernel
theorem dX4_fewestBySets_43 : decode cX4_fewestBySets 43 = .ok (.if_icmp .ge 5, 3) := by decide +kernel
theorem dX4_fewestBySets_46 : decode cX4_fewestBySets 46 = .ok (.iload_n 3, 1) := by decide +kernel
theorem dX4_fewestBySets_47 : decode cX4_fewestBySets 47 = .ok (.istore_n 1, 1) := by decide +kernel
theorem dX4_fewestBySets_48 : decode cX4_fewestBySets 48 = .ok (.iinc 2 1, 3) := by decide +kernel
theorem dX4_fewestBySets_51 : decode cX4_fewestBySets 51 = .ok (.goto (-47), 3) := by decide +kernel
theorem dX4_fewestBySets_54 : decode cX4_fewestBySets 54 = .ok (.iload_n 1, 1) := by decide +kernel
theorem dX4_fewestBySets_55 : decode cX4_fewestBySets 55 = .ok (.ireturn, 1) := by decide +kernel
set_option maxRecDepth 20000 in
theorem ggX4_fewestByPoints_X4_foldAt : GoodIn wsX4_fewestByPoints wsX4_foldAt := goodIn_ca (goodIn_r _ [11, 2, 12, 25, 26, 27, 28, 29, 30, 31] (by decide +kernel) (by decide +kernel)) (goodIn_sub (fun _ h => List.mem_cons_of_mem _ (List.mem_append_right _ h)) (by decide +kernel))
set_option maxRecDepth 20000 in
theorem gX4_fewestByPoints_X4_foldAt : GoodIn wsX4_fewestByPoints (wsV RX4 57 RX4 yX4_foldAt wsX4_foldAt) := goodIn_app (goodIn_of _ (by decide +kernel)) ggX4_fewestByPoints_X4_foldAt
set_option maxRecDepth 20000 in
theorem ggX4_fewestByPoints_X4_goOnWith : GoodIn wsX4_fewestByPoints wsX4_goOnWith := goodIn_ca (goodIn_r _ [16, 17, 1, 3, 4, 5, 6, 18, 19, 20, 21, 22, 23, 10, 24, 25, 26, 27, 28, 29, 30, 31] (by decide +kernel) (by decide +kernel)) (goodIn_sub (fun _ h => List.mem_cons_of_mem _ (List.mem_append_right _ h)) (by decide +kernel))
set_option maxRecDepth 20000 in
theorem gX4_fewestByPoints_X4_goOnWith : GoodIn wsX4_fewestByPoints (wsV RX4 105 RX4 yX4_goOnWith wsX4_goOnWith) := goodIn_app (goodIn_of _ (by decide +kernel)) ggX4_fewestByPoints_X4_goOnWith
theorem dX4_fewestByPoints_0 : decode cX4_fewestByPoints 0 = .ok (.iconst 0, 1) := by decide +kernel
theorem dX4_fewestByPoints_1 : decode cX4_fewestByPoints 1 = .ok (.istore_n 1, 1) := by decide +kernel
theorem dX4_fewestByPoints_2 : decode cX4_fewestByPoints 2 = .ok (.iload_n 1, 1) := by decide +kernel
theorem dX4_fewestByPoints_3 : decode cX4_fewestByPoints 3 = .ok (.iconst 4, 1) := by decide +kernel
theorem dX4_fewestByPoints_4 : decode cX4_fewestByPoints 4 = .ok (.if_icmp .ge 26, 3) := by decide +kernel
theorem dX4_fewestByPoints_7 : decode cX4_fewestByPoints 7 = .ok (.aload_n 0, 1) := by decide +kernel
theorem dX4_fewestByPoints_8 : decode cX4_fewestByPoints 8 = .ok (.getfield 24, 3) := by decide +kernel
theorem dX4_fewestByPoints_11 : decode cX4_fewestByPoints 11 = .ok (.iload_n 1, 1) := by decide +kernel
theorem dX4_fewestByPoints_12 : decode cX4_fewestByPoints 12 = .ok (.iload_n 1, 1) := by decide +kernel
theorem dX4_fewestByPoints_13 : decode cX4_fewestByPoints 13 = .ok (.ifCond .ne 7, 3) := by decide +kernel
theorem dX4_fewestByPoints_16 : decode cX4_fewestByPoints 16 = .ok (.iconst 0, 1) := by decide +kernel
theorem dX4_fewestByPoints_17 : decode cX4_fewestByPoints 17 = .ok (.goto 6, 3) := by decide +kernel
theorem dX4_fewestByPoints_20 : decode cX4_fewestByPoints 20 = .ok (.sipush 1000, 3) := by decide +kernel
theorem dX4_fewestByPoints_23 : decode cX4_fewestByPoints 23 = .ok (.iastore, 1) := by decide +kernel
theorem dX4_fewestByPoints_24 : decode cX4_fewestByPoints 24 = .ok (.iinc 1 1, 3) := by decide +kernel
theorem dX4_fewestByPoints_27 : decode cX4_fewestByPoints 27 = .ok (.goto (-25), 3) := by decide +kernel
theorem dX4_fewestByPoints_30 : decode cX4_fewestByPoints 30 = .ok (.iconst 0, 1) := by decide +kernel
theorem dX4_fewestByPoints_31 : decode cX4_fewestByPoints 31 = .ok (.istore_n 1, 1) := by decide +kernel
theorem dX4_fewestByPoints_32 : decode cX4_fewestByPoints 32 = .ok (.iload_n 1, 1) := by decide +kernel
theorem dX4_fewestByPoints_33 : decode cX4_fewestByPoints 33 = .ok (.aload_n 0, 1) := by decide +kernel
theorem dX4_fewestByPoints_34 : decode cX4_fewestByPoints 34 = .ok (.getfield 30, 3) := by decide +kernel
theorem dX4_fewestByPoints_37 : decode cX4_fewestByPoints 37 = .ok (.if_icmp .ge 18, 3) := by decide +kernel
theorem dX4_fewestByPoints_40 : decode cX4_fewestByPoints 40 = .ok (.aload_n 0, 1) := by decide +kernel
theorem dX4_fewestByPoints_41 : decode cX4_fewestByPoints 41 = .ok (.aload_n 0, 1) := by decide +kernel
theorem dX4_fewestByPoints_42 : decode cX4_fewestByPoints 42 = .ok (.iload_n 1, 1) := by decide +kernel
theorem dX4_fewestByPoints_43 : decode cX4_fewestByPoints 43 = .ok (.invokevirtual 57, 3) := by decide +kernel
theorem dX4_fewestByPoints_46 : decode cX4_fewestByPoints 46 = .ok (.invokevirtual 105, 3) := by decide +kernel
theorem dX4_fewestByPoints_49 : decode cX4_fewestByPoints 49 = .ok (.iinc 1 1, 3) := by decide +kernel
theorem dX4_fewestByPoints_52 : decode cX4_fewestByPoints 52 = .ok (.goto (-20), 3) := by decide +kernel
theorem dX4_fewestByPoints_55 : decode cX4_fewestByPoints 55 = .ok (.aload_n 0, 1) := by decide +kernel
theorem dX4_fewestByPoints_56 : decode cX4_fewestByPoints 56 = .ok (.getfield 24, 3) := by decide +kernel
theorem dX4_fewestByPoints_59 : decode cX4_fewestByPoints 59 = .ok (.iconst 2, 1) := by decide +kernel
theorem dX4_fewestByPoints_60 : decode cX4_fewestByPoints 60 = .ok (.iaload, 1) := by decide +kernel
theorem dX4_fewestByPoints_61 : decode cX4_fewestByPoints 61 = .ok (.aload_n 0, 1) := by decide +kernel
theorem dX4_fewestByPoints_62 : decode cX4_fewestByPoints 62 = .ok (.getfield 24, 3) := by decide +kernel
theorem dX4_fewestByPoints_65 : decode cX4_fewestByPoints 65 = .ok (.iconst 3, 1) := by decide +kernel
theorem dX4_fewestByPoints_66 : decode cX4_fewestByPoints 66 = .ok (.iaload, 1) := by decide +kernel
theorem dX4_fewestByPoints_67 : decode cX4_fewestByPoints 67 = .ok (.invokestatic 109, 3) := by decide +kernel
theorem dX4_fewestByPoints_70 : decode cX4_fewestByPoints 70 = .ok (.istore_n 1, 1) := by decide +kernel
theorem dX4_fewestByPoints_71 : decode cX4_fewestByPoints 71 = .ok (.iload_n 1, 1) := by decide +kernel
theorem dX4_fewestByPoints_72 : decode cX4_fewestByPoints 72 = .ok (.sipush 1000, 3) := by decide +kernel
theorem dX4_fewestByPoints_75 : decode cX4_fewestByPoints 75 = .ok (.if_icmp .ge 7, 3) := by decide +kernel
theorem dX4_fewestByPoints_78 : decode cX4_fewestByPoints 78 = .ok (.iload_n 1, 1) := by decide +kernel
theorem dX4_fewestByPoints_79 : decode cX4_fewestByPoints 79 = .ok (.goto 4, 3) := by decide +kernel
theorem dX4_fewestByPoints_82 : decode cX4_fewestByPoints 82 = .ok (.iconst (-1), 1) := by decide +kernel
theorem dX4_fewestByPoints_83 : decode cX4_fewestByPoints 83 = .ok (.ireturn, 1) := by decide +kernel
set_option maxRecDepth 20000 in
theorem ggX4_doubtByNapkins_X4_stainsAt : GoodIn wsX4_doubtByNapkins wsX4_stainsAt := goodIn_ca (goodIn_r _ [6, 7, 8, 9, 10, 5, 11, 1, 12, 13, 14, 15, 16, 17, 18] (by decide +kernel) (by decide +kernel)) (goodIn_sub (fun _ h => List.mem_cons_of_mem _ (List.mem_append_right _ h)) (by decide +kernel))
set_option maxRecDepth 20000 in
theorem gX4_doubtByNapkins_X4_stainsAt : GoodIn wsX4_doubtByNapkins (wsV RX4 114 RX4 yX4_stainsAt wsX4_stainsAt) := goodIn_app (goodIn_of _ (by decide +kernel)) ggX4_doubtByNapkins_X4_stainsAt
theorem dX4_doubtByNapkins_0 : decode cX4_doubtByNapkins 0 = .ok (.iconst 0, 1) := by decide +kernel
theorem dX4_doubtByNapkins_1 : decode cX4_doubtByNapkins 1 = .ok (.istore_n 1, 1) := by decide +kernel
theorem dX4_doubtByNapkins_2 : decode cX4_doubtByNapkins 2 = .ok (.iconst 0, 1) := by decide +kernel
theorem dX4_doubtByNapkins_3 : decode cX4_doubtByNapkins 3 = .ok (.istore_n 2, 1) := by decide +kernel
theorem dX4_doubtByNapkins_4 : decode cX4_doubtByNapkins 4 = .ok (.iload_n 2, 1) := by decide +kernel
theorem dX4_doubtByNapkins_5 : decode cX4_doubtByNapkins 5 = .ok (.aload_n 0, 1) := by decide +kernel
theorem dX4_doubtByNapkins_6 : decode cX4_doubtByNapkins 6 = .ok (.getfield 30, 3) := by decide +kernel
theorem dX4_doubtByNapkins_9 : decode cX4_doubtByNapkins 9 = .ok (.if_icmp .ge 17, 3) := by decide +kernel
theorem dX4_doubtByNapkins_12 : decode cX4_doubtByNapkins 12 = .ok (.iload_n 1, 1) := by decide +kernel
theorem dX4_doubtByNapkins_13 : decode cX4_doubtByNapkins 13 = .ok (.aload_n 0, 1) := by decide +kernel
theorem dX4_doubtByNapkins_14 : decode cX4_doubtByNapkins 14 = .ok (.iload_n 2, 1) := by decide +kernel
theorem dX4_doubtByNapkins_15 : decode cX4_doubtByNapkins 15 = .ok (.invokevirtual 114, 3) := by decide +kernel
theorem dX4_doubtByNapkins_18 : decode cX4_doubtByNapkins 18 = .ok (.iadd, 1) := by decide +kernel
theorem dX4_doubtByNapkins_19 : decode cX4_doubtByNapkins 19 = .ok (.istore_n 1, 1) := by decide +kernel
theorem dX4_doubtByNapkins_20 : decode cX4_doubtByNapkins 20 = .ok (.iinc 2 1, 3) := by decide +kernel
theorem dX4_doubtByNapkins_23 : decode cX4_doubtByNapkins 23 = .ok (.goto (-19), 3) := by decide +kernel
theorem dX4_doubtByNapkins_26 : decode cX4_doubtByNapkins 26 = .ok (.iload_n 1, 1) := by decide +kernel
theorem dX4_doubtByNapkins_27 : decode cX4_doubtByNapkins 27 = .ok (.ireturn, 1) := by decide +kernel
set_option maxRecDepth 20000 in
theorem ggX4_doubtByFolds_X4_stainsOfAll : GoodIn wsX4_doubtByFolds wsX4_stainsOfAll := goodIn_ca (goodIn_r _ [5, 6, 7, 8, 9, 4, 10, 11, 12, 13, 14, 15, 16, 17, 18, 19, 20, 21, 22, 23, 24, 25, 26, 27] (by decide +kernel) (by decide +kernel)) (goodIn_sub (fun _ h => List.mem_cons_of_mem _ (List.mem_append_right _ h)) (by decide +kernel))
set_option maxRecDepth 20000 in
theorem gX4_doubtByFolds_X4_stainsOfAll : GoodIn wsX4_doubtByFolds (wsV RX4 117 RX4 yX4_stainsOfAll wsX4_stainsOfAll) := goodIn_app (goodIn_of _ (by decide +kernel)) ggX4_doubtByFolds_X4_stainsOfAll
theorem dX4_doubtByFolds_0 : decode cX4_doubtByFolds 0 = .ok (.iconst 0, 1) := by decide +kernel
theorem dX4_doubtByFolds_1 : decode cX4_doubtByFolds 1 = .ok (.istore_n 1, 1) := by decide +kernel
theorem dX4_doubtByFolds_2 : decode cX4_doubtByFolds 2 = .ok (.iconst 1, 1) := by decide +kernel
theorem dX4_doubtByFolds_3 : decode cX4_doubtByFolds 3 = .ok (.istore_n 2, 1) := by decide +kernel
theorem dX4_doubtByFolds_4 : decode cX4_doubtByFolds 4 = .ok (.iload_n 2, 1) := by decide +kernel
theorem dX4_doubtByFolds_5 : decode cX4_doubtByFolds 5 = .ok (.iconst 4, 1) := by decide +kernel
theorem dX4_doubtByFolds_6 : decode cX4_doubtByFolds 6 = .ok (.if_icmp .gt 17, 3) := by decide +kernel
theorem dX4_doubtByFolds_9 : decode cX4_doubtByFolds 9 = .ok (.iload_n 1, 1) := by decide +kernel
theorem dX4_doubtByFolds_10 : decode cX4_doubtByFolds 10 = .ok (.aload_n 0, 1) := by decide +kernel
theorem dX4_doubtByFolds_11 : decode cX4_doubtByFolds 11 = .ok (.iload_n 2, 1) := by decide +kernel
theorem dX4_doubtByFolds_12 : decode cX4_doubtByFolds 12 = .ok (.invokevirtual 117, 3) := by decide +kernel
theorem dX4_doubtByFolds_15 : decode cX4_doubtByFolds 15 = .ok (.iadd, 1) := by decide +kernel
theorem dX4_doubtByFolds_16 : decode cX4_doubtByFolds 16 = .ok (.istore_n 1, 1) := by decide +kernel
theorem dX4_doubtByFolds_17 : decode cX4_doubtByFolds 17 = .ok (.iinc 2 1, 3) := by decide +kernel
theorem dX4_doubtByFolds_20 : decode cX4_doubtByFolds 20 = .ok (.goto (-16), 3) := by decide +kernel
theorem dX4_doubtByFolds_23 : decode cX4_doubtByFolds 23 = .ok (.iload_n 1, 1) := by decide +kernel
theorem dX4_doubtByFolds_24 : decode cX4_doubtByFolds 24 = .ok (.ireturn, 1) := by decide +kernel
set_option maxRecDepth 20000 in
theorem ggX4_stainsOfAll_X4_foldAt : GoodIn wsX4_stainsOfAll wsX4_foldAt := goodIn_ca (goodIn_r _ [6, 1, 7, 17, 18, 19, 20, 21, 22, 23] (by decide +kernel) (by decide +kernel)) (goodIn_sub (fun _ h => List.mem_cons_of_mem _ (List.mem_append_right _ h)) (by decide +kernel))
set_option maxRecDepth 20000 in
theorem gX4_stainsOfAll_X4_foldAt : GoodIn wsX4_stainsOfAll (wsV RX4 57 RX4 yX4_foldAt wsX4_foldAt) := goodIn_app (goodIn_of _ (by decide +kernel)) ggX4_stainsOfAll_X4_foldAt
set_option maxRecDepth 20000 in
theorem ggX4_stainsOfAll_X4_stainsAt : GoodIn wsX4_stainsOfAll wsX4_stainsAt := goodIn_ca (goodIn_r _ [11, 12, 13, 14, 15, 5, 16, 1, 17, 18, 19, 20, 21, 22, 23] (by decide +kernel) (by decide +kernel)) (goodIn_sub (fun _ h => List.mem_cons_of_mem _ (List.mem_append_right _ h)) (by decide +kernel))
set_option maxRecDepth 20000 in
theorem gX4_stainsOfAll_X4_stainsAt : GoodIn wsX4_stainsOfAll (wsV RX4 114 RX4 yX4_stainsAt wsX4_stainsAt) := goodIn_app (goodIn_of _ (by decide +kernel)) ggX4_stainsOfAll_X4_stainsAt
theorem dX4_stainsOfAll_0 : decode cX4_stainsOfAll 0 = .ok (.iconst 0, 1) := by decide +kernel
theorem dX4_stainsOfAll_1 : decode cX4_stainsOfAll 1 = .ok (.istore_n 2, 1) := by decide +kernel
theorem dX4_stainsOfAll_2 : decode cX4_stainsOfAll 2 = .ok (.iconst 0, 1) := by decide +kernel
theorem dX4_stainsOfAll_3 : decode cX4_stainsOfAll 3 = .ok (.istore_n 3, 1) := by decide +kernel
theorem dX4_stainsOfAll_4 : decode cX4_stainsOfAll 4 = .ok (.iload_n 3, 1) := by decide +kernel
theorem dX4_stainsOfAll_5 : decode cX4_stainsOfAll 5 = .ok (.aload_n 0, 1) := by decide +kernel
theorem dX4_stainsOfAll_6 : decode cX4_stainsOfAll 6 = .ok (.getfield 30, 3) := by decide +kernel
theorem dX4_stainsOfAll_9 : decode cX4_stainsOfAll 9 = .ok (.if_icmp .ge 26, 3) := by decide +kernel
theorem dX4_stainsOfAll_12 : decode cX4_stainsOfAll 12 = .ok (.aload_n 0, 1) := by decide +kernel
theorem dX4_stainsOfAll_13 : decode cX4_stainsOfAll 13 = .ok (.iload_n 3, 1) := by decide +kernel
theorem dX4_stainsOfAll_14 : decode cX4_stainsOfAll 14 = .ok (.invokevirtual 57, 3) := by decide +kernel
theorem dX4_stainsOfAll_17 : decode cX4_stainsOfAll 17 = .ok (.iload_n 1, 1) := by decide +kernel
theorem dX4_stainsOfAll_18 : decode cX4_stainsOfAll 18 = .ok (.if_icmp .ne 11, 3) := by decide +kernel
theorem dX4_stainsOfAll_21 : decode cX4_stainsOfAll 21 = .ok (.iload_n 2, 1) := by decide +kernel
theorem dX4_stainsOfAll_22 : decode cX4_stainsOfAll 22 = .ok (.aload_n 0, 1) := by decide +kernel
theorem dX4_stainsOfAll_23 : decode cX4_stainsOfAll 23 = .ok (.iload_n 3, 1) := by decide +kernel
theorem dX4_stainsOfAll_24 : decode cX4_stainsOfAll 24 = .ok (.invokevirtual 114, 3) := by decide +kernel
theorem dX4_stainsOfAll_27 : decode cX4_stainsOfAll 27 = .ok (.iadd, 1) := by decide +kernel
theorem dX4_stainsOfAll_28 : decode cX4_stainsOfAll 28 = .ok (.istore_n 2, 1) := by decide +kernel
theorem dX4_stainsOfAll_29 : decode cX4_stainsOfAll 29 = .ok (.iinc 3 1, 3) := by decide +kernel
theorem dX4_stainsOfAll_32 : decode cX4_stainsOfAll 32 = .ok (.goto (-28), 3) := by decide +kernel
theorem dX4_stainsOfAll_35 : decode cX4_stainsOfAll 35 = .ok (.iload_n 2, 1) := by decide +kernel
theorem dX4_stainsOfAll_36 : decode cX4_stainsOfAll 36 = .ok (.ireturn, 1) := by decide +kernel
set_option maxRecDepth 20000 in
theorem ggX4_goOnWith_X4_pointAfter : GoodIn wsX4_goOnWith wsX4_pointAfter := goodIn_r _ [14] (by decide +kernel) (by decide +kernel)
set_option maxRecDepth 20000 in
theorem gX4_goOnWith_X4_pointAfter : GoodIn wsX4_goOnWith (va_wsS RX4 60 yX4_pointAfter wsX4_pointAfter) := goodIn_app (goodIn_of _ (by decide +kernel)) ggX4_goOnWith_X4_pointAfter
theorem dX4_goOnWith_0 : decode cX4_goOnWith 0 = .ok (.iconst 0, 1) := by decide +kernel
theorem dX4_goOnWith_1 : decode cX4_goOnWith 1 = .ok (.istore_n 2, 1) := by decide +kernel
theorem dX4_goOnWith_2 : decode cX4_goOnWith 2 = .ok (.iload_n 2, 1) := by decide +kernel
theorem dX4_goOnWith_3 : decode cX4_goOnWith 3 = .ok (.iconst 4, 1) := by decide +kernel
