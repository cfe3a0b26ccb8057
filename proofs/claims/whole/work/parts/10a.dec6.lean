theorem dL_move_3 : decode cL_move 3 = .ok (.aload_n 0, 1) := by decide +kernel
theorem dL_move_4 : decode cL_move 4 = .ok (.iload_n 1, 1) := by decide +kernel
theorem dL_move_5 : decode cL_move 5 = .ok (.iload_n 2, 1) := by decide +kernel
theorem dL_move_6 : decode cL_move 6 = .ok (.iload_n 3, 1) := by decide +kernel
theorem dL_move_7 : decode cL_move 7 = .ok (.invokevirtual 32, 3) := by decide +kernel
theorem dL_move_10 : decode cL_move 10 = .ok (.i2l, 1) := by decide +kernel
theorem dL_move_11 : decode cL_move 11 = .ok (.lastore, 1) := by decide +kernel
theorem dL_move_12 : decode cL_move 12 = .ok (.goto 11, 3) := by decide +kernel
theorem dL_move_15 : decode cL_move 15 = .ok (.astore 5, 2) := by decide +kernel
theorem dL_move_17 : decode cL_move 17 = .ok (.iconst 1, 1) := by decide +kernel
theorem dL_move_18 : decode cL_move 18 = .ok (.ireturn, 1) := by decide +kernel
theorem dL_move_19 : decode cL_move 19 = .ok (.astore 5, 2) := by decide +kernel
theorem dL_move_21 : decode cL_move 21 = .ok (.iconst 2, 1) := by decide +kernel
theorem dL_move_22 : decode cL_move 22 = .ok (.ireturn, 1) := by decide +kernel
theorem dL_move_23 : decode cL_move 23 = .ok (.iconst 0, 1) := by decide +kernel
theorem dL_move_24 : decode cL_move 24 = .ok (.ireturn, 1) := by decide +kernel
set_option maxRecDepth 20000 in
theorem ggL_stain_X8_stain : GoodIn wsL_stain wsX8_stain := goodIn_ca (goodIn_ca (goodIn_ca (goodIn_ca (goodIn_r _ [8, 9, 10, 11, 12, 7, 13, 14, 15, 16, 17, 18, 19, 20, 21, 22, 23, 24, 25, 26, 27, 28, 29, 30, 31, 32, 33, 34, 35, 36, 37, 38, 39, 40, 41, 42, 43, 44, 45, 46, 47, 48, 49, 50, 51, 52, 53, 54, 55, 56, 57, 58, 59, 60, 61, 62, 63, 64, 65, 66, 67, 68, 69, 70, 71, 72, 73, 74, 75, 76, 77, 78, 79, 80, 81, 82, 83, 84, 85, 86, 87, 88, 89, 90, 91, 92, 93, 94, 95, 96, 97, 98, 99, 100, 101, 102, 103, 104, 105, 106, 107, 108, 109, 110, 111, 112, 113, 114, 115, 116, 117, 118, 119, 120, 121, 122, 123, 124, 125, 126, 127, 128, 129, 130, 131, 132, 133, 134, 135, 136, 137, 138, 139, 140, 141, 142, 143, 144, 145, 146, 147, 148, 149, 150, 151, 152, 153, 154, 155, 156, 157, 158, 159, 160, 161, 162, 163, 164, 165, 166, 167, 168, 169, 170, 171, 172, 173, 174, 175, 176, 177, 178, 179, 180, 181, 182, 183, 184, 185, 186, 187, 188, 189, 190, 191, 192, 193, 194, 195, 196, 197, 198, 199, 200, 201, 202, 203, 204, 205, 206, 207, 208, 209, 210, 211, 212, 213, 214, 215, 216, 217, 218, 219, 220, 221, 222, 223, 224, 225, 226, 227, 228, 229, 230, 231, 232, 233, 234, 235, 236, 237, 238, 239, 240, 241, 242, 243, 244, 245, 246, 247, 248, 249, 250, 251, 252, 253, 254, 255, 256, 257, 258, 259, 260, 261, 262, 263, 264, 265, 266, 267, 268, 269, 270, 271, 272, 273, 274, 275, 276, 277, 278, 279, 280, 281, 282, 283, 284, 285, 286, 287, 288, 289, 290, 291, 292, 293, 294, 295, 296, 297, 298, 299, 300, 301, 302, 303, 304, 305, 306, 307, 308, 309, 310] (by decide +kernel) (by decide +kernel)) (goodIn_sub (fun _ h => List.mem_cons_of_mem _ (List.mem_append_left _ (List.mem_append_left _ (List.mem_append_right _ h)))) (by decide +kernel))) (goodIn_sub (fun _ h => List.mem_cons_of_mem _ (List.mem_append_left _ (List.mem_append_right _ h))) (by decide +kernel))) (goodIn_sub (fun _ h => List.mem_cons_of_mem _ (List.mem_append_right _ h)) (by decide +kernel))) (goodIn_sub (fun _ h => List.mem_cons_of_mem _ (List.mem_append_left _ (List.mem_append_left _ (List.mem_append_left _ (List.mem_append_right _ h))))) (by decide +kernel))
set_option maxRecDepth 20000 in
theorem gL_stain_X8_stain : GoodIn wsL_stain (wsV RL 36 RX8 yX8_stain wsX8_stain) := goodIn_app (goodIn_of _ (by decide +kernel)) ggL_stain_X8_stain
theorem dL_stain_0 : decode cL_stain 0 = .ok (.aload_n 3, 1) := by decide +kernel
theorem dL_stain_1 : decode cL_stain 1 = .ok (.iconst 0, 1) := by decide +kernel
theorem dL_stain_2 : decode cL_stain 2 = .ok (.aload_n 0, 1) := by decide +kernel
theorem dL_stain_3 : decode cL_stain 3 = .ok (.iload_n 1, 1) := by decide +kernel
theorem dL_stain_4 : decode cL_stain 4 = .ok (.iload_n 2, 1) := by decide +kernel
theorem dL_stain_5 : decode cL_stain 5 = .ok (.invokevirtual 36, 3) := by decide +kernel
theorem dL_stain_8 : decode cL_stain 8 = .ok (.i2l, 1) := by decide +kernel
theorem dL_stain_9 : decode cL_stain 9 = .ok (.lastore, 1) := by decide +kernel
theorem dL_stain_10 : decode cL_stain 10 = .ok (.goto 15, 3) := by decide +kernel
theorem dL_stain_13 : decode cL_stain 13 = .ok (.astore 4, 2) := by decide +kernel
theorem dL_stain_15 : decode cL_stain 15 = .ok (.iconst 1, 1) := by decide +kernel
theorem dL_stain_16 : decode cL_stain 16 = .ok (.ireturn, 1) := by decide +kernel
theorem dL_stain_17 : decode cL_stain 17 = .ok (.astore 4, 2) := by decide +kernel
theorem dL_stain_19 : decode cL_stain 19 = .ok (.iconst 2, 1) := by decide +kernel
theorem dL_stain_20 : decode cL_stain 20 = .ok (.ireturn, 1) := by decide +kernel
theorem dL_stain_21 : decode cL_stain 21 = .ok (.astore 4, 2) := by decide +kernel
theorem dL_stain_23 : decode cL_stain 23 = .ok (.iconst 3, 1) := by decide +kernel
theorem dL_stain_24 : decode cL_stain 24 = .ok (.ireturn, 1) := by decide +kernel
theorem dL_stain_25 : decode cL_stain 25 = .ok (.iconst 0, 1) := by decide +kernel
theorem dL_stain_26 : decode cL_stain 26 = .ok (.ireturn, 1) := by decide +kernel
set_option maxRecDepth 20000 in
theorem ggL_wash_X8_wash : GoodIn wsL_wash wsX8_wash := goodIn_ca (goodIn_ca (goodIn_ca (goodIn_ca (goodIn_r _ [7, 8, 9, 10, 11, 6, 12, 13, 14, 15, 16, 17, 18, 19, 20, 21, 22, 23, 24, 25, 26, 27, 28, 29, 30, 31, 32, 33, 34, 35, 36, 37, 38, 39, 40, 41, 42, 43, 44, 45, 46, 47, 48, 49, 50, 51, 52, 53, 54, 55, 56, 57, 58, 59, 60, 61, 62, 63, 64, 65, 66, 67, 68, 69, 70, 71, 72, 73, 74, 75, 76, 77, 78, 79, 80, 81, 82, 83, 84, 85, 86, 87, 88, 89, 90, 91, 92, 93, 94, 95, 96, 97, 98, 99, 100, 101, 102, 103, 104, 105, 106, 107, 108, 109, 110, 111, 112, 113, 114, 115, 116, 117, 118, 119, 120, 121, 122, 123, 124, 125, 126, 127, 128, 129, 130, 131, 132, 133, 134, 135, 136, 137, 138, 139, 140, 141, 142, 143, 144, 145, 146, 147, 148, 149, 150, 151, 152, 153, 154, 155, 156, 157, 158, 159, 160, 161, 162, 163, 164, 165, 166, 167, 168, 169, 170, 171, 172, 173, 174, 175, 176, 177, 178, 179, 180, 181, 182, 183, 184, 185, 186, 187, 188, 189, 190, 191, 192, 193, 194, 195, 196, 197, 198, 199, 200, 201, 202, 203, 204, 205, 206, 207, 208, 209, 210, 211, 212, 213, 214, 215, 216, 217, 218, 219, 220, 221, 222, 223, 224, 225, 226, 227, 228, 229, 230, 231, 232, 233, 234, 235, 236, 237, 238, 239, 240, 241, 242, 243, 244, 245, 246, 247, 248, 249, 250, 251, 252, 253, 254, 255, 256, 257, 258, 259, 260, 261, 262, 263, 264, 265, 266, 267, 268, 269, 270, 271, 272, 273, 274, 275, 276, 277, 278, 279, 280, 281, 282, 283, 284, 285, 286, 287, 288, 289, 290, 291, 292, 293, 294, 295, 296, 297, 298, 299, 300, 301, 302, 303, 304, 305, 306, 307, 308, 309] (by decide +kernel) (by decide +kernel)) (goodIn_sub (fun _ h => List.mem_cons_of_mem _ (List.mem_append_left _ (List.mem_append_left _ (List.mem_append_right _ h)))) (by decide +kernel))) (goodIn_sub (fun _ h => List.mem_cons_of_mem _ (List.mem_append_left _ (List.mem_append_right _ h))) (by decide +kernel))) (goodIn_sub (fun _ h => List.mem_cons_of_mem _ (List.mem_append_right _ h)) (by decide +kernel))) (goodIn_sub (fun _ h => List.mem_cons_of_mem _ (List.mem_append_left _ (List.mem_append_left _ (List.mem_append_left _ (List.mem_append_right _ h))))) (by decide +kernel))
set_option maxRecDepth 20000 in
theorem gL_wash_X8_wash : GoodIn wsL_wash (wsV RL 39 RX8 yX8_wash wsX8_wash) := goodIn_app (goodIn_of _ (by decide +kernel)) ggL_wash_X8_wash
theorem dL_wash_0 : decode cL_wash 0 = .ok (.aload_n 2, 1) := by decide +kernel
theorem dL_wash_1 : decode cL_wash 1 = .ok (.iconst 0, 1) := by decide +kernel
theorem dL_wash_2 : decode cL_wash 2 = .ok (.aload_n 0, 1) := by decide +kernel
theorem dL_wash_3 : decode cL_wash 3 = .ok (.iload_n 1, 1) := by decide +kernel
theorem dL_wash_4 : decode cL_wash 4 = .ok (.invokevirtual 39, 3) := by decide +kernel
theorem dL_wash_7 : decode cL_wash 7 = .ok (.i2l, 1) := by decide +kernel
theorem dL_wash_8 : decode cL_wash 8 = .ok (.lastore, 1) := by decide +kernel
theorem dL_wash_9 : decode cL_wash 9 = .ok (.goto 9, 3) := by decide +kernel
theorem dL_wash_12 : decode cL_wash 12 = .ok (.astore_n 3, 1) := by decide +kernel
theorem dL_wash_13 : decode cL_wash 13 = .ok (.iconst 1, 1) := by decide +kernel
theorem dL_wash_14 : decode cL_wash 14 = .ok (.ireturn, 1) := by decide +kernel
theorem dL_wash_15 : decode cL_wash 15 = .ok (.astore_n 3, 1) := by decide +kernel
theorem dL_wash_16 : decode cL_wash 16 = .ok (.iconst 2, 1) := by decide +kernel
theorem dL_wash_17 : decode cL_wash 17 = .ok (.ireturn, 1) := by decide +kernel
theorem dL_wash_18 : decode cL_wash 18 = .ok (.iconst 0, 1) := by decide +kernel
theorem dL_wash_19 : decode cL_wash 19 = .ok (.ireturn, 1) := by decide +kernel
set_option maxRecDepth 20000 in
theorem ggL_host_X8_host : GoodIn wsL_host wsX8_host := goodIn_ca (goodIn_ca (goodIn_ca (goodIn_ca (goodIn_r _ [7, 8, 9, 10, 11, 6, 12, 13, 14, 15, 16, 17, 18, 19, 20, 21, 22, 23, 24, 25, 26, 27, 28, 29, 30, 31, 32, 33, 34, 35, 36, 37, 38, 39, 40, 41, 42, 43, 44, 45, 46, 47, 48, 49, 50, 51, 52, 53, 54, 55, 56, 57, 58, 59, 60, 61, 62, 63, 64, 65, 66, 67, 68, 69, 70, 71, 72, 73, 74, 75, 76, 77, 78, 79, 80, 81, 82, 83, 84, 85, 86, 87, 88, 89, 90, 91, 92, 93, 94, 95, 96, 97, 98, 99, 100, 101, 102, 103, 104, 105, 106, 107, 108, 109, 110, 111, 112, 113, 114, 115, 116, 117, 118, 119, 120, 121, 122, 123, 124, 125, 126, 127, 128, 129, 130, 131, 132, 133, 134, 135, 136, 137, 138, 139, 140, 141, 142, 143, 144, 145, 146, 147, 148, 149, 150, 151, 152, 153, 154, 155, 156, 157, 158, 159, 160, 161, 162, 163, 164, 165, 166, 167, 168, 169, 170, 171, 172, 173, 174, 175, 176, 177, 178, 179, 180, 181, 182, 183, 184, 185, 186, 187, 188, 189, 190, 191, 192, 193, 194, 195, 196, 197, 198, 199, 200, 201, 202, 203, 204, 205, 206, 207, 208, 209, 210, 211, 212, 213, 214, 215, 216, 217, 218, 219, 220, 221, 222, 223, 224, 225, 226, 227, 228, 229, 230, 231, 232, 233, 234, 235, 236, 237, 238, 239, 240, 241, 242, 243, 244, 245, 246, 247, 248, 249, 250, 251, 252, 253, 254, 255, 256, 257, 258, 259, 260, 261, 262, 263, 264, 265, 266, 267, 268, 269, 270, 271, 272, 273, 274, 275, 276, 277, 278, 279, 280, 281, 282, 283, 284, 285, 286, 287, 288, 289, 290, 291, 292, 293, 294, 295, 296, 297, 298, 299, 300, 301, 302, 303, 304, 305, 306, 307, 308, 309] (by decide +kernel) (by decide +kernel)) (goodIn_sub (fun _ h => List.mem_cons_of_mem _ (List.mem_append_left _ (List.mem_append_left _ (List.mem_append_right _ h)))) (by decide +kernel))) (goodIn_sub (fun _ h => List.mem_cons_of_mem _ (List.mem_append_left _ (List.mem_append_right _ h))) (by decide +kernel))) (goodIn_sub (fun _ h => List.mem_cons_of_mem _ (List.mem_append_right _ h)) (by decide +kernel))) (goodIn_sub (fun _ h => List.mem_cons_of_mem _ (List.mem_append_left _ (List.mem_append_left _ (List.mem_append_left _ (List.mem_append_right _ h))))) (by decide +kernel))
set_option maxRecDepth 20000 in
theorem gL_host_X8_host : GoodIn wsL_host (wsV RL 42 RX8 yX8_host wsX8_host) := goodIn_app (goodIn_of _ (by decide +kernel)) ggL_host_X8_host
theorem dL_host_0 : decode cL_host 0 = .ok (.aload_n 2, 1) := by decide +kernel
theorem dL_host_1 : decode cL_host 1 = .ok (.iconst 0, 1) := by decide +kernel
theorem dL_host_2 : decode cL_host 2 = .ok (.aload_n 0, 1) := by decide +kernel
theorem dL_host_3 : decode cL_host 3 = .ok (.iload_n 1, 1) := by decide +kernel
theorem dL_host_4 : decode cL_host 4 = .ok (.invokevirtual 42, 3) := by decide +kernel
theorem dL_host_7 : decode cL_host 7 = .ok (.i2l, 1) := by decide +kernel
theorem dL_host_8 : decode cL_host 8 = .ok (.lastore, 1) := by decide +kernel
theorem dL_host_9 : decode cL_host 9 = .ok (.goto 9, 3) := by decide +kernel
theorem dL_host_12 : decode cL_host 12 = .ok (.astore_n 3, 1) := by decide +kernel
theorem dL_host_13 : decode cL_host 13 = .ok (.iconst 1, 1) := by decide +kernel
theorem dL_host_14 : decode cL_host 14 = .ok (.ireturn, 1) := by decide +kernel
theorem dL_host_15 : decode cL_host 15 = .ok (.astore_n 3, 1) := by decide +kernel
theorem dL_host_16 : decode cL_host 16 = .ok (.iconst 2, 1) := by decide +kernel
theorem dL_host_17 : decode cL_host 17 = .ok (.ireturn, 1) := by decide +kernel
theorem dL_host_18 : decode cL_host 18 = .ok (.iconst 0, 1) := by decide +kernel
theorem dL_host_19 : decode cL_host 19 = .ok (.ireturn, 1) := by decide +kernel
set_option maxRecDepth 20000 in
theorem ggL_napkinOf_X8_napkinOf : GoodIn wsL_napkinOf wsX8_napkinOf := goodIn_ca (goodIn_ca (goodIn_ca (goodIn_r _ [7, 8, 9, 10, 11, 12, 13, 14, 15, 16, 17, 18, 19, 20, 21, 22, 23, 24, 25, 26, 27, 28, 29, 30, 31, 32, 33, 34, 35, 36, 37, 38, 39, 40, 41, 42, 43, 44, 45, 46, 47, 48, 49, 50, 51, 52, 53, 54, 55, 56, 57, 58, 59, 60, 61, 62, 63, 64, 65, 66, 67] (by decide +kernel) (by decide +kernel)) (goodIn_sub (fun _ h => List.mem_cons_of_mem _ (List.mem_append_left _ (List.mem_append_right _ h))) (by decide +kernel))) (goodIn_sub (fun _ h => List.mem_cons_of_mem _ (List.mem_append_right _ h)) (by decide +kernel))) (goodIn_sub (fun _ h => List.mem_cons_of_mem _ (List.mem_append_left _ (List.mem_append_left _ (List.mem_append_right _ h)))) (by decide +kernel))
set_option maxRecDepth 20000 in
theorem gL_napkinOf_X8_napkinOf : GoodIn wsL_napkinOf (wsV RL 45 RX8 yX8_napkinOf wsX8_napkinOf) := goodIn_app (goodIn_of _ (by decide +kernel)) ggL_napkinOf_X8_napkinOf
theorem dL_napkinOf_0 : decode cL_napkinOf 0 = .ok (.aload_n 3, 1) := by decide +kernel
theorem dL_napkinOf_1 : decode cL_napkinOf 1 = .ok (.iconst 0, 1) := by decide +kernel
theorem dL_napkinOf_2 : decode cL_napkinOf 2 = .ok (.aload_n 0, 1) := by decide +kernel
theorem dL_napkinOf_3 : decode cL_napkinOf 3 = .ok (.iload_n 1, 1) := by decide +kernel
theorem dL_napkinOf_4 : decode cL_napkinOf 4 = .ok (.iload_n 2, 1) := by decide +kernel
theorem dL_napkinOf_5 : decode cL_napkinOf 5 = .ok (.invokevirtual 45, 3) := by decide +kernel
theorem dL_napkinOf_8 : decode cL_napkinOf 8 = .ok (.i2l, 1) := by decide +kernel
theorem dL_napkinOf_9 : decode cL_napkinOf 9 = .ok (.lastore, 1) := by decide +kernel
theorem dL_napkinOf_10 : decode cL_napkinOf 10 = .ok (.goto 11, 3) := by decide +kernel
theorem dL_napkinOf_13 : decode cL_napkinOf 13 = .ok (.astore 4, 2) := by decide +kernel
theorem dL_napkinOf_15 : decode cL_napkinOf 15 = .ok (.iconst 1, 1) := by decide +kernel
theorem dL_napkinOf_16 : decode cL_napkinOf 16 = .ok (.ireturn, 1) := by decide +kernel
theorem dL_napkinOf_17 : decode cL_napkinOf 17 = .ok (.astore 4, 2) := by decide +kernel
theorem dL_napkinOf_19 : decode cL_napkinOf 19 = .ok (.iconst 2, 1) := by decide +kernel
theorem dL_napkinOf_20 : decode cL_napkinOf 20 = .ok (.ireturn, 1) := by decide +kernel
theorem dL_napkinOf_21 : decode cL_napkinOf 21 = .ok (.iconst 0, 1) := by decide +kernel
theorem dL_napkinOf_22 : decode cL_napkinOf 22 = .ok (.ireturn, 1) := by decide +kernel
set_option maxRecDepth 20000 in
theorem ggL_tableOf_X8_tableOf : GoodIn wsL_tableOf wsX8_tableOf := goodIn_ca (goodIn_ca (goodIn_ca (goodIn_r _ [7, 8, 9, 10, 11, 12, 13, 6, 14, 15, 16, 17, 18, 19, 20, 21, 22, 23, 24, 25, 26, 27, 28, 29, 30, 31, 32, 33, 34, 35, 36, 37, 38, 39, 40, 41, 42, 43, 44, 45, 46, 47, 48, 49, 50, 51, 52, 53, 54, 55, 56, 57, 58, 59, 60, 61, 62, 63, 64, 65, 66, 67, 68, 69, 70, 71, 72, 73, 74, 75, 76, 77, 78, 79, 80, 81, 82, 83, 84, 85, 86, 87, 88, 89, 90, 91, 92, 93, 94, 95, 96, 97, 98, 99, 100, 101, 102, 103, 104, 105, 106, 107, 108] (by decide +kernel) (by decide +kernel)) (goodIn_sub (fun _ h => List.mem_cons_of_mem _ (List.mem_append_left _ (List.mem_append_right _ h))) (by decide +kernel))) (goodIn_sub (fun _ h => List.mem_cons_of_mem _ (List.mem_append_right _ h)) (by decide +kernel))) (goodIn_sub (fun _ h => List.mem_cons_of_mem _ (List.mem_append_left _ (List.mem_append_left _ (List.mem_append_right _ h)))) (by decide +kernel))
set_option maxRecDepth 20000 in
theorem gL_tableOf_X8_tableOf : GoodIn wsL_tableOf (wsV RL 48 RX8 yX8_tableOf wsX8_tableOf) := goodIn_app (goodIn_of _ (by decide +kernel)) ggL_tableOf_X8_tableOf
theorem dL_tableOf_0 : decode cL_tableOf 0 = .ok (.aload_n 3, 1) := by decide +kernel
theorem dL_tableOf_1 : decode cL_tableOf 1 = .ok (.iconst 0, 1) := by decide +kernel
theorem dL_tableOf_2 : decode cL_tableOf 2 = .ok (.aload_n 0, 1) := by decide +kernel
theorem dL_tableOf_3 : decode cL_tableOf 3 = .ok (.iload_n 1, 1) := by decide +kernel
theorem dL_tableOf_4 : decode cL_tableOf 4 = .ok (.iload_n 2, 1) := by decide +kernel
theorem dL_tableOf_5 : decode cL_tableOf 5 = .ok (.invokevirtual 48, 3) := by decide +kernel
theorem dL_tableOf_8 : decode cL_tableOf 8 = .ok (.i2l, 1) := by decide +kernel
theorem dL_tableOf_9 : decode cL_tableOf 9 = .ok (.lastore, 1) := by decide +kernel
theorem dL_tableOf_10 : decode cL_tableOf 10 = .ok (.goto 11, 3) := by decide +kernel
theorem dL_tableOf_13 : decode cL_tableOf 13 = .ok (.astore 4, 2) := by decide +kernel
theorem dL_tableOf_15 : decode cL_tableOf 15 = .ok (.iconst 1, 1) := by decide +kernel
theorem dL_tableOf_16 : decode cL_tableOf 16 = .ok (.ireturn, 1) := by decide +kernel
theorem dL_tableOf_17 : decode cL_tableOf 17 = .ok (.astore 4, 2) := by decide +kernel
theorem dL_tableOf_19 : decode cL_tableOf 19 = .ok (.iconst 2, 1) := by decide +kernel
theorem dL_tableOf_20 : decode cL_tableOf 20 = .ok (.ireturn, 1) := by decide +kernel
theorem dL_tableOf_21 : decode cL_tableOf 21 = .ok (.iconst 0, 1) := by decide +kernel
theorem dL_tableOf_22 : decode cL_tableOf 22 = .ok (.ireturn, 1) := by decide +kernel
set_option maxRecDepth 20000 in
theorem ggL_seat_X8_seat : GoodIn wsL_seat wsX8_seat := goodIn_ca (goodIn_ca (goodIn_ca (goodIn_r _ [7, 8, 9, 10, 11, 12, 13, 6, 14, 15, 16, 17, 18, 19, 20, 21, 22, 23, 24, 25, 26, 27, 28, 29, 30, 31, 32, 33, 34, 35, 36, 37, 38, 39, 40, 41, 42, 43, 44, 45, 46, 47, 48, 49, 50, 51, 52, 53] (by decide +kernel) (by decide +kernel)) (goodIn_sub (fun _ h => List.mem_cons_of_mem _ (List.mem_append_left _ (List.mem_append_right _ h))) (by decide +kernel))) (goodIn_sub (fun _ h => List.mem_cons_of_mem _ (List.mem_append_right _ h)) (by decide +kernel))) (goodIn_sub (fun _ h => List.mem_cons_of_mem _ (List.mem_append_left _ (List.mem_append_left _ (List.mem_append_right _ h)))) (by decide +kernel))
set_option maxRecDepth 20000 in
theorem gL_seat_X8_seat : GoodIn wsL_seat (wsV RL 51 RX8 yX8_seat wsX8_seat) := goodIn_app (goodIn_of _ (by decide +kernel)) ggL_seat_X8_seat
theorem dL_seat_0 : decode cL_seat 0 = .ok (.aload_n 3, 1) := by decide +kernel
theorem dL_seat_1 : decode cL_seat 1 = .ok (.iconst 0, 1) := by decide +kernel
theorem dL_seat_2 : decode cL_seat 2 = .ok (.aload_n 0, 1) := by decide +kernel
theorem dL_seat_3 : decode cL_seat 3 = .ok (.iload_n 1, 1) := by decide +kernel
theorem dL_seat_4 : decode cL_seat 4 = .ok (.iload_n 2, 1) := by decide +kernel
theorem dL_seat_5 : decode cL_seat 5 = .ok (.invokevirtual 51, 3) := by decide +kernel
theorem dL_seat_8 : decode cL_seat 8 = .ok (.i2l, 1) := by decide +kernel
theorem dL_seat_9 : decode cL_seat 9 = .ok (.lastore, 1) := by decide +kernel
theorem dL_seat_10 : decode cL_seat 10 = .ok (.goto 11, 3) := by decide +kernel
theorem dL_seat_13 : decode cL_seat 13 = .ok (.astore 4, 2) := by decide +kernel
theorem dL_seat_15 : decode cL_seat 15 = .ok (.iconst 1, 1) := by decide +kernel
theorem dL_seat_16 : decode cL_seat 16 = .ok (.ireturn, 1) := by decide +kernel
theorem dL_seat_17 : decode cL_seat 17 = .ok (.astore 4, 2) := by decide +kernel
theorem dL_seat_19 : decode cL_seat 19 = .ok (.iconst 2, 1) := by decide +kernel
theorem dL_seat_20 : decode cL_seat 20 = .ok (.ireturn, 1) := by decide +kernel
theorem dL_seat_21 : decode cL_seat 21 = .ok (.iconst 0, 1) := by decide +kernel
theorem dL_seat_22 : decode cL_seat 22 = .ok (.ireturn, 1) := by decide +kernel
set_option maxRecDepth 20000 in
theorem ggL_said_X8_said : GoodIn wsL_said wsX8_said := goodIn_ca (goodIn_ca (goodIn_ca (goodIn_r _ [7, 8, 9, 10, 11, 12, 6, 13, 14, 15, 16, 17, 18, 19, 20, 21, 22, 23, 24, 25, 26, 27, 28, 29, 30, 31, 32, 33, 34, 35, 36, 37, 38, 39, 40, 41, 42, 43, 44, 45, 46, 47, 48, 49, 50, 51, 52, 53, 54, 55, 56, 57, 58, 59, 60, 61, 62, 63, 64, 65, 66, 67, 68, 69, 70, 71, 72, 73, 74, 75, 76, 77, 78, 79, 80, 81, 82, 83, 84, 85, 86, 87, 88, 89, 90, 91, 92, 93, 94, 95] (by decide +kernel) (by decide +kernel)) (goodIn_sub (fun _ h => List.mem_cons_of_mem _ (List.mem_append_left _ (List.mem_append_right _ h))) (by decide +kernel))) (goodIn_sub (fun _ h => List.mem_cons_of_mem _ (List.mem_append_right _ h)) (by decide +kernel))) (goodIn_sub (fun _ h => List.mem_cons_of_mem _ (List.mem_append_left _ (List.mem_append_left _ (List.mem_append_right _ h)))) (by decide +kernel))
set_option maxRecDepth 20000 in
theorem gL_said_X8_said : GoodIn wsL_said (wsV RL 56 RX8 yX8_said wsX8_said) := goodIn_app (goodIn_of _ (by decide +kernel)) ggL_said_X8_said
theorem dL_said_0 : decode cL_said 0 = .ok (.aload_n 3, 1) := by decide +kernel
theorem dL_said_1 : decode cL_said 1 = .ok (.iconst 0, 1) := by decide +kernel
theorem dL_said_2 : decode cL_said 2 = .ok (.aload_n 0, 1) := by decide +kernel
theorem dL_said_3 : decode cL_said 3 = .ok (.iload_n 1, 1) := by decide +kernel
theorem dL_said_4 : decode cL_said 4 = .ok (.iload_n 2, 1) := by decide +kernel
theorem dL_said_5 : decode cL_said 5 = .ok (.invokevirtual 56, 3) := by decide +kernel
theorem dL_said_8 : decode cL_said 8 = .ok (.i2l, 1) := by decide +kernel
theorem dL_said_9 : decode cL_said 9 = .ok (.lastore, 1) := by decide +kernel
theorem dL_said_10 : decode cL_said 10 = .ok (.goto 11, 3) := by decide +kernel
theorem dL_said_13 : decode cL_said 13 = .ok (.astore 4, 2) := by decide +kernel
theorem dL_said_15 : decode cL_said 15 = .ok (.iconst 1, 1) := by decide +kernel
theorem dL_said_16 : decode cL_said 16 = .ok (.ireturn, 1) := by decide +kernel
theorem dL_said_17 : decode cL_said 17 = .ok (.astore 4, 2) := by decide +kernel
theorem dL_said_19 : decode cL_said 19 = .ok (.iconst 2, 1) := by decide +kernel
theorem dL_said_20 : decode cL_said 20 = .ok (.ireturn, 1) := by decide +kernel
theorem dL_said_21 : decode cL_said 21 = .ok (.iconst 0, 1) := by decide +kernel
theorem dL_said_22 : decode cL_said 22 = .ok (.ireturn, 1) := by decide +kernel
set_option maxRecDepth 20000 in
theorem ggL_wrong_X8_wrong : GoodIn wsL_wrong wsX8_wrong := goodIn_ca (goodIn_ca (goodIn_r _ [6, 7, 8, 9, 5, 10, 11, 12, 13, 14, 15, 16, 17, 18, 19, 20, 21, 22, 23, 24, 25, 26, 27, 28, 29, 30, 31, 32, 33, 34, 35, 36, 37, 38, 39, 40, 41, 42, 43, 44, 45, 46, 47, 48, 49, 50, 51, 52, 53, 54, 55, 56, 57, 58, 59, 60, 61, 62, 63, 64, 65, 66, 67, 68, 69, 70, 71, 72, 73, 74, 75, 76, 77, 78, 79, 80, 81, 82, 83, 84, 85, 86, 87, 88, 89, 90, 91, 92, 93, 94, 95, 96, 97, 98] (by decide +kernel) (by decide +kernel)) (goodIn_sub (fun _ h => List.mem_cons_of_mem _ (List.mem_append_right _ h)) (by decide +kernel))) (goodIn_sub (fun _ h => List.mem_cons_of_mem _ (List.mem_append_left _ (List.mem_append_right _ h))) (by decide +kernel))
set_option maxRecDepth 20000 in
theorem gL_wrong_X8_wrong : GoodIn wsL_wrong (wsV RL 59 RX8 yX8_wrong wsX8_wrong) := goodIn_app (goodIn_of _ (by decide +kernel)) ggL_wrong_X8_wrong
theorem dL_wrong_0 : decode cL_wrong 0 = .ok (.aload_n 2, 1) := by decide +kernel
theorem dL_wrong_1 : decode cL_wrong 1 = .ok (.iconst 0, 1) := by decide +kernel
theorem dL_wrong_2 : decode cL_wrong 2 = .ok (.aload_n 0, 1) := by decide +kernel
theorem dL_wrong_3 : decode cL_wrong 3 = .ok (.iload_n 1, 1) := by decide +kernel
theorem dL_wrong_4 : decode cL_wrong 4 = .ok (.invokevirtual 59, 3) := by decide +kernel
theorem dL_wrong_7 : decode cL_wrong 7 = .ok (.i2l, 1) := by decide +kernel
theorem dL_wrong_8 : decode cL_wrong 8 = .ok (.lastore, 1) := by decide +kernel
theorem dL_wrong_9 : decode cL_wrong 9 = .ok (.goto 6, 3) := by decide +kernel
theorem dL_wrong_12 : decode cL_wrong 12 = .ok (.astore_n 3, 1) := by decide +kernel
theorem dL_wrong_13 : decode cL_wrong 13 = .ok (.iconst 1, 1) := by decide +kernel
theorem dL_wrong_14 : decode cL_wrong 14 = .ok (.ireturn, 1) := by decide +kernel
theorem dL_wrong_15 : decode cL_wrong 15 = .ok (.iconst 0, 1) := by decide +kernel
theorem dL_wrong_16 : decode cL_wrong 16 = .ok (.ireturn, 1) := by decide +kernel
set_option maxRecDepth 20000 in
theorem ggL_wrongAgain_X8_wrongAgain : GoodIn wsL_wrongAgain wsX8_wrongAgain := goodIn_ca (goodIn_ca (goodIn_r _ [6, 7, 8, 9, 5, 10, 11, 12, 13, 14, 15, 16, 17, 18, 19, 20, 21, 22, 23, 24, 25, 26, 27, 28, 29, 30, 31, 32, 33, 34, 35, 36, 37, 38, 39, 40, 41, 42, 43, 44, 45, 46, 47, 48, 49, 50, 51, 52, 53, 54, 55, 56, 57, 58, 59, 60, 61, 62, 63, 64, 65, 66, 67, 68, 69, 70, 71, 72, 73, 74, 75, 76, 77, 78, 79, 80, 81, 82, 83, 84, 85, 86, 87, 88, 89, 90, 91, 92, 93, 94, 95, 96, 97, 98, 99, 100, 101, 102, 103, 104] (by decide +kernel) (by decide +kernel)) (goodIn_sub (fun _ h => List.mem_cons_of_mem _ (List.mem_append_right _ h)) (by decide +kernel))) (goodIn_sub (fun _ h => List.mem_cons_of_mem _ (List.mem_append_left _ (List.mem_append_right _ h))) (by decide +kernel))
set_option maxRecDepth 20000 in
theorem gL_wrongAgain_X8_wrongAgain : GoodIn wsL_wrongAgain (wsV RL 62 RX8 yX8_wrongAgain wsX8_wrongAgain) := goodIn_app (goodIn_of _ (by decide +kernel)) ggL_wrongAgain_X8_wrongAgain
theorem dL_wrongAgain_0 : decode cL_wrongAgain 0 = .ok (.aload_n 2, 1) := by decide +kernel
theorem dL_wrongAgain_1 : decode cL_wrongAgain 1 = .ok (.iconst 0, 1) := by decide +kernel
theorem dL_wrongAgain_2 : decode cL_wrongAgain 2 = .ok (.aload_n 0, 1) := by decide +kernel
theorem dL_wrongAgain_3 : decode cL_wrongAgain 3 = .ok (.iload_n 1, 1) := by decide +kernel
theorem dL_wrongAgain_4 : decode cL_wrongAgain 4 = .ok (.invokevirtual 62, 3) := by decide +kernel
theorem dL_wrongAgain_7 : decode cL_wrongAgain 7 = .ok (.i2l, 1) := by decide +kernel
theorem dL_wrongAgain_8 : decode cL_wrongAgain 8 = .ok (.lastore, 1) := by decide +kernel
theorem dL_wrongAgain_9 : decode cL_wrongAgain 9 = .ok (.goto 6, 3) := by decide +kernel
theorem dL_wrongAgain_12 : decode cL_wrongAgain 12 = .ok (.astore_n 3, 1) := by decide +kernel
theorem dL_wrongAgain_13 : decode cL_wrongAgain 13 = .ok (.iconst 1, 1) := by decide +kernel
theorem dL_wrongAgain_14 : decode cL_wrongAgain 14 = .ok (.ireturn, 1) := by decide +kernel
theorem dL_wrongAgain_15 : decode cL_wrongAgain 15 = .ok (.iconst 0, 1) := by decide +kernel
theorem dL_wrongAgain_16 : decode cL_wrongAgain 16 = .ok (.ireturn, 1) := by decide +kernel
set_option maxRecDepth 20000 in
theorem ggL_isRight_X8_isRight : GoodIn wsL_isRight wsX8_isRight := goodIn_ca (goodIn_ca (goodIn_r _ [6, 7, 8, 9, 5, 10, 11, 12, 13, 14, 15, 16, 17, 18, 19, 20, 21, 22, 23, 24, 25, 26, 27, 28, 29, 30, 31, 32, 33, 34, 35, 36, 37, 38, 39, 40, 41, 42, 43, 44, 45, 46, 47, 48, 49, 50, 51, 52, 53, 54, 55, 56, 57, 58, 59, 60, 61, 62, 63, 64, 65, 66, 67, 68, 69, 70, 71, 72, 73, 74, 75, 76, 77, 78, 79, 80, 81, 82, 83, 84, 85, 86, 87, 88, 89, 90, 91, 92, 93, 94, 95, 96, 97, 98, 99, 100, 101, 102] (by decide +kernel) (by decide +kernel)) (goodIn_sub (fun _ h => List.mem_cons_of_mem _ (List.mem_append_right _ h)) (by decide +kernel))) (goodIn_sub (fun _ h => List.mem_cons_of_mem _ (List.mem_append_left _ (List.mem_append_right _ h))) (by decide +kernel))
set_option maxRecDepth 20000 in
theorem gL_isRight_X8_isRight : GoodIn wsL_isRight (wsV RL 65 RX8 yX8_isRight wsX8_isRight) := goodIn_app (goodIn_of _ (by decide +kernel)) ggL_isRight_X8_isRight
theorem dL_isRight_0 : decode cL_isRight 0 = .ok (.aload_n 2, 1) := by decide +kernel
theorem dL_isRight_1 : decode cL_isRight 1 = .ok (.iconst 0, 1) := by decide +kernel
theorem dL_isRight_2 : decode cL_isRight 2 = .ok (.aload_n 0, 1) := by decide +kernel
theorem dL_isRight_3 : decode cL_isRight 3 = .ok (.iload_n 1, 1) := by decide +kernel
theorem dL_isRight_4 : decode cL_isRight 4 = .ok (.invokevirtual 65, 3) := by decide +kernel
theorem dL_isRight_7 : decode cL_isRight 7 = .ok (.ifCond .eq 7, 3) := by decide +kernel
theorem dL_isRight_10 : decode cL_isRight 10 = .ok (.lconst 1, 1) := by decide +kernel
theorem dL_isRight_11 : decode cL_isRight 11 = .ok (.goto 4, 3) := by decide +kernel
theorem dL_isRight_14 : decode cL_isRight 14 = .ok (.lconst 0, 1) := by decide +kernel
theorem dL_isRight_15 : decode cL_isRight 15 = .ok (.lastore, 1) := by decide +kernel
theorem dL_isRight_16 : decode cL_isRight 16 = .ok (.goto 6, 3) := by decide +kernel
theorem dL_isRight_19 : decode cL_isRight 19 = .ok (.astore_n 3, 1) := by decide +kernel
theorem dL_isRight_20 : decode cL_isRight 20 = .ok (.iconst 1, 1) := by decide +kernel
theorem dL_isRight_21 : decode cL_isRight 21 = .ok (.ireturn, 1) := by decide +kernel
theorem dL_isRight_22 : decode cL_isRight 22 = .ok (.iconst 0, 1) := by decide +kernel
theorem dL_isRight_23 : decode cL_isRight 23 = .ok (.ireturn, 1) := by decide +kernel
set_option maxRecDepth 20000 in
theorem ggL_phrases_X8_phrases : GoodIn wsL_phrases wsX8_phrases := goodIn_ca (goodIn_ca (goodIn_r _ [6, 7, 8, 9, 5, 10, 11, 12, 13, 14, 15, 16, 17, 18, 19, 20, 21, 22, 23, 24, 25, 26, 27, 28, 29, 30, 31, 32, 33, 34, 35, 36, 37, 38, 39, 40, 41, 42, 43, 44, 45, 46, 47, 48, 49, 50, 51, 52, 53, 54, 55, 56, 57, 58, 59, 60, 61, 62, 63, 64, 65, 66, 67, 68, 69, 70, 71, 72, 73, 74, 75, 76, 77, 78, 79, 80, 81, 82, 83, 84, 85, 86, 87, 88, 89, 90, 91, 92, 93, 94, 95, 96, 97, 98, 99, 100, 101, 102, 103, 104, 105, 106] (by decide +kernel) (by decide +kernel)) (goodIn_sub (fun _ h => List.mem_cons_of_mem _ (List.mem_append_right _ h)) (by decide +kernel))) (goodIn_sub (fun _ h => List.mem_cons_of_mem _ (List.mem_append_left _ (List.mem_append_right _ h))) (by decide +kernel))
set_option maxRecDepth 20000 in
theorem gL_phrases_X8_phrases : GoodIn wsL_phrases (wsV RL 69 RX8 yX8_phrases wsX8_phrases) := goodIn_app (goodIn_of _ (by decide +kernel)) ggL_phrases_X8_phrases
theorem dL_phrases_0 : decode cL_phrases 0 = .ok (.aload_n 2, 1) := by decide +kernel
theorem dL_phrases_1 : decode cL_phrases 1 = .ok (.iconst 0, 1) := by decide +kernel
theorem dL_phrases_2 : decode cL_phrases 2 = .ok (.aload_n 0, 1) := by decide +kernel
theorem dL_phrases_3 : decode cL_phrases 3 = .ok (.iload_n 1, 1) := by decide +kernel
theorem dL_phrases_4 : decode cL_phrases 4 = .ok (.invokevirtual 69, 3) := by decide +kernel
theorem dL_phrases_7 : decode cL_phrases 7 = .ok (.i2l, 1) := by decide +kernel
theorem dL_phrases_8 : decode cL_phrases 8 = .ok (.lastore, 1) := by decide +kernel
theorem dL_phrases_9 : decode cL_phrases 9 = .ok (.goto 6, 3) := by decide +kernel
theorem dL_phrases_12 : decode cL_phrases 12 = .ok (.astore_n 3, 1) := by decide +kernel
theorem dL_phrases_13 : decode cL_phrases 13 = .ok (.iconst 1, 1) := by decide +kernel
theorem dL_phrases_14 : decode cL_phrases 14 = .ok (.ireturn, 1) := by decide +kernel
theorem dL_phrases_15 : decode cL_phrases 15 = .ok (.iconst 0, 1) := by decide +kernel
theorem dL_phrases_16 : decode cL_phrases 16 = .ok (.ireturn, 1) := by decide +kernel
set_option maxRecDepth 20000 in
theorem ggL_phraseOf_X8_phraseOf : GoodIn wsL_phraseOf wsX8_phraseOf := goodIn_ca (goodIn_ca (goodIn_ca (goodIn_ca (goodIn_r _ [8, 9, 10, 11, 12, 13, 14, 15, 7, 16, 17, 18, 19, 20, 21, 22, 23, 24, 25, 26, 27, 28, 29, 30, 31, 32, 33, 34, 35, 36, 37, 38, 39, 40, 41, 42, 43, 44, 45, 46, 47, 48, 49, 50, 51, 52, 53, 54, 55, 56, 57, 58, 59, 60, 61, 62, 63, 64, 65, 66, 67, 68, 69, 70, 71, 72, 73, 74, 75, 76, 77, 78, 79, 80, 81, 82, 83, 84, 85, 86, 87, 88, 89, 90, 91, 92, 93, 94, 95, 96, 97, 98, 99, 100, 101, 102, 103, 104, 105, 106, 107, 108, 109, 110, 111, 112, 113, 114, 115, 116, 117, 118, 119, 120, 121, 122, 123, 124, 125, 126, 127, 128, 129, 130, 131, 132, 133, 134, 135, 136, 137, 138, 139, 140, 141, 142, 143, 144] (by decide +kernel) (by decide +kernel)) (goodIn_sub (fun _ h => List.mem_cons_of_mem _ (List.mem_append_left _ (List.mem_append_left _ (List.mem_append_right _ h)))) (by decide +kernel))) (goodIn_sub (fun _ h => List.mem_cons_of_mem _ (List.mem_append_left _ (List.mem_append_right _ h))) (by decide +kernel))) (goodIn_sub (fun _ h => List.mem_cons_of_mem _ (List.mem_append_right _ h)) (by decide +kernel))) (goodIn_sub (fun _ h => List.mem_cons_of_mem _ (List.mem_append_left _ (List.mem_append_left _ (List.mem_append_left _ (List.mem_append_right _ h))))) (by decide +kernel))
set_option maxRecDepth 20000 in
theorem gL_phraseOf_X8_phraseOf : GoodIn wsL_phraseOf (wsV RL 72 RX8 yX8_phraseOf wsX8_phraseOf) := goodIn_app (goodIn_of _ (by decide +kernel)) ggL_phraseOf_X8_phraseOf
theorem dL_phraseOf_0 : decode cL_phraseOf 0 = .ok (.aload 4, 2) := by decide +kernel
theorem dL_phraseOf_2 : decode cL_phraseOf 2 = .ok (.iconst 0, 1) := by decide +kernel
theorem dL_phraseOf_3 : decode cL_phraseOf 3 = .ok (.aload_n 0, 1) := by decide +kernel
theorem dL_phraseOf_4 : decode cL_phraseOf 4 = .ok (.iload_n 1, 1) := by decide +kernel
theorem dL_phraseOf_5 : decode cL_phraseOf 5 = .ok (.iload_n 2, 1) := by decide +kernel
theorem dL_phraseOf_6 : decode cL_phraseOf 6 = .ok (.iload_n 3, 1) := by decide +kernel
theorem dL_phraseOf_7 : decode cL_phraseOf 7 = .ok (.invokevirtual 72, 3) := by decide +kernel
theorem dL_phraseOf_10 : decode cL_phraseOf 10 = .ok (.i2l, 1) := by decide +kernel
theorem dL_phraseOf_11 : decode cL_phraseOf 11 = .ok (.lastore, 1) := by decide +kernel
theorem dL_phraseOf_12 : decode cL_phraseOf 12 = .ok (.goto 15, 3) := by decide +kernel
theorem dL_phraseOf_15 : decode cL_phraseOf 15 = .ok (.astore 5, 2) := by decide +kernel
theorem dL_phraseOf_17 : decode cL_phraseOf 17 = .ok (.iconst 1, 1) := by decide +kernel
theorem dL_phraseOf_18 : decode cL_phraseOf 18 = .ok (.ireturn, 1) := by decide +kernel
theorem dL_phraseOf_19 : decode cL_phraseOf 19 = .ok (.astore 5, 2) := by decide +kernel
theorem dL_phraseOf_21 : decode cL_phraseOf 21 = .ok (.iconst 2, 1) := by decide +kernel
theorem dL_phraseOf_22 : decode cL_phraseOf 22 = .ok (.ireturn, 1) := by decide +kernel
theorem dL_phraseOf_23 : decode cL_phraseOf 23 = .ok (.astore 5, 2) := by decide +kernel
theorem dL_phraseOf_25 : decode cL_phraseOf 25 = .ok (.iconst 3, 1) := by decide +kernel
theorem dL_phraseOf_26 : decode cL_phraseOf 26 = .ok (.ireturn, 1) := by decide +kernel
theorem dL_phraseOf_27 : decode cL_phraseOf 27 = .ok (.iconst 0, 1) := by decide +kernel
theorem dL_phraseOf_28 : decode cL_phraseOf 28 = .ok (.ireturn, 1) := by decide +kernel
set_option maxRecDepth 20000 in
theorem ggL_next_X8_next : GoodIn wsL_next wsX8_next := goodIn_ca (goodIn_ca (goodIn_r _ [6, 7, 8, 9, 5, 10, 11, 12, 13, 14, 15, 16, 17, 18, 19, 20, 21, 22, 23, 24, 25, 26, 27, 28, 29, 30, 31, 32, 33, 34, 35, 36, 37, 38, 39, 40, 41, 42, 43, 44, 45, 46, 47, 48, 49, 50, 51, 52, 53, 54, 55, 56, 57, 58, 59, 60, 61, 62, 63, 64, 65, 66, 67, 68, 69, 70, 71, 72, 73, 74, 75, 76, 77, 78, 79, 80, 81, 82, 83, 84, 85, 86, 87, 88, 89, 90, 91, 92, 93, 94, 95, 96, 97, 98, 99] (by decide +kernel) (by decide +kernel)) (goodIn_sub (fun _ h => List.mem_cons_of_mem _ (List.mem_append_right _ h)) (by decide +kernel))) (goodIn_sub (fun _ h => List.mem_cons_of_mem _ (List.mem_append_left _ (List.mem_append_right _ h))) (by decide +kernel))
set_option maxRecDepth 20000 in
theorem gL_next_X8_next : GoodIn wsL_next (wsV RL 75 RX8 yX8_next wsX8_next) := goodIn_app (goodIn_of _ (by decide +kernel)) ggL_next_X8_next
theorem dL_next_0 : decode cL_next 0 = .ok (.aload_n 2, 1) := by decide +kernel
theorem dL_next_1 : decode cL_next 1 = .ok (.iconst 0, 1) := by decide +kernel
theorem dL_next_2 : decode cL_next 2 = .ok (.aload_n 0, 1) := by decide +kernel
theorem dL_next_3 : decode cL_next 3 = .ok (.iload_n 1, 1) := by decide +kernel
theorem dL_next_4 : decode cL_next 4 = .ok (.invokevirtual 75, 3) := by decide +kernel
theorem dL_next_7 : decode cL_next 7 = .ok (.i2l, 1) := by decide +kernel
theorem dL_next_8 : decode cL_next 8 = .ok (.lastore, 1) := by decide +kernel
theorem dL_next_9 : decode cL_next 9 = .ok (.goto 6, 3) := by decide +kernel
theorem dL_next_12 : decode cL_next 12 = .ok (.astore_n 3, 1) := by decide +kernel
theorem dL_next_13 : decode cL_next 13 = .ok (.iconst 1, 1) := by decide +kernel
theorem dL_next_14 : decode cL_next 14 = .ok (.ireturn, 1) := by decide +kernel
theorem dL_next_15 : decode cL_next 15 = .ok (.iconst 0, 1) := by decide +kernel
theorem dL_next_16 : decode cL_next 16 = .ok (.ireturn, 1) := by decide +kernel
set_option maxRecDepth 20000 in
theorem ggL_fewest_X8_fewest : GoodIn wsL_fewest wsX8_fewest := goodIn_ca (goodIn_ca (goodIn_ca (goodIn_r _ [7, 8, 9, 10, 11, 12, 6, 13, 14, 15, 16, 17, 18, 19, 20, 21, 22, 23, 24, 25, 26, 27, 28, 29, 30, 31, 32, 33, 34, 35, 36, 37, 38, 39, 40, 41, 42, 43, 44, 45, 46, 47, 48, 49, 50, 51, 52, 53, 54, 55, 56, 57, 58, 59, 60, 61, 62, 63, 64, 65, 66, 67, 68, 69, 70, 71, 72, 73, 74, 75, 76, 77, 78, 79, 80, 81, 82, 83, 84, 85, 86, 87, 88, 89, 90, 91, 92, 93, 94, 95, 96, 97, 98, 99, 100, 101, 102, 103, 104, 105, 106, 107, 108, 109, 110, 111, 112] (by decide +kernel) (by decide +kernel)) (goodIn_sub (fun _ h => List.mem_cons_of_mem _ (List.mem_append_left _ (List.mem_append_right _ h))) (by decide +kernel))) (goodIn_sub (fun _ h => List.mem_cons_of_mem _ (List.mem_append_right _ h)) (by decide +kernel))) (goodIn_sub (fun _ h => List.mem_cons_of_mem _ (List.mem_append_left _ (List.mem_append_left _ (List.mem_append_right _ h)))) (by decide +kernel))
set_option maxRecDepth 20000 in
theorem gL_fewest_X8_fewest : GoodIn wsL_fewest (wsV RL 78 RX8 yX8_fewest wsX8_fewest) := goodIn_app (goodIn_of _ (by decide +kernel)) ggL_fewest_X8_fewest
theorem dL_fewest_0 : decode cL_fewest 0 = .ok (.aload_n 2, 1) := by decide +kernel
theorem dL_fewest_1 : decode cL_fewest 1 = .ok (.iconst 0, 1) := by decide +kernel
theorem dL_fewest_2 : decode cL_fewest 2 = .ok (.aload_n 0, 1) := by decide +kernel
theorem dL_fewest_3 : decode cL_fewest 3 = .ok (.iload_n 1, 1) := by decide +kernel
theorem dL_fewest_4 : decode cL_fewest 4 = .ok (.invokevirtual 78, 3) := by decide +kernel
theorem dL_fewest_7 : decode cL_fewest 7 = .ok (.i2l, 1) := by decide +kernel
theorem dL_fewest_8 : decode cL_fewest 8 = .ok (.lastore, 1) := by decide +kernel
theorem dL_fewest_9 : decode cL_fewest 9 = .ok (.goto 9, 3) := by decide +kernel
theorem dL_fewest_12 : decode cL_fewest 12 = .ok (.astore_n 3, 1) := by decide +kernel
theorem dL_fewest_13 : decode cL_fewest 13 = .ok (.iconst 1, 1) := by decide +kernel
theorem dL_fewest_14 : decode cL_fewest 14 = .ok (.ireturn, 1) := by decide +kernel
theorem dL_fewest_15 : decode cL_fewest 15 = .ok (.astore_n 3, 1) := by decide +kernel
theorem dL_fewest_16 : decode cL_fewest 16 = .ok (.iconst 2, 1) := by decide +kernel
theorem dL_fewest_17 : decode cL_fewest 17 = .ok (.ireturn, 1) := by decide +kernel
theorem dL_fewest_18 : decode cL_fewest 18 = .ok (.iconst 0, 1) := by decide +kernel
theorem dL_fewest_19 : decode cL_fewest 19 = .ok (.ireturn, 1) := by decide +kernel
set_option maxRecDepth 20000 in
theorem ggL_fewestAgain_X8_fewestAgain : GoodIn wsL_fewestAgain wsX8_fewestAgain := goodIn_ca (goodIn_ca (goodIn_ca (goodIn_r _ [7, 8, 9, 10, 11, 12, 6, 13, 14, 15, 16, 17, 18, 19, 20, 21, 22, 23, 24, 25, 26, 27, 28, 29, 30, 31, 32, 33, 34, 35, 36, 37, 38, 39, 40, 41, 42, 43, 44, 45, 46, 47, 48, 49, 50, 51, 52, 53, 54, 55, 56, 57, 58, 59, 60, 61, 62, 63, 64, 65, 66, 67, 68, 69, 70, 71, 72, 73, 74, 75, 76, 77, 78, 79, 80, 81, 82, 83, 84, 85, 86, 87, 88, 89, 90, 91, 92, 93, 94, 95, 96, 97, 98, 99, 100, 101, 102, 103, 104, 105, 106, 107, 108, 109, 110, 111, 112] (by decide +kernel) (by decide +kernel)) (goodIn_sub (fun _ h => List.mem_cons_of_mem _ (List.mem_append_left _ (List.mem_append_right _ h))) (by decide +kernel))) (goodIn_sub (fun _ h => List.mem_cons_of_mem _ (List.mem_append_right _ h)) (by decide +kernel))) (goodIn_sub (fun _ h => List.mem_cons_of_mem _ (List.mem_append_left _ (List.mem_append_left _ (List.mem_append_right _ h)))) (by decide +kernel))
set_option maxRecDepth 20000 in
theorem gL_fewestAgain_X8_fewestAgain : GoodIn wsL_fewestAgain (wsV RL 81 RX8 yX8_fewestAgain wsX8_fewestAgain) := goodIn_app (goodIn_of _ (by decide +kernel)) ggL_fewestAgain_X8_fewestAgain
theorem dL_fewestAgain_0 : decode cL_fewestAgain 0 = .ok (.aload_n 2, 1) := by decide +kernel
theorem dL_fewestAgain_1 : decode cL_fewestAgain 1 = .ok (.iconst 0, 1) := by decide +kernel
theorem dL_fewestAgain_2 : decode cL_fewestAgain 2 = .ok (.aload_n 0, 1) := by decide +kernel
theorem dL_fewestAgain_3 : decode cL_fewestAgain 3 = .ok (.iload_n 1, 1) := by decide +kernel
theorem dL_fewestAgain_4 : decode cL_fewestAgain 4 = .ok (.invokevirtual 81, 3) := by decide +kernel
theorem dL_fewestAgain_7 : decode cL_fewestAgain 7 = .ok (.i2l, 1) := by decide +kernel
theorem dL_fewestAgain_8 : decode cL_fewestAgain 8 = .ok (.lastore, 1) := by decide +kernel
theorem dL_fewestAgain_9 : decode cL_fewestAgain 9 = .ok (.goto 9, 3) := by decide +kernel
theorem dL_fewestAgain_12 : decode cL_fewestAgain 12 = .ok (.astore_n 3, 1) := by decide +kernel
theorem dL_fewestAgain_13 : decode cL_fewestAgain 13 = .ok (.iconst 1, 1) := by decide +kernel
theorem dL_fewestAgain_14 : decode cL_fewestAgain 14 = .ok (.ireturn, 1) := by decide +kernel
theorem dL_fewestAgain_15 : decode cL_fewestAgain 15 = .ok (.astore_n 3, 1) := by decide +kernel
theorem dL_fewestAgain_16 : decode cL_fewestAgain 16 = .ok (.iconst 2, 1) := by decide +kernel
theorem dL_fewestAgain_17 : decode cL_fewestAgain 17 = .ok (.ireturn, 1) := by decide +kernel
theorem dL_fewestAgain_18 : decode cL_fewestAgain 18 = .ok (.iconst 0, 1) := by decide +kernel
theorem dL_fewestAgain_19 : decode cL_fewestAgain 19 = .ok (.ireturn, 1) := by decide +kernel
set_option maxRecDepth 20000 in
theorem ggL_doubt_X8_doubt : GoodIn wsL_doubt wsX8_doubt := goodIn_ca (goodIn_ca (goodIn_r _ [6, 7, 8, 9, 5, 10, 11, 12, 13, 14, 15, 16, 17, 18, 19, 20, 21, 22, 23, 24, 25, 26, 27, 28, 29, 30, 31, 32, 33, 34, 35, 36, 37, 38, 39, 40, 41, 42, 43, 44, 45, 46, 47, 48, 49, 50, 51, 52, 53, 54, 55, 56, 57, 58, 59, 60, 61, 62, 63, 64, 65, 66, 67, 68, 69, 70, 71, 72, 73, 74, 75, 76, 77, 78, 79, 80, 81, 82, 83, 84, 85, 86, 87, 88, 89, 90, 91, 92, 93, 94, 95, 96] (by decide +kernel) (by decide +kernel)) (goodIn_sub (fun _ h => List.mem_cons_of_mem _ (List.mem_append_right _ h)) (by decide +kernel))) (goodIn_sub (fun _ h => List.mem_cons_of_mem _ (List.mem_append_left _ (List.mem_append_right _ h))) (by decide +kernel))
set_option maxRecDepth 20000 in
theorem gL_doubt_X8_doubt : GoodIn wsL_doubt (wsV RL 84 RX8 yX8_doubt wsX8_doubt) := goodIn_app (goodIn_of _ (by decide +kernel)) ggL_doubt_X8_doubt
theorem dL_doubt_0 : decode cL_doubt 0 = .ok (.aload_n 2, 1) := by decide +kernel
theorem dL_doubt_1 : decode cL_doubt 1 = .ok (.iconst 0, 1) := by decide +kernel
theorem dL_doubt_2 : decode cL_doubt 2 = .ok (.aload_n 0, 1) := by decide +kernel
theorem dL_doubt_3 : decode cL_doubt 3 = .ok (.iload_n 1, 1) := by decide +kernel
theorem dL_doubt_4 : decode cL_doubt 4 = .ok (.invokevirtual 84, 3) := by decide +kernel
theorem dL_doubt_7 : decode cL_doubt 7 = .ok (.i2l, 1) := by decide +kernel
theorem dL_doubt_8 : decode cL_doubt 8 = .ok (.lastore, 1) := by decide +kernel
theorem dL_doubt_9 : decode cL_doubt 9 = .ok (.goto 6, 3) := by decide +kernel
theorem dL_doubt_12 : decode cL_doubt 12 = .ok (.astore_n 3, 1) := by decide +kernel
theorem dL_doubt_13 : decode cL_doubt 13 = .ok (.iconst 1, 1) := by decide +kernel
theorem dL_doubt_14 : decode cL_doubt 14 = .ok (.ireturn, 1) := by decide +kernel
theorem dL_doubt_15 : decode cL_doubt 15 = .ok (.iconst 0, 1) := by decide +kernel
theorem dL_doubt_16 : decode cL_doubt 16 = .ok (.ireturn, 1) := by decide +kernel
set_option maxRecDepth 20000 in
theorem ggL_doubtAgain_X8_doubtAgain : GoodIn wsL_doubtAgain wsX8_doubtAgain := goodIn_ca (goodIn_ca (goodIn_r _ [6, 7, 8, 9, 5, 10, 11, 12, 13, 14, 15, 16, 17, 18, 19, 20, 21, 22, 23, 24, 25, 26, 27, 28, 29, 30, 31, 32, 33, 34, 35, 36, 37, 38, 39, 40, 41, 42, 43, 44, 45, 46, 47, 48, 49, 50, 51, 52, 53, 54, 55, 56, 57, 58, 59, 60, 61, 62, 63, 64, 65, 66, 67, 68, 69, 70, 71, 72, 73, 74, 75, 76, 77, 78, 79, 80, 81, 82, 83, 84, 85, 86, 87, 88, 89, 90, 91, 92, 93, 94, 95, 96, 97, 98, 99, 100, 101, 102, 103, 104] (by decide +kernel) (by decide +kernel)) (goodIn_sub (fun _ h => List.mem_cons_of_mem _ (List.mem_append_right _ h)) (by decide +kernel))) (goodIn_sub (fun _ h => List.mem_cons_of_mem _ (List.mem_append_left _ (List.mem_append_right _ h))) (by decide +kernel))
set_option maxRecDepth 20000 in
theorem gL_doubtAgain_X8_doubtAgain : GoodIn wsL_doubtAgain (wsV RL 87 RX8 yX8_doubtAgain wsX8_doubtAgain) := goodIn_app (goodIn_of _ (by decide +kernel)) ggL_doubtAgain_X8_doubtAgain
theorem dL_doubtAgain_0 : decode cL_doubtAgain 0 = .ok (.aload_n 2, 1) := by decide +kernel
theorem dL_doubtAgain_1 : decode cL_doubtAgain 1 = .ok (.iconst 0, 1) := by decide +kernel
theorem dL_doubtAgain_2 : decode cL_doubtAgain 2 = .ok (.aload_n 0, 1) := by decide +kernel
theorem dL_doubtAgain_3 : decode cL_doubtAgain 3 = .ok (.iload_n 1, 1) := by decide +kernel
theorem dL_doubtAgain_4 : decode cL_doubtAgain 4 = .ok (.invokevirtual 87, 3) := by decide +kernel
theorem dL_doubtAgain_7 : decode cL_doubtAgain 7 = .ok (.i2l, 1) := by decide +kernel
theorem dL_doubtAgain_8 : decode cL_doubtAgain 8 = .ok (.lastore, 1) := by decide +kernel
theorem dL_doubtAgain_9 : decode cL_doubtAgain 9 = .ok (.goto 6, 3) := by decide +kernel
theorem dL_doubtAgain_12 : decode cL_doubtAgain 12 = .ok (.astore_n 3, 1) := by decide +kernel
theorem dL_doubtAgain_13 : decode cL_doubtAgain 13 = .ok (.iconst 1, 1) := by decide +kernel
theorem dL_doubtAgain_14 : decode cL_doubtAgain 14 = .ok (.ireturn, 1) := by decide +kernel
theorem dL_doubtAgain_15 : decode cL_doubtAgain 15 = .ok (.iconst 0, 1) := by decide +kernel
theorem dL_doubtAgain_16 : decode cL_doubtAgain 16 = .ok (.ireturn, 1) := by decide +kernel
set_option maxRecDepth 20000 in
theorem ggL_sure_X8_sure : GoodIn wsL_sure wsX8_sure := goodIn_ca (goodIn_ca (goodIn_ca (goodIn_r _ [7, 8, 9, 10, 11, 12, 13, 14, 6, 15, 16, 17, 18, 19, 20, 21, 22, 23, 24, 25, 26, 27, 28, 29, 30, 31, 32, 33, 34, 35, 36, 37, 38, 39, 40, 41, 42, 43, 44, 45, 46, 47, 48, 49, 50, 51, 52, 53, 54, 55, 56, 57, 58, 59, 60, 61, 62, 63, 64, 65, 66, 67, 68, 69, 70, 71, 72, 73, 74, 75, 76, 77, 78, 79, 80, 81, 82, 83, 84, 85, 86, 87, 88, 89, 90, 91, 92, 93, 94, 95, 96, 97, 98, 99, 100, 101, 102, 103, 104, 105] (by decide +kernel) (by decide +kernel)) (goodIn_sub (fun _ h => List.mem_cons_of_mem _ (List.mem_append_left _ (List.mem_append_right _ h))) (by decide +kernel))) (goodIn_sub (fun _ h => List.mem_cons_of_mem _ (List.mem_append_right _ h)) (by decide +kernel))) (goodIn_sub (fun _ h => List.mem_cons_of_mem _ (List.mem_append_left _ (List.mem_append_left _ (List.mem_append_right _ h)))) (by decide +kernel))
set_option maxRecDepth 20000 in
theorem gL_sure_X8_sure : GoodIn wsL_sure (wsV RL 90 RX8 yX8_sure wsX8_sure) := goodIn_app (goodIn_of _ (by decide +kernel)) ggL_sure_X8_sure
theorem dL_sure_0 : decode cL_sure 0 = .ok (.aload_n 2, 1) := by decide +kernel
theorem dL_sure_1 : decode cL_sure 1 = .ok (.iconst 0, 1) := by decide +kernel
theorem dL_sure_2 : decode cL_sure 2 = .ok (.aload_n 0, 1) := by decide +kernel
theorem dL_sure_3 : decode cL_sure 3 = .ok (.iload_n 1, 1) := by decide +kernel
theorem dL_sure_4 : decode cL_sure 4 = .ok (.invokevirtual 90, 3) := by decide +kernel
theorem dL_sure_7 : decode cL_sure 7 = .ok (.i2l, 1) := by decide +kernel
theorem dL_sure_8 : decode cL_sure 8 = .ok (.lastore, 1) := by decide +kernel
theorem dL_sure_9 : decode cL_sure 9 = .ok (.goto 9, 3) := by decide +kernel
theorem dL_sure_12 : decode cL_sure 12 = .ok (.astore_n 3, 1) := by decide +kernel
theorem dL_sure_13 : decode cL_sure 13 = .ok (.iconst 1, 1) := by decide +kernel
theorem dL_sure_14 : decode cL_sure 14 = .ok (.ireturn, 1) := by decide +kernel
theorem dL_sure_15 : decode cL_sure 15 = .ok (.astore_n 3, 1) := by decide +kernel
theorem dL_sure_16 : decode cL_sure 16 = .ok (.iconst 2, 1) := by decide +kernel
theorem dL_sure_17 : decode cL_sure 17 = .ok (.ireturn, 1) := by decide +kernel
theorem dL_sure_18 : decode cL_sure 18 = .ok (.iconst 0, 1) := by decide +kernel
theorem dL_sure_19 : decode cL_sure 19 = .ok (.ireturn, 1) := by decide +kernel
set_option maxRecDepth 20000 in
theorem ggL_clearest_X8_clearest : GoodIn wsL_clearest wsX8_clearest := goodIn_ca (goodIn_ca (goodIn_r _ [6, 7, 8, 9, 10, 11, 5, 12, 13, 14, 15, 16, 17, 18, 19, 20, 21, 22, 23, 24, 25, 26, 27, 28, 29, 30, 31, 32, 33, 34, 35, 36, 37, 38, 39, 40, 41, 42, 43, 44, 45, 46, 47, 48, 49, 50, 51, 52, 53, 54, 55, 56, 57, 58, 59, 60, 61, 62, 63, 64, 65, 66, 67, 68, 69, 70, 71, 72, 73, 74, 75, 76, 77, 78, 79, 80, 81, 82, 83, 84, 85, 86, 87, 88, 89, 90, 91, 92, 93, 94, 95, 96, 97, 98, 99, 100, 101, 102, 103, 104, 105, 106, 107, 108, 109, 110, 111, 112, 113, 114, 115, 116, 117, 118, 119] (by decide +kernel) (by decide +kernel)) (goodIn_sub (fun _ h => List.mem_cons_of_mem _ (List.mem_append_right _ h)) (by decide +kernel))) (goodIn_sub (fun _ h => List.mem_cons_of_mem _ (List.mem_append_left _ (List.mem_append_right _ h))) (by decide +kernel))
set_option maxRecDepth 20000 in
theorem gL_clearest_X8_clearest : GoodIn wsL_clearest (wsV RL 95 RX8 yX8_clearest wsX8_clearest) := goodIn_app (goodIn_of _ (by decide +kernel)) ggL_clearest_X8_clearest
theorem dL_clearest_0 : decode cL_clearest 0 = .ok (.aload_n 2, 1) := by decide +kernel
theorem dL_clearest_1 : decode cL_clearest 1 = .ok (.iconst 0, 1) := by decide +kernel
theorem dL_clearest_2 : decode cL_clearest 2 = .ok (.aload_n 0, 1) := by decide +kernel
theorem dL_clearest_3 : decode cL_clearest 3 = .ok (.iload_n 1, 1) := by decide +kernel
theorem dL_clearest_4 : decode cL_clearest 4 = .ok (.invokevirtual 95, 3) := by decide +kernel
theorem dL_clearest_7 : decode cL_clearest 7 = .ok (.i2l, 1) := by decide +kernel
theorem dL_clearest_8 : decode cL_clearest 8 = .ok (.lastore, 1) := by decide +kernel
theorem dL_clearest_9 : decode cL_clearest 9 = .ok (.goto 6, 3) := by decide +kernel
theorem dL_clearest_12 : decode cL_clearest 12 = .ok (.astore_n 3, 1) := by decide +kernel
theorem dL_clearest_13 : decode cL_clearest 13 = .ok (.iconst 1, 1) := by decide +kernel
theorem dL_clearest_14 : decode cL_clearest 14 = .ok (.ireturn, 1) := by decide +kernel
theorem dL_clearest_15 : decode cL_clearest 15 = .ok (.iconst 0, 1) := by decide +kernel
theorem dL_clearest_16 : decode cL_clearest 16 = .ok (.ireturn, 1) := by decide +kernel
set_option maxRecDepth 20000 in
theorem ggL_worn_X8_worn : GoodIn wsL_worn wsX8_worn := goodIn_ca (goodIn_ca (goodIn_r _ [6, 7, 8, 9, 10, 11, 12, 13, 14, 15, 16, 17, 18, 5, 19, 20, 21, 22, 23, 24, 25, 26, 27, 28, 29, 30, 31, 32, 33, 34, 35, 36, 37, 38, 39, 40, 41, 42, 43, 44, 45, 46, 47, 48] (by decide +kernel) (by decide +kernel)) (goodIn_sub (fun _ h => List.mem_cons_of_mem _ (List.mem_append_right _ h)) (by decide +kernel))) (goodIn_sub (fun _ h => List.mem_cons_of_mem _ (List.mem_append_left _ (List.mem_append_right _ h))) (by decide +kernel))
set_option maxRecDepth 20000 in
theorem gL_worn_X8_worn : GoodIn wsL_worn (wsV RL 98 RX8 yX8_worn wsX8_worn) := goodIn_app (goodIn_of _ (by decide +kernel)) ggL_worn_X8_worn
theorem dL_worn_0 : decode cL_worn 0 = .ok (.aload_n 2, 1) := by decide +kernel
theorem dL_worn_1 : decode cL_worn 1 = .ok (.iconst 0, 1) := by decide +kernel
theorem dL_worn_2 : decode cL_worn 2 = .ok (.aload_n 0, 1) := by decide +kernel
theorem dL_worn_3 : decode cL_worn 3 = .ok (.iload_n 1, 1) := by decide +kernel
theorem dL_worn_4 : decode cL_worn 4 = .ok (.invokevirtual 98, 3) := by decide +kernel
theorem dL_worn_7 : decode cL_worn 7 = .ok (.i2l, 1) := by decide +kernel
theorem dL_worn_8 : decode cL_worn 8 = .ok (.lastore, 1) := by decide +kernel
theorem dL_worn_9 : decode cL_worn 9 = .ok (.goto 6, 3) := by decide +kernel
theorem dL_worn_12 : decode cL_worn 12 = .ok (.astore_n 3, 1) := by decide +kernel
theorem dL_worn_13 : decode cL_worn 13 = .ok (.iconst 1, 1) := by decide +kernel
theorem dL_worn_14 : decode cL_worn 14 = .ok (.ireturn, 1) := by decide +kernel
theorem dL_worn_15 : decode cL_worn 15 = .ok (.iconst 0, 1) := by decide +kernel
theorem dL_worn_16 : decode cL_worn 16 = .ok (.ireturn, 1) := by decide +kernel
set_option maxRecDepth 20000 in
theorem ggL_type_X8_type : GoodIn wsL_type wsX8_type := goodIn_ca (goodIn_ca (goodIn_r _ [6, 7, 8, 9, 10, 11, 12, 13, 14, 15, 16, 17, 18, 19, 20, 21, 22, 23, 24, 25, 26, 27, 28, 29, 30, 31, 32, 33, 34, 35, 36, 37, 38] (by decide +kernel) (by decide +kernel)) (goodIn_sub (fun _ h => List.mem_cons_of_mem _ (List.mem_append_right _ h)) (by decide +kernel))) (goodIn_sub (fun _ h => List.mem_cons_of_mem _ (List.mem_append_left _ (List.mem_append_right _ h))) (by decide +kernel))
set_option maxRecDepth 20000 in
theorem gL_type_X8_type : GoodIn wsL_type (wsV RL 101 RX8 yX8_type wsX8_type) := goodIn_app (goodIn_of _ (by decide +kernel)) ggL_type_X8_type
theorem dL_type_0 : decode cL_type 0 = .ok (.aload_n 2, 1) := by decide +kernel
theorem dL_type_1 : decode cL_type 1 = .ok (.iconst 0, 1) := by decide +kernel
theorem dL_type_2 : decode cL_type 2 = .ok (.aload_n 0, 1) := by decide +kernel
theorem dL_type_3 : decode cL_type 3 = .ok (.iload_n 1, 1) := by decide +kernel
theorem dL_type_4 : decode cL_type 4 = .ok (.invokevirtual 101, 3) := by decide +kernel
theorem dL_type_7 : decode cL_type 7 = .ok (.i2l, 1) := by decide +kernel
theorem dL_type_8 : decode cL_type 8 = .ok (.lastore, 1) := by decide +kernel
theorem dL_type_9 : decode cL_type 9 = .ok (.goto 6, 3) := by decide +kernel
theorem dL_type_12 : decode cL_type 12 = .ok (.astore_n 3, 1) := by decide +kernel
theorem dL_type_13 : decode cL_type 13 = .ok (.iconst 1, 1) := by decide +kernel
theorem dL_type_14 : decode cL_type 14 = .ok (.ireturn, 1) := by decide +kernel
theorem dL_type_15 : decode cL_type 15 = .ok (.iconst 0, 1) := by decide +kernel
theorem dL_type_16 : decode cL_type 16 = .ok (.ireturn, 1) := by decide +kernel
set_option maxRecDepth 20000 in
theorem ggL_read_X8_read : GoodIn wsL_read wsX8_read := goodIn_ca (goodIn_ca (goodIn_ca (goodIn_r _ [7, 8, 9, 10, 11, 12, 13, 14, 15, 16, 17, 18, 19, 20, 21, 22, 23, 24, 25, 26, 27, 28, 29, 30, 31, 32, 33, 34, 35, 36, 37, 38, 39, 40, 41, 42, 43, 44, 45, 46, 47, 48, 49, 50, 51, 52, 53, 54, 55, 56, 57, 58, 59, 60, 61, 62, 63, 64, 65, 66, 67, 68, 69, 70, 71, 72, 73, 74, 75, 76, 77, 78, 79, 80, 81, 82, 83, 84, 85, 86, 87, 88, 89, 90, 91, 92, 93, 94, 95, 96, 97, 98, 99, 100, 101, 102, 103, 104, 105, 106, 6, 107, 108, 109, 110, 111, 112, 113, 114, 115, 116, 117, 118, 119, 120, 121, 122, 123, 124, 125, 126, 127, 128, 129, 130, 131, 132, 133, 134, 135, 136, 137, 138, 139, 140, 141, 142, 143, 144, 145, 146, 147, 148, 149, 150, 151, 152, 153, 154, 155, 156, 157, 158, 159, 160, 161, 162, 163, 164, 165, 166, 167, 168, 169, 170, 171, 172, 173, 174, 175, 176, 177, 178, 179, 180, 181, 182, 183, 184, 185, 186, 187, 188, 189, 190, 191, 192, 193, 194, 195, 196, 197, 198, 199, 200, 201, 202, 203, 204, 205, 206, 207, 208, 209, 210, 211, 212, 213, 214, 215, 216, 217, 218, 219, 220, 221, 222, 223, 224, 225, 226, 227, 228, 229, 230, 231, 232, 233, 234, 235, 236, 237, 238, 239, 240, 241, 242, 243, 244, 245, 246, 247, 248, 249, 250, 251, 252, 253, 254, 255, 256, 257, 258, 259, 260, 261, 262, 263, 264, 265, 266, 267, 268, 269, 270, 271, 272, 273, 274, 275, 276, 277, 278, 279, 280, 281, 282, 283, 284, 285, 286, 287, 288, 289, 290, 291, 292, 293, 294, 295, 296, 297, 298, 299, 300, 301, 302, 303, 304, 305, 306, 307, 308, 309, 310, 311, 312, 313, 314, 315, 316, 317, 318, 319, 320, 321, 322, 323, 324, 325, 326, 327, 328, 329, 330, 331, 332, 333, 334, 335, 336, 337, 338, 339, 340, 341, 342, 343, 344, 345, 346, 347, 348, 349, 350, 351, 352, 353, 354, 355, 356, 357, 358, 359, 360, 361, 362, 363, 364, 365, 366, 367, 368, 369, 370, 371, 372, 373, 374, 375, 376, 377, 378, 379, 380, 381, 382, 383, 384, 385, 386, 387, 388, 389, 390, 391, 392, 393, 394, 395, 396, 397, 398, 399, 400, 401, 402, 403, 404, 405, 406, 407, 408, 409, 410, 411, 412, 413, 414, 415, 416, 417, 418] (by decide +kernel) (by decide +kernel)) (goodIn_sub (fun _ h => List.mem_cons_of_mem _ (List.mem_append_left _ (List.mem_append_right _ h))) (by decide +kernel))) (goodIn_sub (fun _ h => List.mem_cons_of_mem _ (List.mem_append_right _ h)) (by decide +kernel))) (goodIn_sub (fun _ h => List.mem_cons_of_mem _ (List.mem_append_left _ (List.mem_append_left _ (List.mem_append_right _ h)))) (by decide +kernel))
set_option maxRecDepth 20000 in
theorem gL_read_X8_read : GoodIn wsL_read (wsV RL 107 RX8 yX8_read wsX8_read) := goodIn_app (goodIn_of _ (by decide +kernel)) ggL_read_X8_read
theorem dL_read_0 : decode cL_read 0 = .ok (.aload_n 1, 1) := by decide +kernel
theorem dL_read_1 : decode cL_read 1 = .ok (.iconst 0, 1) := by decide +kernel
theorem dL_read_2 : decode cL_read 2 = .ok (.aload_n 0, 1) := by decide +kernel
theorem dL_read_3 : decode cL_read 3 = .ok (.invokevirtual 107, 3) := by decide +kernel
theorem dL_read_6 : decode cL_read 6 = .ok (.i2l, 1) := by decide +kernel
theorem dL_read_7 : decode cL_read 7 = .ok (.lastore, 1) := by decide +kernel
theorem dL_read_8 : decode cL_read 8 = .ok (.goto 9, 3) := by decide +kernel
theorem dL_read_11 : decode cL_read 11 = .ok (.astore_n 2, 1) := by decide +kernel
theorem dL_read_12 : decode cL_read 12 = .ok (.iconst 1, 1) := by decide +kernel
theorem dL_read_13 : decode cL_read 13 = .ok (.ireturn, 1) := by decide +kernel
theorem dL_read_14 : decode cL_read 14 = .ok (.astore_n 2, 1) := by decide +kernel
theorem dL_read_15 : decode cL_read 15 = .ok (.iconst 2, 1) := by decide +kernel
theorem dL_read_16 : decode cL_read 16 = .ok (.ireturn, 1) := by decide +kernel
theorem dL_read_17 : decode cL_read 17 = .ok (.iconst 0, 1) := by decide +kernel
theorem dL_read_18 : decode cL_read 18 = .ok (.ireturn, 1) := by decide +kernel
set_option maxRecDepth 20000 in
theorem ggL_errorPosition_X8_errorPosition : GoodIn wsL_errorPosition wsX8_errorPosition := goodIn_ca (goodIn_r _ [6, 7, 8, 9, 10, 11, 12, 13, 14, 15, 16, 17, 18, 19, 20, 21] (by decide +kernel) (by decide +kernel)) (goodIn_sub (fun _ h => List.mem_cons_of_mem _ (List.mem_append_right _ h)) (by decide +kernel))
set_option maxRecDepth 20000 in
theorem gL_errorPosition_X8_errorPosition : GoodIn wsL_errorPosition (wsV RL 111 RX8 yX8_errorPosition wsX8_errorPosition) := goodIn_app (goodIn_of _ (by decide +kernel)) ggL_errorPosition_X8_errorPosition
theorem dL_errorPosition_0 : decode cL_errorPosition 0 = .ok (.aload_n 1, 1) := by decide +kernel
theorem dL_errorPosition_1 : decode cL_errorPosition 1 = .ok (.iconst 0, 1) := by decide +kernel
theorem dL_errorPosition_2 : decode cL_errorPosition 2 = .ok (.aload_n 0, 1) := by decide +kernel
theorem dL_errorPosition_3 : decode cL_errorPosition 3 = .ok (.invokevirtual 111, 3) := by decide +kernel
theorem dL_errorPosition_6 : decode cL_errorPosition 6 = .ok (.i2l, 1) := by decide +kernel
theorem dL_errorPosition_7 : decode cL_errorPosition 7 = .ok (.lastore, 1) := by decide +kernel
theorem dL_errorPosition_8 : decode cL_errorPosition 8 = .ok (.goto 6, 3) := by decide +kernel
theorem dL_errorPosition_11 : decode cL_errorPosition 11 = .ok (.astore_n 2, 1) := by decide +kernel
theorem dL_errorPosition_12 : decode cL_errorPosition 12 = .ok (.iconst 1, 1) := by decide +kernel
theorem dL_errorPosition_13 : decode cL_errorPosition 13 = .ok (.ireturn, 1) := by decide +kernel
theorem dL_errorPosition_14 : decode cL_errorPosition 14 = .ok (.iconst 0, 1) := by decide +kernel
theorem dL_errorPosition_15 : decode cL_errorPosition 15 = .ok (.ireturn, 1) := by decide +kernel
set_option maxRecDepth 20000 in
theorem ggL_refusal_X8_refusal : GoodIn wsL_refusal wsX8_refusal := goodIn_ca (goodIn_r _ [6, 7, 8, 9, 10, 11, 12, 13, 14, 15, 16, 17, 18, 19, 20, 21, 22] (by decide +kernel) (by decide +kernel)) (goodIn_sub (fun _ h => List.mem_cons_of_mem _ (List.mem_append_right _ h)) (by decide +kernel))
set_option maxRecDepth 20000 in
theorem gL_refusal_X8_refusal : GoodIn wsL_refusal (wsV RL 114 RX8 yX8_refusal wsX8_refusal) := goodIn_app (goodIn_of _ (by decide +kernel)) ggL_refusal_X8_refusal
theorem dL_refusal_0 : decode cL_refusal 0 = .ok (.aload_n 3, 1) := by decide +kernel
theorem dL_refusal_1 : decode cL_refusal 1 = .ok (.iconst 0, 1) := by decide +kernel
theorem dL_refusal_2 : decode cL_refusal 2 = .ok (.aload_n 0, 1) := by decide +kernel
theorem dL_refusal_3 : decode cL_refusal 3 = .ok (.iload_n 1, 1) := by decide +kernel
theorem dL_refusal_4 : decode cL_refusal 4 = .ok (.iload_n 2, 1) := by decide +kernel
theorem dL_refusal_5 : decode cL_refusal 5 = .ok (.invokevirtual 114, 3) := by decide +kernel
theorem dL_refusal_8 : decode cL_refusal 8 = .ok (.i2l, 1) := by decide +kernel
theorem dL_refusal_9 : decode cL_refusal 9 = .ok (.lastore, 1) := by decide +kernel
theorem dL_refusal_10 : decode cL_refusal 10 = .ok (.goto 7, 3) := by decide +kernel
theorem dL_refusal_13 : decode cL_refusal 13 = .ok (.astore 4, 2) := by decide +kernel
theorem dL_refusal_15 : decode cL_refusal 15 = .ok (.iconst 1, 1) := by decide +kernel
theorem dL_refusal_16 : decode cL_refusal 16 = .ok (.ireturn, 1) := by decide +kernel
theorem dL_refusal_17 : decode cL_refusal 17 = .ok (.iconst 0, 1) := by decide +kernel
theorem dL_refusal_18 : decode cL_refusal 18 = .ok (.ireturn, 1) := by decide +kernel
set_option maxRecDepth 20000 in
theorem ggL_show_X8_show : GoodIn wsL_show wsX8_show := goodIn_ca (goodIn_ca (goodIn_r _ [6, 7, 8, 9, 10, 11, 12, 5, 13, 14, 15, 16, 17, 18, 19, 20, 21, 22, 23, 24, 25, 26, 27, 28, 29, 30, 31, 32, 33, 34, 35, 36, 37, 38, 39, 40, 41, 42, 43, 44, 45, 46, 47, 48, 49, 50, 51, 52, 53, 54, 55, 56, 57, 58, 59, 60, 61, 62, 63, 64, 65, 66, 67, 68, 69, 70, 71, 72, 73, 74, 75, 76, 77, 78, 79, 80, 81, 82, 83, 84, 85] (by decide +kernel) (by decide +kernel)) (goodIn_sub (fun _ h => List.mem_cons_of_mem _ (List.mem_append_right _ h)) (by decide +kernel))) (goodIn_sub (fun _ h => List.mem_cons_of_mem _ (List.mem_append_left _ (List.mem_append_right _ h))) (by decide +kernel))
set_option maxRecDepth 20000 in
theorem gL_show_X8_show : GoodIn wsL_show (wsV RL 118 RX8 yX8_show wsX8_show) := goodIn_app (goodIn_of _ (by decide +kernel)) ggL_show_X8_show
theorem dL_show_0 : decode cL_show 0 = .ok (.aload_n 2, 1) := by decide +kernel
theorem dL_show_1 : decode cL_show 1 = .ok (.iconst 0, 1) := by decide +kernel
theorem dL_show_2 : decode cL_show 2 = .ok (.aload_n 0, 1) := by decide +kernel
theorem dL_show_3 : decode cL_show 3 = .ok (.iload_n 1, 1) := by decide +kernel
theorem dL_show_4 : decode cL_show 4 = .ok (.invokevirtual 118, 3) := by decide +kernel
theorem dL_show_7 : decode cL_show 7 = .ok (.i2l, 1) := by decide +kernel
theorem dL_show_8 : decode cL_show 8 = .ok (.lastore, 1) := by decide +kernel
theorem dL_show_9 : decode cL_show 9 = .ok (.goto 6, 3) := by decide +kernel
theorem dL_show_12 : decode cL_show 12 = .ok (.astore_n 3, 1) := by decide +kernel
theorem dL_show_13 : decode cL_show 13 = .ok (.iconst 1, 1) := by decide +kernel
theorem dL_show_14 : decode cL_show 14 = .ok (.ireturn, 1) := by decide +kernel
theorem dL_show_15 : decode cL_show 15 = .ok (.iconst 0, 1) := by decide +kernel
theorem dL_show_16 : decode cL_show 16 = .ok (.ireturn, 1) := by decide +kernel
set_option maxRecDepth 20000 in
theorem ggL_tell_X8_tell : GoodIn wsL_tell wsX8_tell := goodIn_ca (goodIn_ca (goodIn_r _ [6, 7, 8, 9, 10, 11, 12, 5, 13, 14, 15, 16, 17, 18, 19, 20, 21, 22, 23, 24, 25, 26, 27, 28, 29, 30, 31, 32, 33, 34, 35, 36, 37, 38, 39, 40, 41, 42, 43, 44, 45, 46, 47, 48, 49, 50, 51, 52, 53, 54, 55, 56, 57, 58, 59, 60, 61, 62, 63, 64, 65, 66, 67, 68, 69, 70, 71, 72, 73, 74, 75, 76, 77, 78, 79, 80, 81, 82, 83, 84, 85, 86, 87, 88, 89, 90, 91, 92, 93, 94, 95, 96, 97, 98, 99, 100, 101, 102, 103, 104, 105, 106, 107, 108, 109, 110, 111, 112, 113, 114, 115, 116, 117, 118, 119, 120, 121, 122, 123, 124, 125, 126] (by decide +kernel) (by decide +kernel)) (goodIn_sub (fun _ h => List.mem_cons_of_mem _ (List.mem_append_right _ h)) (by decide +kernel))) (goodIn_sub (fun _ h => List.mem_cons_of_mem _ (List.mem_append_left _ (List.mem_append_right _ h))) (by decide +kernel))
set_option maxRecDepth 20000 in
theorem gL_tell_X8_tell : GoodIn wsL_tell (wsV RL 121 RX8 yX8_tell wsX8_tell) := goodIn_app (goodIn_of _ (by decide +kernel)) ggL_tell_X8_tell
theorem dL_tell_0 : decode cL_tell 0 = .ok (.aload_n 2, 1) := by decide +kernel
theorem dL_tell_1 : decode cL_tell 1 = .ok (.iconst 0, 1) := by decide +kernel
theorem dL_tell_2 : decode cL_tell 2 = .ok (.aload_n 0, 1) := by decide +kernel
theorem dL_tell_3 : decode cL_tell 3 = .ok (.iload_n 1, 1) := by decide +kernel
theorem dL_tell_4 : decode cL_tell 4 = .ok (.invokevirtual 121, 3) := by decide +kernel
theorem dL_tell_7 : decode cL_tell 7 = .ok (.i2l, 1) := by decide +kernel
theorem dL_tell_8 : decode cL_tell 8 = .ok (.lastore, 1) := by decide +kernel
theorem dL_tell_9 : decode cL_tell 9 = .ok (.goto 6, 3) := by decide +kernel
theorem dL_tell_12 : decode cL_tell 12 = .ok (.astore_n 3, 1) := by decide +kernel
theorem dL_tell_13 : decode cL_tell 13 = .ok (.iconst 1, 1) := by decide +kernel
theorem dL_tell_14 : decode cL_tell 14 = .ok (.ireturn, 1) := by decide +kernel
theorem dL_tell_15 : decode cL_tell 15 = .ok (.iconst 0, 1) := by decide +kernel
theorem dL_tell_16 : decode cL_tell 16 = .ok (.ireturn, 1) := by decide +kernel
set_option maxRecDepth 20000 in
theorem ggL_written_X8_written : GoodIn wsL_written wsX8_written := goodIn_ca (goodIn_ca (goodIn_r _ [6, 7, 8, 9, 10, 11, 12, 13, 14, 15, 16, 17, 18, 19, 20, 21, 22, 23, 24, 25, 26, 27, 28, 29, 30, 31, 32, 33, 34] (by decide +kernel) (by decide +kernel)) (goodIn_sub (fun _ h => List.mem_cons_of_mem _ (List.mem_append_right _ h)) (by decide +kernel))) (goodIn_sub (fun _ h => List.mem_cons_of_mem _ (List.mem_append_left _ (List.mem_append_right _ h))) (by decide +kernel))
set_option maxRecDepth 20000 in
theorem gL_written_X8_written : GoodIn wsL_written (wsV RL 124 RX8 yX8_written wsX8_written) := goodIn_app (goodIn_of _ (by decide +kernel)) ggL_written_X8_written
theorem dL_written_0 : decode cL_written 0 = .ok (.aload_n 2, 1) := by decide +kernel
theorem dL_written_1 : decode cL_written 1 = .ok (.iconst 0, 1) := by decide +kernel
theorem dL_written_2 : decode cL_written 2 = .ok (.aload_n 0, 1) := by decide +kernel
theorem dL_written_3 : decode cL_written 3 = .ok (.iload_n 1, 1) := by decide +kernel
theorem dL_written_4 : decode cL_written 4 = .ok (.invokevirtual 124, 3) := by decide +kernel
theorem dL_written_7 : decode cL_written 7 = .ok (.i2l, 1) := by decide +kernel
theorem dL_written_8 : decode cL_written 8 = .ok (.lastore, 1) := by decide +kernel
theorem dL_written_9 : decode cL_written 9 = .ok (.goto 6, 3) := by decide +kernel
theorem dL_written_12 : decode cL_written 12 = .ok (.astore_n 3, 1) := by decide +kernel
theorem dL_written_13 : decode cL_written 13 = .ok (.iconst 1, 1) := by decide +kernel
theorem dL_written_14 : decode cL_written 14 = .ok (.ireturn, 1) := by decide +kernel
theorem dL_written_15 : decode cL_written 15 = .ok (.iconst 0, 1) := by decide +kernel
theorem dL_written_16 : decode cL_written 16 = .ok (.ireturn, 1) := by decide +kernel
set_option maxRecDepth 20000 in
theorem ggL_account_X8_account : GoodIn wsL_account wsX8_account := goodIn_ca (goodIn_ca (goodIn_r _ [6, 7, 8, 9, 10, 11, 12, 13, 14, 15, 16, 17, 18, 19, 20, 21, 22, 23, 24, 25, 26, 27, 28, 29, 30, 31, 32, 33, 34, 35, 36, 37, 38, 39, 40, 41, 42, 43, 44, 45, 46, 47, 48, 49, 5, 50, 51, 52, 53, 54, 55, 56, 57, 58, 59, 60, 61, 62, 63, 64, 65, 66, 67, 68, 69, 70, 71, 72, 73, 74, 75, 76, 77, 78, 79, 80, 81, 82, 83, 84, 85, 86, 87, 88, 89, 90, 91, 92, 93, 94, 95, 96, 97, 98, 99, 100, 101, 102, 103, 104, 105, 106, 107, 108, 109, 110, 111, 112, 113, 114, 115, 116, 117, 118, 119, 120, 121, 122, 123, 124, 125, 126, 127, 128, 129, 130, 131, 132, 133, 134, 135, 136, 137, 138, 139, 140, 141, 142, 143, 144, 145, 146, 147, 148, 149, 150, 151, 152, 153, 154, 155, 156, 157, 158, 159] (by decide +kernel) (by decide +kernel)) (goodIn_sub (fun _ h => List.mem_cons_of_mem _ (List.mem_append_right _ h)) (by decide +kernel))) (goodIn_sub (fun _ h => List.mem_cons_of_mem _ (List.mem_append_left _ (List.mem_append_right _ h))) (by decide +kernel))
set_option maxRecDepth 20000 in
theorem gL_account_X8_account : GoodIn wsL_account (wsV RL 128 RX8 yX8_account wsX8_account) := goodIn_app (goodIn_of _ (by decide +kernel)) ggL_account_X8_account
theorem dL_account_0 : decode cL_account 0 = .ok (.aload_n 2, 1) := by decide +kernel
theorem dL_account_1 : decode cL_account 1 = .ok (.iconst 0, 1) := by decide +kernel
theorem dL_account_2 : decode cL_account 2 = .ok (.aload_n 0, 1) := by decide +kernel
theorem dL_account_3 : decode cL_account 3 = .ok (.iload_n 1, 1) := by decide +kernel
theorem dL_account_4 : decode cL_account 4 = .ok (.invokevirtual 128, 3) := by decide +kernel
theorem dL_account_7 : decode cL_account 7 = .ok (.i2l, 1) := by decide +kernel
theorem dL_account_8 : decode cL_account 8 = .ok (.lastore, 1) := by decide +kernel
theorem dL_account_9 : decode cL_account 9 = .ok (.goto 6, 3) := by decide +kernel
theorem dL_account_12 : decode cL_account 12 = .ok (.astore_n 3, 1) := by decide +kernel
theorem dL_account_13 : decode cL_account 13 = .ok (.iconst 1, 1) := by decide +kernel
theorem dL_account_14 : decode cL_account 14 = .ok (.ireturn, 1) := by decide +kernel
theorem dL_account_15 : decode cL_account 15 = .ok (.iconst 0, 1) := by decide +kernel
theorem dL_account_16 : decode cL_account 16 = .ok (.ireturn, 1) := by decide +kernel
set_option maxRecDepth 20000 in
theorem ggL_meanStains_X8_meanStains : GoodIn wsL_meanStains wsX8_meanStains := goodIn_ca (goodIn_ca (goodIn_r _ [6, 7, 8, 9, 10, 11, 12, 13, 14, 15, 16, 17, 18, 19, 20, 21, 22, 23, 24, 25, 26, 27, 28, 29, 30, 31, 32, 33, 34, 35, 36] (by decide +kernel) (by decide +kernel)) (goodIn_sub (fun _ h => List.mem_cons_of_mem _ (List.mem_append_right _ h)) (by decide +kernel))) (goodIn_sub (fun _ h => List.mem_cons_of_mem _ (List.mem_append_left _ (List.mem_append_right _ h))) (by decide +kernel))
set_option maxRecDepth 20000 in
theorem gL_meanStains_X8_meanStains : GoodIn wsL_meanStains (wsV RL 131 RX8 yX8_meanStains wsX8_meanStains) := goodIn_app (goodIn_of _ (by decide +kernel)) ggL_meanStains_X8_meanStains
theorem dL_meanStains_0 : decode cL_meanStains 0 = .ok (.aload_n 1, 1) := by decide +kernel
theorem dL_meanStains_1 : decode cL_meanStains 1 = .ok (.iconst 0, 1) := by decide +kernel
theorem dL_meanStains_2 : decode cL_meanStains 2 = .ok (.aload_n 0, 1) := by decide +kernel
theorem dL_meanStains_3 : decode cL_meanStains 3 = .ok (.invokevirtual 131, 3) := by decide +kernel
theorem dL_meanStains_6 : decode cL_meanStains 6 = .ok (.dastore, 1) := by decide +kernel
theorem dL_meanStains_7 : decode cL_meanStains 7 = .ok (.goto 6, 3) := by decide +kernel
theorem dL_meanStains_10 : decode cL_meanStains 10 = .ok (.astore_n 2, 1) := by decide +kernel
theorem dL_meanStains_11 : decode cL_meanStains 11 = .ok (.iconst 1, 1) := by decide +kernel
theorem dL_meanStains_12 : decode cL_meanStains 12 = .ok (.ireturn, 1) := by decide +kernel
theorem dL_meanStains_13 : decode cL_meanStains 13 = .ok (.iconst 0, 1) := by decide +kernel
theorem dL_meanStains_14 : decode cL_meanStains 14 = .ok (.ireturn, 1) := by decide +kernel
set_option maxRecDepth 20000 in
theorem ggL_foldedShare_X8_foldedShare : GoodIn wsL_foldedShare wsX8_foldedShare := goodIn_ca (goodIn_ca (goodIn_r _ [6, 7, 8, 9, 10, 11, 12, 13, 14, 15, 16, 17, 18, 19, 20, 21, 22, 23, 24, 25, 26, 27, 28, 29, 30, 31, 32, 33, 34, 35, 36, 37, 38, 39, 40, 41] (by decide +kernel) (by decide +kernel)) (goodIn_sub (fun _ h => List.mem_cons_of_mem _ (List.mem_append_right _ h)) (by decide +kernel))) (goodIn_sub (fun _ h => List.mem_cons_of_mem _ (List.mem_append_left _ (List.mem_append_right _ h))) (by decide +kernel))
set_option maxRecDepth 20000 in
theorem gL_foldedShare_X8_foldedShare : GoodIn wsL_foldedShare (wsV RL 135 RX8 yX8_foldedShare wsX8_foldedShare) := goodIn_app (goodIn_of _ (by decide +kernel)) ggL_foldedShare_X8_foldedShare
theorem dL_foldedShare_0 : decode cL_foldedShare 0 = .ok (.aload_n 1, 1) := by decide +kernel
theorem dL_foldedShare_1 : decode cL_foldedShare 1 = .ok (.iconst 0, 1) := by decide +kernel
theorem dL_foldedShare_2 : decode cL_foldedShare 2 = .ok (.aload_n 0, 1) := by decide +kernel
theorem dL_foldedShare_3 : decode cL_foldedShare 3 = .ok (.invokevirtual 135, 3) := by decide +kernel
theorem dL_foldedShare_6 : decode cL_foldedShare 6 = .ok (.f2d, 1) := by decide +kernel
theorem dL_foldedShare_7 : decode cL_foldedShare 7 = .ok (.dastore, 1) := by decide +kernel
theorem dL_foldedShare_8 : decode cL_foldedShare 8 = .ok (.goto 6, 3) := by decide +kernel
theorem dL_foldedShare_11 : decode cL_foldedShare 11 = .ok (.astore_n 2, 1) := by decide +kernel
theorem dL_foldedShare_12 : decode cL_foldedShare 12 = .ok (.iconst 1, 1) := by decide +kernel
theorem dL_foldedShare_13 : decode cL_foldedShare 13 = .ok (.ireturn, 1) := by decide +kernel
theorem dL_foldedShare_14 : decode cL_foldedShare 14 = .ok (.iconst 0, 1) := by decide +kernel
theorem dL_foldedShare_15 : decode cL_foldedShare 15 = .ok (.ireturn, 1) := by decide +kernel
set_option maxRecDepth 20000 in
theorem ggL_undo_X8_undo : GoodIn wsL_undo wsX8_undo := goodIn_ca (goodIn_r _ [6, 7, 8, 9, 10, 11, 12, 13, 14, 15, 16, 17, 18, 19, 20, 21, 22, 23, 24, 25, 26, 27, 28, 29, 30, 31, 32, 33, 34, 35, 36, 37, 38, 39, 40, 41, 42, 43, 44, 45, 46, 47, 48] (by decide +kernel) (by decide +kernel)) (goodIn_sub (fun _ h => List.mem_cons_of_mem _ (List.mem_append_right _ h)) (by decide +kernel))
set_option maxRecDepth 20000 in
theorem gL_undo_X8_undo : GoodIn wsL_undo (wsV RL 139 RX8 yX8_undo wsX8_undo) := goodIn_app (goodIn_of _ (by decide +kernel)) ggL_undo_X8_undo
theorem dL_undo_0 : decode cL_undo 0 = .ok (.aload_n 1, 1) := by decide +kernel
theorem dL_undo_1 : decode cL_undo 1 = .ok (.iconst 0, 1) := by decide +kernel
theorem dL_undo_2 : decode cL_undo 2 = .ok (.aload_n 0, 1) := by decide +kernel
theorem dL_undo_3 : decode cL_undo 3 = .ok (.invokevirtual 139, 3) := by decide +kernel
theorem dL_undo_6 : decode cL_undo 6 = .ok (.i2l, 1) := by decide +kernel
theorem dL_undo_7 : decode cL_undo 7 = .ok (.lastore, 1) := by decide +kernel
theorem dL_undo_8 : decode cL_undo 8 = .ok (.goto 6, 3) := by decide +kernel
theorem dL_undo_11 : decode cL_undo 11 = .ok (.astore_n 2, 1) := by decide +kernel
theorem dL_undo_12 : decode cL_undo 12 = .ok (.iconst 1, 1) := by decide +kernel
theorem dL_undo_13 : decode cL_undo 13 = .ok (.ireturn, 1) := by decide +kernel
theorem dL_undo_14 : decode cL_undo 14 = .ok (.iconst 0, 1) := by decide +kernel
theorem dL_undo_15 : decode cL_undo 15 = .ok (.ireturn, 1) := by decide +kernel
set_option maxRecDepth 20000 in
theorem ggL_restore_X8_restore : GoodIn wsL_restore wsX8_restore := goodIn_ca (goodIn_ca (goodIn_r _ [6, 7, 8, 9, 10, 11, 12, 13, 14, 15, 16, 17, 18, 19, 20, 21, 22, 23, 24, 25, 26, 27, 28, 29, 30, 31, 32, 33, 34, 35, 36, 37, 38, 39, 40, 41, 42, 43, 44, 45, 46, 47] (by decide +kernel) (by decide +kernel)) (goodIn_sub (fun _ h => List.mem_cons_of_mem _ (List.mem_append_right _ h)) (by decide +kernel))) (goodIn_sub (fun _ h => List.mem_cons_of_mem _ (List.mem_append_left _ (List.mem_append_right _ h))) (by decide +kernel))
set_option maxRecDepth 20000 in
theorem gL_restore_X8_restore : GoodIn wsL_restore (wsV RL 142 RX8 yX8_restore wsX8_restore) := goodIn_app (goodIn_of _ (by decide +kernel)) ggL_restore_X8_restore
theorem dL_restore_0 : decode cL_restore 0 = .ok (.aload_n 1, 1) := by decide +kernel
theorem dL_restore_1 : decode cL_restore 1 = .ok (.iconst 0, 1) := by decide +kernel
theorem dL_restore_2 : decode cL_restore 2 = .ok (.aload_n 0, 1) := by decide +kernel
theorem dL_restore_3 : decode cL_restore 3 = .ok (.invokevirtual 142, 3) := by decide +kernel
theorem dL_restore_6 : decode cL_restore 6 = .ok (.i2l, 1) := by decide +kernel
theorem dL_restore_7 : decode cL_restore 7 = .ok (.lastore, 1) := by decide +kernel
theorem dL_restore_8 : decode cL_restore 8 = .ok (.goto 6, 3) := by decide +kernel
theorem dL_restore_11 : decode cL_restore 11 = .ok (.astore_n 2, 1) := by decide +kernel
theorem dL_restore_12 : decode cL_restore 12 = .ok (.iconst 1, 1) := by decide +kernel
theorem dL_restore_13 : decode cL_restore 13 = .ok (.ireturn, 1) := by decide +kernel
theorem dL_restore_14 : decode cL_restore 14 = .ok (.iconst 0, 1) := by decide +kernel
theorem dL_restore_15 : decode cL_restore 15 = .ok (.ireturn, 1) := by decide +kernel
set_option maxRecDepth 20000 in
theorem ggL_law_X8_init : GoodIn wsL_law wsX8_init := goodIn_r _ [10, 11, 12, 13, 14, 15, 16, 17, 18, 19, 20, 21, 22, 23, 24, 25, 26, 27, 28, 29, 30, 31, 32, 33, 34, 35, 36, 37, 38, 39, 40, 41, 42, 43, 44, 45, 46, 47, 48, 49, 50, 51, 52, 53, 54, 55, 56, 57, 58, 59, 60, 61, 62, 63, 64, 65, 66, 67, 68, 69, 70, 71, 72, 73, 74, 75, 76, 77, 78, 79, 1416, 1417, 1384, 1385, 1386, 1387, 1388, 1389, 1390, 1391, 1392, 1393, 1394, 1395, 1418, 1419, 1420, 1421, 1422, 1423, 1424, 1425, 1426, 1427, 1428, 1429, 1430, 1431] (by decide +kernel) (by decide +kernel)
set_option maxRecDepth 20000 in
theorem gL_law_X8_init : GoodIn wsL_law (wsX8_init) := ggL_law_X8_init
set_option maxRecDepth 20000 in
theorem ggL_law_X9_init : GoodIn wsL_law wsX9_init := goodIn_r _ [82, 83, 12, 13, 32, 84, 85, 86, 87, 72, 88, 89, 90, 91, 1396, 1397, 1398, 1399, 1400, 1401, 1402, 1403, 1404, 1405, 1406, 1407, 1408, 1409, 1410, 1411, 1412, 1413, 1414, 1415] (by decide +kernel) (by decide +kernel)
set_option maxRecDepth 20000 in
theorem gL_law_X9_init : GoodIn wsL_law (wsX9_init) := ggL_law_X9_init
set_option maxRecDepth 20000 in
theorem ggL_law_L_napkin : GoodIn wsL_law wsL_napkin := goodIn_ca (goodIn_ca (goodIn_ca (goodIn_ca (goodIn_r _ [95, 96, 97, 98, 99, 100, 2, 101, 102, 103, 104, 105, 106, 107, 108, 109, 110, 111, 112, 17, 18, 33, 23, 113, 114, 115, 16, 116, 117, 118, 119, 120, 121, 122, 123, 124, 125, 126, 127, 128, 45, 129, 130, 131, 44, 132, 53, 133, 134, 135, 136, 137, 138, 139, 140, 141, 142, 143, 144, 145, 146, 147, 148, 149, 150, 151, 152, 153, 154, 155, 156, 157, 158, 159, 160, 161, 162, 163, 164, 165, 166, 167, 168, 169, 170, 171, 172, 173, 174, 175, 176, 177, 178, 179, 180, 181, 182, 183, 184, 185, 186, 187, 188, 189, 190, 191, 192, 193, 194, 195, 196, 197, 198, 199, 200, 201, 202, 203, 204, 205, 206, 207, 208, 209, 210, 211, 212, 49, 213, 214, 215, 48, 216, 63, 57, 58, 59, 60, 217, 218, 219, 220, 221, 222, 223, 224, 225, 226, 227, 228, 229, 230, 231, 232, 233, 234, 235, 236, 237, 238, 37, 38, 239, 240, 241, 242, 243, 244, 245, 246, 247, 248, 249, 22, 250, 68, 67, 251, 252, 253, 254, 255, 256, 257, 258, 259, 260, 261, 262, 263, 264, 265, 266, 267, 268, 269, 270, 271, 272, 273, 274, 275, 276, 277, 278, 279, 280, 281, 282, 283, 284, 285, 286, 287, 288, 289, 290, 291, 292, 293, 294, 295, 296, 297, 298, 299, 300, 301, 302, 303, 304, 305, 306, 307, 308, 309, 310, 311, 312, 313, 314, 315, 316, 317, 318, 319, 320, 321, 322, 323, 324, 325, 326, 327, 328, 329, 330, 331, 332, 333, 334, 335, 336, 337, 338, 339, 340, 341, 342, 343, 344, 345, 346, 347, 348, 349, 350, 351, 352, 353, 354, 355, 356, 357, 358, 359, 1384, 1385, 1386, 1387, 1388, 1389, 1390, 1391, 1392, 1393, 1394, 1395, 1416, 1417, 1424, 1425, 1426, 1427, 1428, 1429, 1430, 1431, 1418, 1419] (by decide +kernel) (by decide +kernel)) (goodIn_sub (fun _ h => List.mem_append_left _ (List.mem_append_left _ (List.mem_append_left _ (List.mem_append_left _ (List.mem_append_left _ (List.mem_append_left _ (List.mem_append_right _ h))))))) (by decide +kernel))) (goodIn_sub (fun _ h => List.mem_append_left _ (List.mem_append_left _ (List.mem_append_left _ (List.mem_append_left _ (List.mem_append_left _ (List.mem_append_right _ h)))))) (by decide +kernel))) (goodIn_sub (fun _ h => List.mem_append_left _ (List.mem_append_left _ (List.mem_append_left _ (List.mem_append_left _ (List.mem_append_right _ h))))) (by decide +kernel))) (goodIn_sub (fun _ h => List.mem_append_left _ (List.mem_append_left _ (List.mem_append_left _ (List.mem_append_right _ h)))) (by decide +kernel))
set_option maxRecDepth 20000 in
theorem gL_law_L_napkin : GoodIn wsL_law (va_wsS RL 149 yL_napkin wsL_napkin) := goodIn_app (goodIn_of _ (by decide +kernel)) ggL_law_L_napkin
set_option maxRecDepth 20000 in
theorem ggL_law_X9_napkin : GoodIn wsL_law wsX9_napkin := goodIn_ca (goodIn_r _ [363, 364, 365, 366, 5, 367, 84, 85, 368, 369, 370, 371, 372, 373, 374, 375, 376, 377, 378, 379, 380, 381, 382, 383, 384, 385, 386, 387, 388, 389, 390, 391, 392, 393, 394, 395, 396, 397, 398, 399, 400, 86, 1396, 1397, 1398, 1399, 1400, 1401, 1402, 1403, 1404, 1405, 1406, 1407, 1408, 1409, 1410, 1411, 1412, 1413, 1414, 1415] (by decide +kernel) (by decide +kernel)) (goodIn_sub (fun _ h => List.mem_append_left _ (List.mem_append_left _ (List.mem_append_left _ (List.mem_append_left _ (List.mem_append_left _ (List.mem_append_left _ (List.mem_append_right _ h))))))) (by decide +kernel))
set_option maxRecDepth 20000 in
theorem gL_law_X9_napkin : GoodIn wsL_law (wsV RL 154 RX9 yX9_napkin wsX9_napkin) := goodIn_app (goodIn_of _ (by decide +kernel)) ggL_law_X9_napkin
set_option maxRecDepth 20000 in
theorem ggL_law_X9_thrown : GoodIn wsL_law wsX9_thrown := goodIn_r _ [404, 382, 1396, 1397, 1398, 1399, 1400, 1401, 1402, 1403, 1404, 1405, 1406, 1407, 1408, 1409, 1410, 1411, 1412, 1413, 1414, 1415] (by decide +kernel) (by decide +kernel)
set_option maxRecDepth 20000 in
theorem gL_law_X9_thrown : GoodIn wsL_law (wsV RL 155 RX9 yX9_thrown wsX9_thrown) := goodIn_app (goodIn_of _ (by decide +kernel)) ggL_law_X9_thrown
set_option maxRecDepth 20000 in
theorem ggL_law_L_fold : GoodIn wsL_law wsL_fold := goodIn_ca (goodIn_ca (goodIn_ca (goodIn_ca (goodIn_r _ [407, 408, 96, 97, 409, 410, 411, 2, 412, 413, 103, 104, 105, 106, 107, 108, 109, 110, 111, 112, 17, 18, 33, 23, 113, 114, 115, 16, 116, 117, 118, 119, 120, 121, 122, 123, 124, 125, 126, 127, 128, 45, 129, 130, 131, 44, 132, 53, 133, 134, 135, 136, 137, 138, 139, 140, 141, 142, 143, 144, 145, 146, 147, 148, 149, 150, 151, 152, 153, 154, 155, 156, 157, 158, 159, 160, 161, 162, 163, 164, 165, 166, 167, 168, 169, 170, 171, 172, 173, 174, 175, 176, 177, 178, 179, 180, 181, 182, 183, 184, 185, 186, 187, 188, 189, 190, 191, 192, 193, 194, 195, 196, 197, 198, 199, 200, 201, 202, 203, 204, 205, 206, 207, 208, 209, 210, 211, 212, 49, 213, 214, 215, 48, 216, 63, 57, 58, 59, 60, 217, 218, 219, 220, 221, 222, 223, 224, 225, 226, 227, 228, 229, 230, 231, 232, 233, 234, 235, 236, 237, 238, 37, 38, 239, 240, 241, 242, 243, 244, 245, 246, 247, 248, 249, 22, 250, 68, 67, 251, 252, 253, 254, 255, 256, 257, 258, 259, 260, 261, 262, 263, 264, 265, 266, 267, 268, 269, 270, 271, 272, 273, 274, 275, 276, 277, 278, 279, 280, 281, 282, 283, 284, 285, 286, 287, 288, 289, 290, 291, 292, 293, 294, 295, 296, 297, 298, 299, 300, 301, 302, 303, 304, 305, 306, 307, 308, 309, 310, 311, 312, 313, 314, 315, 316, 317, 318, 319, 320, 321, 322, 323, 324, 325, 326, 327, 328, 329, 330, 331, 332, 333, 334, 335, 336, 337, 338, 339, 340, 341, 342, 343, 344, 345, 346, 347, 348, 349, 350, 351, 352, 353, 354, 355, 356, 357, 358, 359, 1384, 1385, 1386, 1387, 1388, 1389, 1390, 1391, 1392, 1393, 1394, 1395, 1416, 1417, 1424, 1425, 1426, 1427, 1428, 1429, 1430, 1431, 1418, 1419] (by decide +kernel) (by decide +kernel)) (goodIn_sub (fun _ h => List.mem_append_left _ (List.mem_append_left _ (List.mem_append_left _ (List.mem_append_left _ (List.mem_append_left _ (List.mem_append_left _ (List.mem_append_right _ h))))))) (by decide +kernel))) (goodIn_sub (fun _ h => List.mem_append_left _ (List.mem_append_left _ (List.mem_append_left _ (List.mem_append_left _ (List.mem_append_left _ (List.mem_append_right _ h)))))) (by decide +kernel))) (goodIn_sub (fun _ h => List.mem_append_left _ (List.mem_append_left _ (List.mem_append_left _ (List.mem_append_left _ (List.mem_append_right _ h))))) (by decide +kernel))) (goodIn_sub (fun _ h => List.mem_append_left _ (List.mem_append_left _ (List.mem_append_left _ (List.mem_append_right _ h)))) (by decide +kernel))
set_option maxRecDepth 20000 in
theorem gL_law_L_fold : GoodIn wsL_law (va_wsS RL 158 yL_fold wsL_fold) := goodIn_app (goodIn_of _ (by decide +kernel)) ggL_law_L_fold
set_option maxRecDepth 20000 in
theorem ggL_law_X9_fold : GoodIn wsL_law wsX9_fold := goodIn_ca (goodIn_r _ [417, 364, 365, 366, 5, 367, 84, 85, 368, 369, 370, 418, 419, 420, 421, 422, 423, 424, 425, 375, 376, 377, 378, 379, 380, 381, 382, 383, 384, 385, 386, 387, 388, 389, 390, 391, 392, 393, 394, 395, 396, 397, 398, 399, 400, 86, 1396, 1397, 1398, 1399, 1400, 1401, 1402, 1403, 1404, 1405, 1406, 1407, 1408, 1409, 1410, 1411, 1412, 1413, 1414, 1415] (by decide +kernel) (by decide +kernel)) (goodIn_sub (fun _ h => List.mem_append_left _ (List.mem_append_left _ (List.mem_append_left _ (List.mem_append_left _ (List.mem_append_left _ (List.mem_append_left _ (List.mem_append_right _ h))))))) (by decide +kernel))
set_option maxRecDepth 20000 in
theorem gL_law_X9_fold : GoodIn wsL_law (wsV RL 161 RX9 yX9_fold wsX9_fold) := goodIn_app (goodIn_of _ (by decide +kernel)) ggL_law_X9_fold
set_option maxRecDepth 20000 in
theorem ggL_law_L_unfold : GoodIn wsL_law wsL_unfold := goodIn_ca (goodIn_ca (goodIn_ca (goodIn_ca (goodIn_r _ [428, 408, 97, 429, 430, 431, 2, 432, 433, 103, 104, 105, 106, 107, 108, 109, 110, 111, 112, 17, 18, 33, 23, 113, 114, 115, 16, 116, 117, 118, 119, 120, 121, 122, 123, 124, 125, 126, 127, 128, 45, 129, 130, 131, 44, 132, 53, 133, 134, 135, 136, 137, 138, 139, 140, 141, 142, 143, 144, 145, 146, 147, 148, 149, 150, 151, 152, 153, 154, 155, 156, 157, 158, 159, 160, 161, 162, 163, 164, 165, 166, 167, 168, 169, 170, 171, 172, 173, 174, 175, 176, 177, 178, 179, 180, 181, 182, 183, 184, 185, 186, 187, 188, 189, 190, 191, 192, 193, 194, 195, 196, 197, 198, 199, 200, 201, 202, 203, 204, 205, 206, 207, 208, 209, 210, 211, 212, 49, 213, 214, 215, 48, 216, 63, 57, 58, 59, 60, 217, 218, 219, 220, 221, 222, 223, 224, 225, 226, 227, 228, 229, 230, 231, 232, 233, 234, 235, 236, 237, 238, 37, 38, 239, 240, 241, 242, 243, 244, 245, 246, 247, 248, 249, 22, 250, 68, 67, 251, 252, 253, 254, 255, 256, 257, 258, 259, 260, 261, 262, 263, 264, 265, 266, 267, 268, 269, 270, 271, 272, 273, 274, 275, 276, 277, 278, 279, 280, 281, 282, 283, 284, 285, 286, 287, 288, 289, 290, 291, 292, 293, 294, 295, 296, 297, 298, 299, 300, 301, 302, 303, 304, 305, 306, 307, 308, 309, 310, 311, 312, 313, 314, 315, 316, 317, 318, 319, 320, 321, 322, 323, 324, 325, 326, 327, 328, 329, 330, 331, 332, 333, 334, 335, 336, 337, 338, 339, 340, 341, 342, 343, 344, 345, 346, 347, 348, 349, 350, 351, 352, 353, 354, 355, 356, 357, 358, 359, 1384, 1385, 1386, 1387, 1388, 1389, 1390, 1391, 1392, 1393, 1394, 1395, 1416, 1417, 1424, 1425, 1426, 1427, 1428, 1429, 1430, 1431, 1418, 1419] (by decide +kernel) (by decide +kernel)) (goodIn_sub (fun _ h => List.mem_append_left _ (List.mem_append_left _ (List.mem_append_left _ (List.mem_append_left _ (List.mem_append_left _ (List.mem_append_left _ (List.mem_append_right _ h))))))) (by decide +kernel))) (goodIn_sub (fun _ h => List.mem_append_left _ (List.mem_append_left _ (List.mem_append_left _ (List.mem_append_left _ (List.mem_append_left _ (List.mem_append_right _ h)))))) (by decide +kernel))) (goodIn_sub (fun _ h => List.mem_append_left _ (List.mem_append_left _ (List.mem_append_left _ (List.mem_append_left _ (List.mem_append_right _ h))))) (by decide +kernel))) (goodIn_sub (fun _ h => List.mem_append_left _ (List.mem_append_left _ (List.mem_append_left _ (List.mem_append_right _ h)))) (by decide +kernel))
set_option maxRecDepth 20000 in
theorem gL_law_L_unfold : GoodIn wsL_law (va_wsS RL 162 yL_unfold wsL_unfold) := goodIn_app (goodIn_of _ (by decide +kernel)) ggL_law_L_unfold
set_option maxRecDepth 20000 in
theorem ggL_law_X9_unfold : GoodIn wsL_law wsX9_unfold := goodIn_ca (goodIn_r _ [437, 364, 365, 366, 5, 367, 84, 85, 368, 369, 370, 438, 439, 440, 441, 422, 423, 424, 425, 375, 376, 377, 378, 379, 380, 381, 382, 383, 384, 385, 386, 387, 388, 389, 390, 391, 392, 393, 394, 395, 396, 397, 398, 399, 400, 86, 1396, 1397, 1398, 1399, 1400, 1401, 1402, 1403, 1404, 1405, 1406, 1407, 1408, 1409, 1410, 1411, 1412, 1413, 1414, 1415] (by decide +kernel) (by decide +kernel)) (goodIn_sub (fun _ h => List.mem_append_left _ (List.mem_append_left _ (List.mem_append_left _ (List.mem_append_left _ (List.mem_append_left _ (List.mem_append_left _ (List.mem_append_right _ h))))))) (by decide +kernel))
set_option maxRecDepth 20000 in
theorem gL_law_X9_unfold : GoodIn wsL_law (wsV RL 164 RX9 yX9_unfold wsX9_unfold) := goodIn_app (goodIn_of _ (by decide +kernel)) ggL_law_X9_unfold
set_option maxRecDepth 20000 in
theorem ggL_law_L_lay : GoodIn wsL_law wsL_lay := goodIn_ca (goodIn_ca (goodIn_ca (goodIn_ca (goodIn_r _ [444, 408, 97, 445, 446, 447, 2, 448, 449, 103, 104, 105, 106, 107, 108, 109, 110, 111, 112, 17, 18, 33, 23, 113, 114, 115, 16, 116, 117, 118, 119, 120, 121, 122, 123, 124, 125, 126, 127, 128, 45, 129, 130, 131, 44, 132, 53, 133, 134, 135, 136, 137, 138, 139, 140, 141, 142, 143, 144, 145, 146, 147, 148, 149, 150, 151, 152, 153, 154, 155, 156, 157, 158, 159, 160, 161, 162, 163, 164, 165, 166, 167, 168, 169, 170, 171, 172, 173, 174, 175, 176, 177, 178, 179, 180, 181, 182, 183, 184, 185, 186, 187, 188, 189, 190, 191, 192, 193, 194, 195, 196, 197, 198, 199, 200, 201, 202, 203, 204, 205, 206, 207, 208, 209, 210, 211, 212, 49, 213, 214, 215, 48, 216, 63, 57, 58, 59, 60, 217, 218, 219, 220, 221, 222, 223, 224, 225, 226, 227, 228, 229, 230, 231, 232, 233, 234, 235, 236, 237, 238, 37, 38, 239, 240, 241, 242, 243, 244, 245, 246, 247, 248, 249, 22, 250, 68, 67, 251, 252, 253, 254, 255, 256, 257, 258, 259, 260, 261, 262, 263, 264, 265, 266, 267, 268, 269, 270, 271, 272, 273, 274, 275, 276, 277, 278, 279, 280, 281, 282, 283, 284, 285, 286, 287, 288, 289, 290, 291, 292, 293, 294, 295, 296, 297, 298, 299, 300, 301, 302, 303, 304, 305, 306, 307, 308, 309, 310, 311, 312, 313, 314, 315, 316, 317, 318, 319, 320, 321, 322, 323, 324, 325, 326, 327, 328, 329, 330, 331, 332, 333, 334, 335, 336, 337, 338, 339, 340, 341, 342, 343, 344, 345, 346, 347, 348, 349, 350, 351, 352, 353, 354, 355, 356, 357, 358, 359, 1384, 1385, 1386, 1387, 1388, 1389, 1390, 1391, 1392, 1393, 1394, 1395, 1416, 1417, 1424, 1425, 1426, 1427, 1428, 1429, 1430, 1431, 1418, 1419] (by decide +kernel) (by decide +kernel)) (goodIn_sub (fun _ h => List.mem_append_left _ (List.mem_append_left _ (List.mem_append_left _ (List.mem_append_left _ (List.mem_append_left _ (List.mem_append_left _ (List.mem_append_right _ h))))))) (by decide +kernel))) (goodIn_sub (fun _ h => List.mem_append_left _ (List.mem_append_left _ (List.mem_append_left _ (List.mem_append_left _ (List.mem_append_left _ (List.mem_append_right _ h)))))) (by decide +kernel))) (goodIn_sub (fun _ h => List.mem_append_left _ (List.mem_append_left _ (List.mem_append_left _ (List.mem_append_left _ (List.mem_append_right _ h))))) (by decide +kernel))) (goodIn_sub (fun _ h => List.mem_append_left _ (List.mem_append_left _ (List.mem_append_left _ (List.mem_append_right _ h)))) (by decide +kernel))
set_option maxRecDepth 20000 in
theorem gL_law_L_lay : GoodIn wsL_law (va_wsS RL 165 yL_lay wsL_lay) := goodIn_app (goodIn_of _ (by decide +kernel)) ggL_law_L_lay
set_option maxRecDepth 20000 in
theorem ggL_law_X9_lay : GoodIn wsL_law wsX9_lay := goodIn_ca (goodIn_r _ [453, 364, 365, 366, 5, 367, 84, 85, 368, 369, 370, 454, 455, 456, 457, 422, 423, 424, 425, 375, 376, 377, 458, 459, 460, 378, 379, 380, 381, 382, 383, 461, 462, 463, 464, 465, 466, 467, 468, 384, 385, 386, 387, 388, 389, 390, 391, 392, 393, 394, 395, 396, 397, 398, 399, 400, 86, 1396, 1397, 1398, 1399, 1400, 1401, 1402, 1403, 1404, 1405, 1406, 1407, 1408, 1409, 1410, 1411, 1412, 1413, 1414, 1415] (by decide +kernel) (by decide +kernel)) (goodIn_sub (fun _ h => List.mem_append_left _ (List.mem_append_left _ (List.mem_append_left _ (List.mem_append_left _ (List.mem_append_left _ (List.mem_append_left _ (List.mem_append_right _ h))))))) (by decide +kernel))
set_option maxRecDepth 20000 in
theorem gL_law_X9_lay : GoodIn wsL_law (wsV RL 167 RX9 yX9_lay wsX9_lay) := goodIn_app (goodIn_of _ (by decide +kernel)) ggL_law_X9_lay
set_option maxRecDepth 20000 in
theorem ggL_law_L_take : GoodIn wsL_law wsL_take := goodIn_ca (goodIn_ca (goodIn_ca (goodIn_ca (goodIn_r _ [471, 408, 97, 472, 473, 474, 2, 475, 476, 103, 104, 105, 106, 107, 108, 109, 110, 111, 112, 17, 18, 33, 23, 113, 114, 115, 16, 116, 117, 118, 119, 120, 121, 122, 123, 124, 125, 126, 127, 128, 45, 129, 130, 131, 44, 132, 53, 133, 134, 135, 136, 137, 138, 139, 140, 141, 142, 143, 144, 145, 146, 147, 148, 149, 150, 151, 152, 153, 154, 155, 156, 157, 158, 159, 160, 161, 162, 163, 164, 165, 166, 167, 168, 169, 170, 171, 172, 173, 174, 175, 176, 177, 178, 179, 180, 181, 182, 183, 184, 185, 186, 187, 188, 189, 190, 191, 192, 193, 194, 195, 196, 197, 198, 199, 200, 201, 202, 203, 204, 205, 206, 207, 208, 209, 210, 211, 212, 49, 213, 214, 215, 48, 216, 63, 57, 58, 59, 60, 217, 218, 219, 220, 221, 222, 223, 224, 225, 226, 227, 228, 229, 230, 231, 232, 233, 234, 235, 236, 237, 238, 37, 38, 239, 240, 241, 242, 243, 244, 245, 246, 247, 248, 249, 22, 250, 68, 67, 251, 252, 253, 254, 255, 256, 257, 258, 259, 260, 261, 262, 263, 264, 265, 266, 267, 268, 269, 270, 271, 272, 273, 274, 275, 276, 277, 278, 279, 280, 281, 282, 283, 284, 285, 286, 287, 288, 289, 290, 291, 292, 293, 294, 295, 296, 297, 298, 299, 300, 301, 302, 303, 304, 305, 306, 307, 308, 309, 310, 311, 312, 313, 314, 315, 316, 317, 318, 319, 320, 321, 322, 323, 324, 325, 326, 327, 328, 329, 330, 331, 332, 333, 334, 335, 336, 337, 338, 339, 340, 341, 342, 343, 344, 345, 346, 347, 348, 349, 350, 351, 352, 353, 354, 355, 356, 357, 358, 359, 1384, 1385, 1386, 1387, 1388, 1389, 1390, 1391, 1392, 1393, 1394, 1395, 1416, 1417, 1424, 1425, 1426, 1427, 1428, 1429, 1430, 1431, 1418, 1419] (by decide +kernel) (by decide +kernel)) (goodIn_sub (fun _ h => List.mem_append_left _ (List.mem_append_left _ (List.mem_append_left _ (List.mem_append_left _ (List.mem_append_left _ (List.mem_append_left _ (List.mem_append_right _ h))))))) (by decide +kernel))) (goodIn_sub (fun _ h => List.mem_append_left _ (List.mem_append_left _ (List.mem_append_left _ (List.mem_append_left _ (List.mem_append_left _ (List.mem_append_right _ h)))))) (by decide +kernel))) (goodIn_sub (fun _ h => List.mem_append_left _ (List.mem_append_left _ (List.mem_append_left _ (List.mem_append_left _ (List.mem_append_right _ h))))) (by decide +kernel))) (goodIn_sub (fun _ h => List.mem_append_left _ (List.mem_append_left _ (List.mem_append_left _ (List.mem_append_right _ h)))) (by decide +kernel))
set_option maxRecDepth 20000 in
theorem gL_law_L_take : GoodIn wsL_law (va_wsS RL 168 yL_take wsL_take) := goodIn_app (goodIn_of _ (by decide +kernel)) ggL_law_L_take
set_option maxRecDepth 20000 in
theorem ggL_law_X9_take : GoodIn wsL_law wsX9_take := goodIn_ca (goodIn_r _ [480, 364, 365, 366, 5, 367, 84, 85, 368, 369, 370, 481, 482, 483, 484, 422, 423, 424, 425, 375, 376, 377, 378, 379, 380, 381, 382, 383, 461, 462, 463, 464, 465, 466, 467, 468, 384, 385, 386, 387, 388, 389, 390, 391, 485, 486, 487, 488, 392, 393, 394, 395, 396, 397, 398, 399, 400, 86, 1396, 1397, 1398, 1399, 1400, 1401, 1402, 1403, 1404, 1405, 1406, 1407, 1408, 1409, 1410, 1411, 1412, 1413, 1414, 1415] (by decide +kernel) (by decide +kernel)) (goodIn_sub (fun _ h => List.mem_append_left _ (List.mem_append_left _ (List.mem_append_left _ (List.mem_append_left _ (List.mem_append_left _ (List.mem_append_left _ (List.mem_append_right _ h))))))) (by decide +kernel))
set_option maxRecDepth 20000 in
theorem gL_law_X9_take : GoodIn wsL_law (wsV RL 170 RX9 yX9_take wsX9_take) := goodIn_app (goodIn_of _ (by decide +kernel)) ggL_law_X9_take
set_option maxRecDepth 20000 in
theorem ggL_law_L_move : GoodIn wsL_law wsL_move := goodIn_ca (goodIn_ca (goodIn_ca (goodIn_ca (goodIn_r _ [491, 408, 97, 492, 493, 494, 2, 495, 496, 103, 104, 105, 106, 107, 108, 109, 110, 111, 112, 17, 18, 33, 23, 113, 114, 115, 16, 116, 117, 118, 119, 120, 121, 122, 123, 124, 125, 126, 127, 128, 45, 129, 130, 131, 44, 132, 53, 133, 134, 135, 136, 137, 138, 139, 140, 141, 142, 143, 144, 145, 146, 147, 148, 149, 150, 151, 152, 153, 154, 155, 156, 157, 158, 159, 160, 161, 162, 163, 164, 165, 166, 167, 168, 169, 170, 171, 172, 173, 174, 175, 176, 177, 178, 179, 180, 181, 182, 183, 184, 185, 186, 187, 188, 189, 190, 191, 192, 193, 194, 195, 196, 197, 198, 199, 200, 201, 202, 203, 204, 205, 206, 207, 208, 209, 210, 211, 212, 49, 213, 214, 215, 48, 216, 63, 57, 58, 59, 60, 217, 218, 219, 220, 221, 222, 223, 224, 225, 226, 227, 228, 229, 230, 231, 232, 233, 234, 235, 236, 237, 238, 37, 38, 239, 240, 241, 242, 243, 244, 245, 246, 247, 248, 249, 22, 250, 68, 67, 251, 252, 253, 254, 255, 256, 257, 258, 259, 260, 261, 262, 263, 264, 265, 266, 267, 268, 269, 270, 271, 272, 273, 274, 275, 276, 277, 278, 279, 280, 281, 282, 283, 284, 285, 286, 287, 288, 289, 290, 291, 292, 293, 294, 295, 296, 297, 298, 299, 300, 301, 302, 303, 304, 305, 306, 307, 308, 309, 310, 311, 312, 313, 314, 315, 316, 317, 318, 319, 320, 321, 322, 323, 324, 325, 326, 327, 328, 329, 330, 331, 332, 333, 334, 335, 336, 337, 338, 339, 340, 341, 342, 343, 344, 345, 346, 347, 348, 349, 350, 351, 352, 353, 354, 355, 356, 357, 358, 359, 1384, 1385, 1386, 1387, 1388, 1389, 1390, 1391, 1392, 1393, 1394, 1395, 1416, 1417, 1424, 1425, 1426, 1427, 1428, 1429, 1430, 1431, 1418, 1419] (by decide +kernel) (by decide +kernel)) (goodIn_sub (fun _ h => List.mem_append_left _ (List.mem_append_left _ (List.mem_append_left _ (List.mem_append_left _ (List.mem_append_left _ (List.mem_append_left _ (List.mem_append_right _ h))))))) (by decide +kernel))) (goodIn_sub (fun _ h => List.mem_append_left _ (List.mem_append_left _ (List.mem_append_left _ (List.mem_append_left _ (List.mem_append_left _ (List.mem_append_right _ h)))))) (by decide +kernel))) (goodIn_sub (fun _ h => List.mem_append_left _ (List.mem_append_left _ (List.mem_append_left _ (List.mem_append_left _ (List.mem_append_right _ h))))) (by decide +kernel))) (goodIn_sub (fun _ h => List.mem_append_left _ (List.mem_append_left _ (List.mem_append_left _ (List.mem_append_right _ h)))) (by decide +kernel))
set_option maxRecDepth 20000 in
theorem gL_law_L_move : GoodIn wsL_law (va_wsS RL 171 yL_move wsL_move) := goodIn_app (goodIn_of _ (by decide +kernel)) ggL_law_L_move
set_option maxRecDepth 20000 in
theorem ggL_law_X9_move : GoodIn wsL_law wsX9_move := goodIn_ca (goodIn_r _ [500, 364, 365, 366, 5, 367, 84, 85, 368, 369, 370, 501, 502, 503, 504, 458, 459, 460, 375, 376, 377, 378, 379, 380, 381, 382, 383, 384, 385, 386, 387, 388, 389, 390, 391, 465, 466, 467, 468, 485, 486, 487, 488, 505, 506, 507, 508, 392, 393, 394, 395, 396, 397, 398, 399, 400, 86, 1396, 1397, 1398, 1399, 1400, 1401, 1402, 1403, 1404, 1405, 1406, 1407, 1408, 1409, 1410, 1411, 1412, 1413, 1414, 1415] (by decide +kernel) (by decide +kernel)) (goodIn_sub (fun _ h => List.mem_append_left _ (List.mem_append_left _ (List.mem_append_left _ (List.mem_append_left _ (List.mem_append_left _ (List.mem_append_left _ (List.mem_append_right _ h))))))) (by decide +kernel))
set_option maxRecDepth 20000 in
theorem gL_law_X9_move : GoodIn wsL_law (wsV RL 174 RX9 yX9_move wsX9_move) := goodIn_app (goodIn_of _ (by decide +kernel)) ggL_law_X9_move
set_option maxRecDepth 20000 in
theorem ggL_law_L_stain : GoodIn wsL_law wsL_stain := goodIn_ca (goodIn_ca (goodIn_ca (goodIn_ca (goodIn_r _ [511, 408, 96, 97, 512, 513, 514, 2, 515, 516, 103, 104, 105, 106, 107, 108, 109, 110, 111, 112, 17, 18, 33, 23, 113, 114, 115, 16, 116, 117, 118, 119, 120, 121, 122, 123, 124, 125, 126, 127, 128, 45, 129, 130, 131, 44, 132, 53, 133, 134, 135, 136, 137, 138, 139, 140, 141, 142, 143, 144, 145, 146, 147, 148, 149, 150, 151, 152, 153, 154, 155, 156, 157, 158, 159, 160, 161, 162, 163, 164, 165, 166, 167, 168, 169, 170, 171, 172, 173, 174, 175, 176, 177, 178, 179, 180, 181, 182, 183, 184, 185, 186, 187, 188, 189, 190, 191, 192, 193, 194, 195, 196, 197, 198, 199, 200, 201, 202, 203, 204, 205, 206, 207, 208, 209, 210, 211, 212, 49, 213, 214, 215, 48, 216, 63, 57, 58, 59, 60, 217, 218, 219, 220, 221, 222, 223, 224, 225, 226, 227, 228, 229, 230, 231, 232, 233, 234, 235, 236, 237, 238, 37, 38, 239, 240, 241, 242, 243, 244, 245, 246, 247, 248, 249, 22, 250, 68, 67, 251, 252, 253, 254, 255, 256, 257, 258, 259, 260, 261, 262, 263, 264, 265, 266, 267, 268, 269, 270, 271, 272, 273, 274, 275, 276, 277, 278, 279, 280, 281, 282, 283, 284, 285, 286, 287, 288, 289, 290, 291, 292, 293, 294, 295, 296, 297, 298, 299, 300, 301, 302, 303, 304, 305, 306, 307, 308, 309, 310, 311, 312, 313, 314, 315, 316, 317, 318, 319, 320, 321, 322, 323, 324, 325, 326, 327, 328, 329, 330, 331, 332, 333, 334, 335, 336, 337, 338, 339, 340, 341, 342, 343, 344, 345, 346, 347, 348, 349, 350, 351, 352, 353, 354, 355, 356, 357, 358, 359, 1384, 1385, 1386, 1387, 1388, 1389, 1390, 1391, 1392, 1393, 1394, 1395, 1416, 1417, 1424, 1425, 1426, 1427, 1428, 1429, 1430, 1431, 1418, 1419] (by decide +kernel) (by decide +kernel)) (goodIn_sub (fun _ h => List.mem_append_left _ (List.mem_append_left _ (List.mem_append_left _ (List.mem_append_left _ (List.mem_append_left _ (List.mem_append_left _ (List.mem_append_right _ h))))))) (by decide +kernel))) (goodIn_sub (fun _ h => List.mem_append_left _ (List.mem_append_left _ (List.mem_append_left _ (List.mem_append_left _ (List.mem_append_left _ (List.mem_append_right _ h)))))) (by decide +kernel))) (goodIn_sub (fun _ h => List.mem_append_left _ (List.mem_append_left _ (List.mem_append_left _ (List.mem_append_left _ (List.mem_append_right _ h))))) (by decide +kernel))) (goodIn_sub (fun _ h => List.mem_append_left _ (List.mem_append_left _ (List.mem_append_left _ (List.mem_append_right _ h)))) (by decide +kernel))
set_option maxRecDepth 20000 in
theorem gL_law_L_stain : GoodIn wsL_law (va_wsS RL 175 yL_stain wsL_stain) := goodIn_app (goodIn_of _ (by decide +kernel)) ggL_law_L_stain
set_option maxRecDepth 20000 in
theorem ggL_law_X9_stain : GoodIn wsL_law wsX9_stain := goodIn_ca (goodIn_r _ [520, 364, 365, 366, 5, 367, 84, 85, 368, 369, 370, 521, 522, 523, 524, 422, 423, 424, 425, 375, 376, 377, 378, 379, 380, 381, 382, 383, 384, 385, 386, 387, 388, 389, 390, 391, 392, 393, 394, 395, 396, 397, 398, 399, 400, 86, 1396, 1397, 1398, 1399, 1400, 1401, 1402, 1403, 1404, 1405, 1406, 1407, 1408, 1409, 1410, 1411, 1412, 1413, 1414, 1415] (by decide +kernel) (by decide +kernel)) (goodIn_sub (fun _ h => List.mem_append_left _ (List.mem_append_left _ (List.mem_append_left _ (List.mem_append_left _ (List.mem_append_left _ (List.mem_append_left _ (List.mem_append_right _ h))))))) (by decide +kernel))
set_option maxRecDepth 20000 in
theorem gL_law_X9_stain : GoodIn wsL_law (wsV RL 177 RX9 yX9_stain wsX9_stain) := goodIn_app (goodIn_of _ (by decide +kernel)) ggL_law_X9_stain
set_option maxRecDepth 20000 in
theorem ggL_law_L_wash : GoodIn wsL_law wsL_wash := goodIn_ca (goodIn_ca (goodIn_ca (goodIn_ca (goodIn_r _ [527, 408, 97, 528, 529, 530, 2, 531, 532, 103, 104, 105, 106, 107, 108, 109, 110, 111, 112, 17, 18, 33, 23, 113, 114, 115, 16, 116, 117, 118, 119, 120, 121, 122, 123, 124, 125, 126, 127, 128, 45, 129, 130, 131, 44, 132, 53, 133, 134, 135, 136, 137, 138, 139, 140, 141, 142, 143, 144, 145, 146, 147, 148, 149, 150, 151, 152, 153, 154, 155, 156, 157, 158, 159, 160, 161, 162, 163, 164, 165, 166, 167, 168, 169, 170, 171, 172, 173, 174, 175, 176, 177, 178, 179, 180, 181, 182, 183, 184, 185, 186, 187, 188, 189, 190, 191, 192, 193, 194, 195, 196, 197, 198, 199, 200, 201, 202, 203, 204, 205, 206, 207, 208, 209, 210, 211, 212, 49, 213, 214, 215, 48, 216, 63, 57, 58, 59, 60, 217, 218, 219, 220, 221, 222, 223, 224, 225, 226, 227, 228, 229, 230, 231, 232, 233, 234, 235, 236, 237, 238, 37, 38, 239, 240, 241, 242, 243, 244, 245, 246, 247, 248, 249, 22, 250, 68, 67, 251, 252, 253, 254, 255, 256, 257, 258, 259, 260, 261, 262, 263, 264, 265, 266, 267, 268, 269, 270, 271, 272, 273, 274, 275, 276, 277, 278, 279, 280, 281, 282, 283, 284, 285, 286, 287, 288, 289, 290, 291, 292, 293, 294, 295, 296, 297, 298, 299, 300, 301, 302, 303, 304, 305, 306, 307, 308, 309, 310, 311, 312, 313, 314, 315, 316, 317, 318, 319, 320, 321, 322, 323, 324, 325, 326, 327, 328, 329, 330, 331, 332, 333, 334, 335, 336, 337, 338, 339, 340, 341, 342, 343, 344, 345, 346, 347, 348, 349, 350, 351, 352, 353, 354, 355, 356, 357, 358, 359, 1384, 1385, 1386, 1387, 1388, 1389, 1390, 1391, 1392, 1393, 1394, 1395, 1416, 1417, 1424, 1425, 1426, 1427, 1428, 1429, 1430, 1431, 1418, 1419] (by decide +kernel) (by decide +kernel)) (goodIn_sub (fun _ h => List.mem_append_left _ (List.mem_append_left _ (List.mem_append_left _ (List.mem_append_left _ (List.mem_append_left _ (List.mem_append_left _ (List.mem_append_right _ h))))))) (by decide +kernel))) (goodIn_sub (fun _ h => List.mem_append_left _ (List.mem_append_left _ (List.mem_append_left _ (List.mem_append_left _ (List.mem_append_left _ (List.mem_append_right _ h)))))) (by decide +kernel))) (goodIn_sub (fun _ h => List.mem_append_left _ (List.mem_append_left _ (List.mem_append_left _ (List.mem_append_left _ (List.mem_append_right _ h))))) (by decide +kernel))) (goodIn_sub (fun _ h => List.mem_append_left _ (List.mem_append_left _ (List.mem_append_left _ (List.mem_append_right _ h)))) (by decide +kernel))
set_option maxRecDepth 20000 in
theorem gL_law_L_wash : GoodIn wsL_law (va_wsS RL 178 yL_wash wsL_wash) := goodIn_app (goodIn_of _ (by decide +kernel)) ggL_law_L_wash
set_option maxRecDepth 20000 in
theorem ggL_law_X9_wash : GoodIn wsL_law wsX9_wash := goodIn_ca (goodIn_r _ [536, 364, 365, 366, 5, 367, 84, 85, 368, 369, 370, 537, 538, 539, 540, 422, 423, 424, 425, 375, 376, 377, 378, 379, 380, 381, 382, 383, 461, 462, 463, 464, 465, 466, 467, 468, 384, 385, 386, 387, 388, 389, 390, 391, 392, 393, 394, 395, 396, 397, 398, 399, 400, 86, 1396, 1397, 1398, 1399, 1400, 1401, 1402, 1403, 1404, 1405, 1406, 1407, 1408, 1409, 1410, 1411, 1412, 1413, 1414, 1415] (by decide +kernel) (by decide +kernel)) (goodIn_sub (fun _ h => List.mem_append_left _ (List.mem_append_left _ (List.mem_append_left _ (List.mem_append_left _ (List.mem_append_left _ (List.mem_append_left _ (List.mem_append_right _ h))))))) (by decide +kernel))
set_option maxRecDepth 20000 in
theorem gL_law_X9_wash : GoodIn wsL_law (wsV RL 180 RX9 yX9_wash wsX9_wash) := goodIn_app (goodIn_of _ (by decide +kernel)) ggL_law_X9_wash
set_option maxRecDepth 20000 in
theorem ggL_law_L_host : GoodIn wsL_law wsL_host := goodIn_ca (goodIn_ca (goodIn_ca (goodIn_ca (goodIn_r _ [543, 408, 97, 544, 545, 546, 2, 547, 548, 103, 104, 105, 106, 107, 108, 109, 110, 111, 112, 17, 18, 33, 23, 113, 114, 115, 16, 116, 117, 118, 119, 120, 121, 122, 123, 124, 125, 126, 127, 128, 45, 129, 130, 131, 44, 132, 53, 133, 134, 135, 136, 137, 138, 139, 140, 141, 142, 143, 144, 145, 146, 147, 148, 149, 150, 151, 152, 153, 154, 155, 156, 157, 158, 159, 160, 161, 162, 163, 164, 165, 166, 167, 168, 169, 170, 171, 172, 173, 174, 175, 176, 177, 178, 179, 180, 181, 182, 183, 184, 185, 186, 187, 188, 189, 190, 191, 192, 193, 194, 195, 196, 197, 198, 199, 200, 201, 202, 203, 204, 205, 206, 207, 208, 209, 210, 211, 212, 49, 213, 214, 215, 48, 216, 63, 57, 58, 59, 60, 217, 218, 219, 220, 221, 222, 223, 224, 225, 226, 227, 228, 229, 230, 231, 232, 233, 234, 235, 236, 237, 238, 37, 38, 239, 240, 241, 242, 243, 244, 245, 246, 247, 248, 249, 22, 250, 68, 67, 251, 252, 253, 254, 255, 256, 257, 258, 259, 260, 261, 262, 263, 264, 265, 266, 267, 268, 269, 270, 271, 272, 273, 274, 275, 276, 277, 278, 279, 280, 281, 282, 283, 284, 285, 286, 287, 288, 289, 290, 291, 292, 293, 294, 295, 296, 297, 298, 299, 300, 301, 302, 303, 304, 305, 306, 307, 308, 309, 310, 311, 312, 313, 314, 315, 316, 317, 318, 319, 320, 321, 322, 323, 324, 325, 326, 327, 328, 329, 330, 331, 332, 333, 334, 335, 336, 337, 338, 339, 340, 341, 342, 343, 344, 345, 346, 347, 348, 349, 350, 351, 352, 353, 354, 355, 356, 357, 358, 359, 1384, 1385, 1386, 1387, 1388, 1389, 1390, 1391, 1392, 1393, 1394, 1395, 1416, 1417, 1424, 1425, 1426, 1427, 1428, 1429, 1430, 1431, 1418, 1419] (by decide +kernel) (by decide +kernel)) (goodIn_sub (fun _ h => List.mem_append_left _ (List.mem_append_left _ (List.mem_append_left _ (List.mem_append_left _ (List.mem_append_left _ (List.mem_append_left _ (List.mem_append_right _ h))))))) (by decide +kernel))) (goodIn_sub (fun _ h => List.mem_append_left _ (List.mem_append_left _ (List.mem_append_left _ (List.mem_append_left _ (List.mem_append_left _ (List.mem_append_right _ h)))))) (by decide +kernel))) (goodIn_sub (fun _ h => List.mem_append_left _ (List.mem_append_left _ (List.mem_append_left _ (List.mem_append_left _ (List.mem_append_right _ h))))) (by decide +kernel))) (goodIn_sub (fun _ h => List.mem_append_left _ (List.mem_append_left _ (List.mem_append_left _ (List.mem_append_right _ h)))) (by decide +kernel))
set_option maxRecDepth 20000 in
theorem gL_law_L_host : GoodIn wsL_law (va_wsS RL 181 yL_host wsL_host) := goodIn_app (goodIn_of _ (by decide +kernel)) ggL_law_L_host
set_option maxRecDepth 20000 in
theorem ggL_law_X9_host : GoodIn wsL_law wsX9_host := goodIn_ca (goodIn_r _ [552, 364, 365, 366, 5, 367, 84, 85, 368, 369, 370, 553, 554, 555, 556, 458, 459, 460, 375, 376, 377, 378, 379, 380, 381, 382, 383, 557, 558, 559, 560, 465, 466, 467, 468, 384, 385, 386, 387, 388, 389, 390, 391, 561, 562, 563, 564, 565, 566, 567, 568, 569, 570, 571, 572, 573, 574, 575, 576, 577, 578, 579, 580, 581, 582, 583, 584, 585, 586, 392, 393, 394, 395, 396, 397, 398, 399, 400, 86, 1396, 1397, 1398, 1399, 1400, 1401, 1402, 1403, 1404, 1405, 1406, 1407, 1408, 1409, 1410, 1411, 1412, 1413, 1414, 1415] (by decide +kernel) (by decide +kernel)) (goodIn_sub (fun _ h => List.mem_append_left _ (List.mem_append_left _ (List.mem_append_left _ (List.mem_append_left _ (List.mem_append_left _ (List.mem_append_left _ (List.mem_append_right _ h))))))) (by decide +kernel))
set_option maxRecDepth 20000 in
theorem gL_law_X9_host : GoodIn wsL_law (wsV RL 183 RX9 yX9_host wsX9_host) := goodIn_app (goodIn_of _ (by decide +kernel)) ggL_law_X9_host
set_option maxRecDepth 20000 in
theorem ggL_law_L_napkinOf : GoodIn wsL_law wsL_napkinOf := goodIn_ca (goodIn_ca (goodIn_ca (goodIn_r _ [589, 408, 96, 590, 591, 592, 2, 593, 107, 108, 109, 110, 18, 594, 140, 141, 44, 142, 53, 595, 227, 228, 229, 147, 148, 149, 150, 596, 144, 145, 146, 597, 152, 153, 154, 598, 202, 203, 204, 599, 169, 170, 171, 172, 173, 174, 175, 600, 301, 302, 303, 601, 271, 272, 273, 1384, 1385, 1386, 1387, 1388, 1389, 1390, 1391, 1392, 1393, 1394, 1395, 1424] (by decide +kernel) (by decide +kernel)) (goodIn_sub (fun _ h => List.mem_append_left _ (List.mem_append_left _ (List.mem_append_left _ (List.mem_append_left _ (List.mem_append_left _ (List.mem_append_left _ (List.mem_append_right _ h))))))) (by decide +kernel))) (goodIn_sub (fun _ h => List.mem_append_left _ (List.mem_append_left _ (List.mem_append_left _ (List.mem_append_left _ (List.mem_append_left _ (List.mem_append_right _ h)))))) (by decide +kernel))) (goodIn_sub (fun _ h => List.mem_append_left _ (List.mem_append_left _ (List.mem_append_left _ (List.mem_append_left _ (List.mem_append_right _ h))))) (by decide +kernel))
set_option maxRecDepth 20000 in
theorem gL_law_L_napkinOf : GoodIn wsL_law (va_wsS RL 184 yL_napkinOf wsL_napkinOf) := goodIn_app (goodIn_of _ (by decide +kernel)) ggL_law_L_napkinOf
set_option maxRecDepth 20000 in
theorem ggL_law_X9_napkinOf : GoodIn wsL_law wsX9_napkinOf := goodIn_ca (goodIn_r _ [605, 84, 422, 423, 424, 5, 425, 375, 376, 377, 378, 379, 380, 381, 382, 383, 461, 462, 463, 464, 465, 466, 467, 468, 392, 393, 394, 395, 1396, 1397, 1398, 1399, 1400, 1401, 1402, 1403, 1404, 1405, 1406, 1407, 1408, 1409, 1410, 1411, 1412, 1413, 1414, 1415] (by decide +kernel) (by decide +kernel)) (goodIn_sub (fun _ h => List.mem_append_left _ (List.mem_append_left _ (List.mem_append_left _ (List.mem_append_left _ (List.mem_append_left _ (List.mem_append_left _ (List.mem_append_right _ h))))))) (by decide +kernel))
set_option maxRecDepth 20000 in
theorem gL_law_X9_napkinOf : GoodIn wsL_law (wsV RL 186 RX9 yX9_napkinOf wsX9_napkinOf) := goodIn_app (goodIn_of _ (by decide +kernel)) ggL_law_X9_napkinOf
set_option maxRecDepth 20000 in
theorem ggL_law_L_tableOf : GoodIn wsL_law wsL_tableOf := goodIn_ca (goodIn_ca (goodIn_ca (goodIn_r _ [608, 408, 96, 609, 610, 611, 2, 612, 109, 110, 18, 613, 614, 615, 616, 107, 108, 617, 166, 167, 618, 177, 178, 44, 179, 180, 181, 182, 183, 53, 619, 620, 621, 622, 19, 623, 214, 215, 48, 216, 63, 57, 58, 59, 60, 217, 218, 219, 220, 221, 222, 223, 224, 225, 144, 145, 146, 147, 148, 149, 150, 226, 227, 228, 229, 230, 202, 203, 204, 624, 232, 233, 234, 625, 345, 346, 347, 334, 335, 336, 337, 626, 353, 354, 355, 627, 357, 358, 359, 1384, 1385, 1386, 1387, 1388, 1389, 1390, 1391, 1392, 1393, 1394, 1395, 1424, 1425, 1426, 1427, 1428, 1429, 1430, 1431] (by decide +kernel) (by decide +kernel)) (goodIn_sub (fun _ h => List.mem_append_left _ (List.mem_append_left _ (List.mem_append_left _ (List.mem_append_left _ (List.mem_append_left _ (List.mem_append_left _ (List.mem_append_right _ h))))))) (by decide +kernel))) (goodIn_sub (fun _ h => List.mem_append_left _ (List.mem_append_left _ (List.mem_append_left _ (List.mem_append_left _ (List.mem_append_right _ h))))) (by decide +kernel))) (goodIn_sub (fun _ h => List.mem_append_left _ (List.mem_append_left _ (List.mem_append_left _ (List.mem_append_left _ (List.mem_append_left _ (List.mem_append_right _ h)))))) (by decide +kernel))
set_option maxRecDepth 20000 in
theorem gL_law_L_tableOf : GoodIn wsL_law (va_wsS RL 187 yL_tableOf wsL_tableOf) := goodIn_app (goodIn_of _ (by decide +kernel)) ggL_law_L_tableOf
set_option maxRecDepth 20000 in
theorem ggL_law_X9_tableOf : GoodIn wsL_law wsX9_tableOf := goodIn_ca (goodIn_r _ [631, 84, 458, 459, 5, 460, 375, 376, 377, 378, 379, 380, 381, 382, 383, 392, 393, 394, 395, 557, 558, 559, 560, 465, 466, 467, 468, 1396, 1397, 1398, 1399, 1400, 1401, 1402, 1403, 1404, 1405, 1406, 1407, 1408, 1409, 1410, 1411, 1412, 1413, 1414, 1415] (by decide +kernel) (by decide +kernel)) (goodIn_sub (fun _ h => List.mem_append_left _ (List.mem_append_left _ (List.mem_append_left _ (List.mem_append_left _ (List.mem_append_left _ (List.mem_append_left _ (List.mem_append_right _ h))))))) (by decide +kernel))
set_option maxRecDepth 20000 in
theorem gL_law_X9_tableOf : GoodIn wsL_law (wsV RL 189 RX9 yX9_tableOf wsX9_tableOf) := goodIn_app (goodIn_of _ (by decide +kernel)) ggL_law_X9_tableOf
set_option maxRecDepth 20000 in
theorem ggL_law_L_seat : GoodIn wsL_law wsL_seat := goodIn_ca (goodIn_ca (goodIn_ca (goodIn_r _ [634, 408, 635, 636, 637, 638, 2, 639, 640, 641, 18, 613, 614, 615, 616, 107, 108, 617, 166, 167, 642, 193, 194, 44, 195, 196, 177, 178, 179, 180, 181, 182, 183, 53, 643, 219, 220, 221, 222, 223, 224, 1384, 1385, 1386, 1387, 1388, 1389, 1390, 1391, 1392, 1393, 1394, 1395, 1424] (by decide +kernel) (by decide +kernel)) (goodIn_sub (fun _ h => List.mem_append_left _ (List.mem_append_left _ (List.mem_append_left _ (List.mem_append_left _ (List.mem_append_left _ (List.mem_append_left _ (List.mem_append_right _ h))))))) (by decide +kernel))) (goodIn_sub (fun _ h => List.mem_append_left _ (List.mem_append_left _ (List.mem_append_right _ h))) (by decide +kernel))) (goodIn_sub (fun _ h => List.mem_append_left _ (List.mem_append_left _ (List.mem_append_left _ (List.mem_append_left _ (List.mem_append_left _ (List.mem_append_right _ h)))))) (by decide +kernel))
set_option maxRecDepth 20000 in
theorem gL_law_L_seat : GoodIn wsL_law (va_wsS RL 190 yL_seat wsL_seat) := goodIn_app (goodIn_of _ (by decide +kernel)) ggL_law_L_seat
set_option maxRecDepth 20000 in
theorem ggL_law_X9_seat : GoodIn wsL_law wsX9_seat := goodIn_ca (goodIn_r _ [647, 84, 458, 459, 5, 460, 375, 376, 377, 378, 379, 380, 381, 382, 383, 465, 466, 467, 468, 392, 393, 394, 395, 1396, 1397, 1398, 1399, 1400, 1401, 1402, 1403, 1404, 1405, 1406, 1407, 1408, 1409, 1410, 1411, 1412, 1413, 1414, 1415] (by decide +kernel) (by decide +kernel)) (goodIn_sub (fun _ h => List.mem_append_left _ (List.mem_append_left _ (List.mem_append_left _ (List.mem_append_left _ (List.mem_append_left _ (List.mem_append_left _ (List.mem_append_right _ h))))))) (by decide +kernel))
set_option maxRecDepth 20000 in
theorem gL_law_X9_seat : GoodIn wsL_law (wsV RL 192 RX9 yX9_seat wsX9_seat) := goodIn_app (goodIn_of _ (by decide +kernel)) ggL_law_X9_seat
set_option maxRecDepth 20000 in
theorem ggL_law_L_said : GoodIn wsL_law wsL_said := goodIn_ca (goodIn_ca (goodIn_ca (goodIn_r _ [650, 408, 635, 651, 652, 653, 2, 654, 640, 641, 613, 614, 615, 616, 107, 108, 617, 166, 167, 619, 620, 621, 622, 19, 18, 623, 214, 215, 48, 216, 63, 57, 58, 59, 60, 217, 177, 178, 44, 179, 180, 181, 182, 183, 53, 218, 219, 220, 221, 222, 223, 224, 225, 144, 145, 146, 147, 148, 149, 150, 226, 227, 228, 229, 230, 202, 203, 204, 655, 656, 657, 658, 659, 660, 661, 662, 1384, 1385, 1386, 1387, 1388, 1389, 1390, 1391, 1392, 1393, 1394, 1395, 1425, 1426, 1427, 1428, 1429, 1430, 1431, 1424] (by decide +kernel) (by decide +kernel)) (goodIn_sub (fun _ h => List.mem_append_left _ (List.mem_append_left _ (List.mem_append_left _ (List.mem_append_left _ (List.mem_append_left _ (List.mem_append_left _ (List.mem_append_right _ h))))))) (by decide +kernel))) (goodIn_sub (fun _ h => List.mem_append_left _ (List.mem_append_left _ (List.mem_append_right _ h))) (by decide +kernel))) (goodIn_sub (fun _ h => List.mem_append_left _ (List.mem_append_left _ (List.mem_append_left _ (List.mem_append_left _ (List.mem_append_left _ (List.mem_append_right _ h)))))) (by decide +kernel))
set_option maxRecDepth 20000 in
theorem gL_law_L_said : GoodIn wsL_law (va_wsS RL 193 yL_said wsL_said) := goodIn_app (goodIn_of _ (by decide +kernel)) ggL_law_L_said
set_option maxRecDepth 20000 in
theorem ggL_law_X9_said : GoodIn wsL_law wsX9_said := goodIn_ca (goodIn_r _ [666, 458, 459, 5, 460, 375, 376, 377, 378, 379, 380, 381, 382, 383, 557, 558, 559, 560, 84, 465, 466, 467, 468, 577, 578, 579, 580, 392, 393, 394, 395, 1396, 1397, 1398, 1399, 1400, 1401, 1402, 1403, 1404, 1405, 1406, 1407, 1408, 1409, 1410, 1411, 1412, 1413, 1414, 1415] (by decide +kernel) (by decide +kernel)) (goodIn_sub (fun _ h => List.mem_append_left _ (List.mem_append_left _ (List.mem_append_left _ (List.mem_append_left _ (List.mem_append_left _ (List.mem_append_left _ (List.mem_append_right _ h))))))) (by decide +kernel))
set_option maxRecDepth 20000 in
theorem gL_law_X9_said : GoodIn wsL_law (wsV RL 195 RX9 yX9_said wsX9_said) := goodIn_app (goodIn_of _ (by decide +kernel)) ggL_law_X9_said
set_option maxRecDepth 20000 in
theorem ggL_law_L_wrong : GoodIn wsL_law wsL_wrong := goodIn_ca (goodIn_ca (goodIn_r _ [669, 408, 670, 671, 672, 2, 673, 613, 614, 615, 616, 107, 108, 617, 166, 167, 619, 620, 621, 622, 19, 18, 623, 214, 215, 48, 216, 63, 57, 58, 59, 60, 217, 177, 178, 44, 179, 180, 181, 182, 183, 53, 218, 219, 220, 221, 222, 223, 224, 225, 144, 145, 146, 147, 148, 149, 150, 226, 227, 228, 229, 230, 202, 203, 204, 674, 331, 332, 333, 334, 335, 336, 337, 338, 339, 340, 341, 342, 343, 1384, 1385, 1386, 1387, 1388, 1389, 1390, 1391, 1392, 1393, 1394, 1395, 1425, 1426, 1427, 1428, 1429, 1430, 1431, 1424] (by decide +kernel) (by decide +kernel)) (goodIn_sub (fun _ h => List.mem_append_left _ (List.mem_append_left _ (List.mem_append_left _ (List.mem_append_left _ (List.mem_append_left _ (List.mem_append_left _ (List.mem_append_right _ h))))))) (by decide +kernel))) (goodIn_sub (fun _ h => List.mem_append_left _ (List.mem_append_left _ (List.mem_append_left _ (List.mem_append_left _ (List.mem_append_left _ (List.mem_append_right _ h)))))) (by decide +kernel))
set_option maxRecDepth 20000 in
theorem gL_law_L_wrong : GoodIn wsL_law (va_wsS RL 196 yL_wrong wsL_wrong) := goodIn_app (goodIn_of _ (by decide +kernel)) ggL_law_L_wrong
set_option maxRecDepth 20000 in
theorem ggL_law_X9_wrong : GoodIn wsL_law wsX9_wrong := goodIn_ca (goodIn_r _ [678, 458, 459, 5, 460, 375, 376, 377, 679, 680, 681, 682, 557, 558, 559, 560, 84, 465, 466, 467, 468, 573, 574, 575, 576, 577, 578, 579, 580, 581, 582, 583, 584, 585, 586, 392, 393, 394, 395, 382, 378, 379, 380, 381, 383, 1396, 1397, 1398, 1399, 1400, 1401, 1402, 1403, 1404, 1405, 1406, 1407, 1408, 1409, 1410, 1411, 1412, 1413, 1414, 1415] (by decide +kernel) (by decide +kernel)) (goodIn_sub (fun _ h => List.mem_append_left _ (List.mem_append_left _ (List.mem_append_left _ (List.mem_append_left _ (List.mem_append_left _ (List.mem_append_left _ (List.mem_append_right _ h))))))) (by decide +kernel))
set_option maxRecDepth 20000 in
theorem gL_law_X9_wrong : GoodIn wsL_law (wsV RL 198 RX9 yX9_wrong wsX9_wrong) := goodIn_app (goodIn_of _ (by decide +kernel)) ggL_law_X9_wrong
set_option maxRecDepth 20000 in
theorem ggL_law_L_wrongAgain : GoodIn wsL_law wsL_wrongAgain := goodIn_ca (goodIn_ca (goodIn_r _ [685, 408, 686, 687, 688, 2, 689, 613, 614, 615, 616, 107, 108, 617, 166, 167, 619, 620, 621, 622, 19, 18, 623, 214, 215, 48, 216, 63, 57, 58, 59, 60, 217, 177, 178, 44, 179, 180, 181, 182, 183, 53, 218, 219, 220, 221, 222, 223, 224, 225, 144, 145, 146, 147, 148, 149, 150, 226, 227, 228, 229, 230, 202, 203, 204, 690, 691, 692, 693, 694, 695, 696, 697, 334, 335, 336, 337, 698, 699, 700, 701, 702, 703, 704, 705, 1384, 1385, 1386, 1387, 1388, 1389, 1390, 1391, 1392, 1393, 1394, 1395, 1425, 1426, 1427, 1428, 1429, 1430, 1431, 1424] (by decide +kernel) (by decide +kernel)) (goodIn_sub (fun _ h => List.mem_append_left _ (List.mem_append_left _ (List.mem_append_left _ (List.mem_append_left _ (List.mem_append_left _ (List.mem_append_left _ (List.mem_append_right _ h))))))) (by decide +kernel))) (goodIn_sub (fun _ h => List.mem_append_left _ (List.mem_append_left _ (List.mem_append_left _ (List.mem_append_left _ (List.mem_append_left _ (List.mem_append_right _ h)))))) (by decide +kernel))
set_option maxRecDepth 20000 in
theorem gL_law_L_wrongAgain : GoodIn wsL_law (va_wsS RL 199 yL_wrongAgain wsL_wrongAgain) := goodIn_app (goodIn_of _ (by decide +kernel)) ggL_law_L_wrongAgain
set_option maxRecDepth 20000 in
theorem ggL_law_X9_wrongAgain : GoodIn wsL_law wsX9_wrongAgain := goodIn_ca (goodIn_r _ [709, 710, 676, 677, 5, 678, 458, 459, 460, 375, 376, 377, 679, 680, 681, 682, 557, 558, 559, 560, 84, 465, 466, 467, 468, 573, 574, 575, 576, 577, 578, 579, 580, 581, 582, 583, 584, 585, 586, 392, 393, 394, 395, 382, 378, 379, 380, 381, 383, 1396, 1397, 1398, 1399, 1400, 1401, 1402, 1403, 1404, 1405, 1406, 1407, 1408, 1409, 1410, 1411, 1412, 1413, 1414, 1415] (by decide +kernel) (by decide +kernel)) (goodIn_sub (fun _ h => List.mem_append_left _ (List.mem_append_left _ (List.mem_append_left _ (List.mem_append_left _ (List.mem_append_left _ (List.mem_append_left _ (List.mem_append_right _ h))))))) (by decide +kernel))
set_option maxRecDepth 20000 in
theorem gL_law_X9_wrongAgain : GoodIn wsL_law (wsV RL 201 RX9 yX9_wrongAgain wsX9_wrongAgain) := goodIn_app (goodIn_of _ (by decide +kernel)) ggL_law_X9_wrongAgain
set_option maxRecDepth 20000 in
theorem ggL_law_L_isRight : GoodIn wsL_law wsL_isRight := goodIn_ca (goodIn_ca (goodIn_r _ [713, 408, 714, 715, 716, 2, 717, 613, 614, 615, 616, 107, 108, 617, 166, 167, 619, 620, 621, 622, 19, 18, 623, 214, 215, 48, 216, 63, 57, 58, 59, 60, 217, 177, 178, 44, 179, 180, 181, 182, 183, 53, 218, 219, 220, 221, 222, 223, 224, 225, 144, 145, 146, 147, 148, 149, 150, 226, 227, 228, 229, 230, 202, 203, 204, 718, 719, 720, 721, 330, 331, 332, 333, 334, 335, 336, 337, 338, 339, 340, 341, 342, 343, 1384, 1385, 1386, 1387, 1388, 1389, 1390, 1391, 1392, 1393, 1394, 1395, 1425, 1426, 1427, 1428, 1429, 1430, 1431, 1424] (by decide +kernel) (by decide +kernel)) (goodIn_sub (fun _ h => List.mem_append_left _ (List.mem_append_left _ (List.mem_append_left _ (List.mem_append_left _ (List.mem_append_left _ (List.mem_append_left _ (List.mem_append_right _ h))))))) (by decide +kernel))) (goodIn_sub (fun _ h => List.mem_append_left _ (List.mem_append_left _ (List.mem_append_left _ (List.mem_append_left _ (List.mem_append_left _ (List.mem_append_right _ h)))))) (by decide +kernel))
set_option maxRecDepth 20000 in
theorem gL_law_L_isRight : GoodIn wsL_law (va_wsS RL 202 yL_isRight wsL_isRight) := goodIn_app (goodIn_of _ (by decide +kernel)) ggL_law_L_isRight
set_option maxRecDepth 20000 in
theorem ggL_law_X9_isRight : GoodIn wsL_law wsX9_isRight := goodIn_ca (goodIn_r _ [725, 382, 458, 459, 5, 460, 375, 376, 377, 565, 566, 567, 568, 569, 570, 571, 572, 557, 558, 559, 560, 84, 465, 466, 467, 468, 573, 574, 575, 576, 577, 578, 579, 580, 581, 582, 583, 584, 585, 586, 1396, 1397, 1398, 1399, 1400, 1401, 1402, 1403, 1404, 1405, 1406, 1407, 1408, 1409, 1410, 1411, 1412, 1413, 1414, 1415] (by decide +kernel) (by decide +kernel)) (goodIn_sub (fun _ h => List.mem_append_left _ (List.mem_append_left _ (List.mem_append_left _ (List.mem_append_left _ (List.mem_append_left _ (List.mem_append_left _ (List.mem_append_right _ h))))))) (by decide +kernel))
set_option maxRecDepth 20000 in
theorem gL_law_X9_isRight : GoodIn wsL_law (wsV RL 204 RX9 yX9_isRight wsX9_isRight) := goodIn_app (goodIn_of _ (by decide +kernel)) ggL_law_X9_isRight
set_option maxRecDepth 20000 in
theorem ggL_law_L_phrases : GoodIn wsL_law wsL_phrases := goodIn_ca (goodIn_ca (goodIn_r _ [728, 408, 729, 730, 731, 2, 732, 613, 614, 615, 616, 107, 108, 617, 166, 167, 619, 620, 621, 622, 19, 18, 623, 214, 215, 48, 216, 63, 57, 58, 59, 60, 217, 177, 178, 44, 179, 180, 181, 182, 183, 53, 218, 219, 220, 221, 222, 223, 224, 225, 144, 145, 146, 147, 148, 149, 150, 226, 227, 228, 229, 230, 202, 203, 204, 733, 327, 328, 329, 330, 331, 332, 333, 334, 335, 336, 337, 338, 339, 340, 341, 342, 343, 344, 345, 346, 347, 1384, 1385, 1386, 1387, 1388, 1389, 1390, 1391, 1392, 1393, 1394, 1395, 1425, 1426, 1427, 1428, 1429, 1430, 1431, 1424] (by decide +kernel) (by decide +kernel)) (goodIn_sub (fun _ h => List.mem_append_left _ (List.mem_append_left _ (List.mem_append_left _ (List.mem_append_left _ (List.mem_append_left _ (List.mem_append_left _ (List.mem_append_right _ h))))))) (by decide +kernel))) (goodIn_sub (fun _ h => List.mem_append_left _ (List.mem_append_left _ (List.mem_append_left _ (List.mem_append_left _ (List.mem_append_left _ (List.mem_append_right _ h)))))) (by decide +kernel))
set_option maxRecDepth 20000 in
theorem gL_law_L_phrases : GoodIn wsL_law (va_wsS RL 205 yL_phrases wsL_phrases) := goodIn_app (goodIn_of _ (by decide +kernel)) ggL_law_L_phrases
set_option maxRecDepth 20000 in
theorem ggL_law_X9_phrases : GoodIn wsL_law wsX9_phrases := goodIn_ca (goodIn_r _ [737, 458, 459, 5, 460, 375, 376, 377, 561, 562, 563, 564, 565, 566, 567, 568, 569, 570, 571, 572, 557, 558, 559, 560, 84, 465, 466, 467, 468, 573, 574, 575, 576, 577, 578, 579, 580, 581, 582, 583, 584, 585, 586, 392, 393, 394, 395, 382, 378, 379, 380, 381, 383, 1396, 1397, 1398, 1399, 1400, 1401, 1402, 1403, 1404, 1405, 1406, 1407, 1408, 1409, 1410, 1411, 1412, 1413, 1414, 1415] (by decide +kernel) (by decide +kernel)) (goodIn_sub (fun _ h => List.mem_append_left _ (List.mem_append_left _ (List.mem_append_left _ (List.mem_append_left _ (List.mem_append_left _ (List.mem_append_left _ (List.mem_append_right _ h))))))) (by decide +kernel))
set_option maxRecDepth 20000 in
theorem gL_law_X9_phrases : GoodIn wsL_law (wsV RL 207 RX9 yX9_phrases wsX9_phrases) := goodIn_app (goodIn_of _ (by decide +kernel)) ggL_law_X9_phrases
set_option maxRecDepth 20000 in
theorem ggL_law_L_phraseOf : GoodIn wsL_law wsL_phraseOf := goodIn_ca (goodIn_ca (goodIn_ca (goodIn_ca (goodIn_r _ [740, 408, 635, 96, 741, 742, 743, 2, 744, 640, 641, 109, 110, 613, 614, 615, 616, 107, 108, 617, 166, 167, 619, 620, 621, 622, 19, 18, 623, 214, 215, 48, 216, 63, 57, 58, 59, 60, 217, 177, 178, 44, 179, 180, 181, 182, 183, 53, 218, 219, 220, 221, 222, 223, 224, 225, 144, 145, 146, 147, 148, 149, 150, 226, 227, 228, 229, 230, 202, 203, 204, 733, 327, 328, 329, 330, 331, 332, 333, 334, 335, 336, 337, 338, 339, 340, 341, 342, 343, 344, 345, 346, 347, 745, 746, 747, 748, 694, 695, 696, 697, 749, 703, 704, 705, 655, 656, 657, 658, 659, 660, 661, 662, 750, 751, 752, 753, 754, 755, 756, 757, 758, 759, 760, 761, 1384, 1385, 1386, 1387, 1388, 1389, 1390, 1391, 1392, 1393, 1394, 1395, 1425, 1426, 1427, 1428, 1429, 1430, 1431, 1424] (by decide +kernel) (by decide +kernel)) (goodIn_sub (fun _ h => List.mem_append_left _ (List.mem_append_left _ (List.mem_append_left _ (List.mem_append_left _ (List.mem_append_left _ (List.mem_append_left _ (List.mem_append_right _ h))))))) (by decide +kernel))) (goodIn_sub (fun _ h => List.mem_append_left _ (List.mem_append_left _ (List.mem_append_right _ h))) (by decide +kernel))) (goodIn_sub (fun _ h => List.mem_append_left _ (List.mem_append_left _ (List.mem_append_left _ (List.mem_append_left _ (List.mem_append_right _ h))))) (by decide +kernel))) (goodIn_sub (fun _ h => List.mem_append_left _ (List.mem_append_left _ (List.mem_append_left _ (List.mem_append_left _ (List.mem_append_left _ (List.mem_append_right _ h)))))) (by decide +kernel))
set_option maxRecDepth 20000 in
theorem gL_law_L_phraseOf : GoodIn wsL_law (va_wsS RL 208 yL_phraseOf wsL_phraseOf) := goodIn_app (goodIn_of _ (by decide +kernel)) ggL_law_L_phraseOf
set_option maxRecDepth 20000 in
theorem ggL_law_X9_phraseOf : GoodIn wsL_law wsX9_phraseOf := goodIn_ca (goodIn_r _ [765, 458, 459, 5, 460, 375, 376, 377, 378, 379, 380, 381, 382, 383, 561, 562, 563, 564, 565, 566, 567, 568, 569, 570, 571, 572, 557, 558, 559, 560, 84, 465, 466, 467, 468, 573, 574, 575, 576, 577, 578, 579, 580, 581, 582, 583, 584, 585, 586, 766, 767, 768, 769, 770, 771, 772, 773, 392, 393, 394, 395, 774, 775, 776, 777, 778, 779, 780, 781, 1396, 1397, 1398, 1399, 1400, 1401, 1402, 1403, 1404, 1405, 1406, 1407, 1408, 1409, 1410, 1411, 1412, 1413, 1414, 1415] (by decide +kernel) (by decide +kernel)) (goodIn_sub (fun _ h => List.mem_append_left _ (List.mem_append_left _ (List.mem_append_left _ (List.mem_append_left _ (List.mem_append_left _ (List.mem_append_left _ (List.mem_append_right _ h))))))) (by decide +kernel))
set_option maxRecDepth 20000 in
theorem gL_law_X9_phraseOf : GoodIn wsL_law (wsV RL 210 RX9 yX9_phraseOf wsX9_phraseOf) := goodIn_app (goodIn_of _ (by decide +kernel)) ggL_law_X9_phraseOf
set_option maxRecDepth 20000 in
theorem ggL_law_L_next : GoodIn wsL_law wsL_next := goodIn_ca (goodIn_ca (goodIn_r _ [784, 408, 785, 786, 787, 2, 788, 613, 614, 615, 616, 107, 108, 617, 166, 167, 619, 620, 621, 622, 19, 18, 623, 214, 215, 48, 216, 63, 57, 58, 59, 60, 217, 177, 178, 44, 179, 180, 181, 182, 183, 53, 218, 219, 220, 221, 222, 223, 224, 225, 144, 145, 146, 147, 148, 149, 150, 226, 227, 228, 229, 230, 202, 203, 204, 789, 790, 791, 792, 793, 794, 795, 796, 334, 335, 336, 337, 338, 339, 340, 1384, 1385, 1386, 1387, 1388, 1389, 1390, 1391, 1392, 1393, 1394, 1395, 1425, 1426, 1427, 1428, 1429, 1430, 1431, 1424] (by decide +kernel) (by decide +kernel)) (goodIn_sub (fun _ h => List.mem_append_left _ (List.mem_append_left _ (List.mem_append_left _ (List.mem_append_left _ (List.mem_append_left _ (List.mem_append_left _ (List.mem_append_right _ h))))))) (by decide +kernel))) (goodIn_sub (fun _ h => List.mem_append_left _ (List.mem_append_left _ (List.mem_append_left _ (List.mem_append_left _ (List.mem_append_left _ (List.mem_append_right _ h)))))) (by decide +kernel))
set_option maxRecDepth 20000 in
theorem gL_law_L_next : GoodIn wsL_law (va_wsS RL 211 yL_next wsL_next) := goodIn_app (goodIn_of _ (by decide +kernel)) ggL_law_L_next
set_option maxRecDepth 20000 in
theorem ggL_law_X9_next : GoodIn wsL_law wsX9_next := goodIn_ca (goodIn_r _ [800, 458, 459, 5, 460, 375, 376, 377, 378, 379, 380, 381, 382, 383, 569, 570, 571, 572, 557, 558, 559, 560, 84, 465, 466, 467, 468, 573, 574, 575, 576, 577, 578, 579, 580, 581, 582, 583, 392, 393, 394, 395, 1396, 1397, 1398, 1399, 1400, 1401, 1402, 1403, 1404, 1405, 1406, 1407, 1408, 1409, 1410, 1411, 1412, 1413, 1414, 1415] (by decide +kernel) (by decide +kernel)) (goodIn_sub (fun _ h => List.mem_append_left _ (List.mem_append_left _ (List.mem_append_left _ (List.mem_append_left _ (List.mem_append_left _ (List.mem_append_left _ (List.mem_append_right _ h))))))) (by decide +kernel))
set_option maxRecDepth 20000 in
theorem gL_law_X9_next : GoodIn wsL_law (wsV RL 213 RX9 yX9_next wsX9_next) := goodIn_app (goodIn_of _ (by decide +kernel)) ggL_law_X9_next
set_option maxRecDepth 20000 in
theorem ggL_law_L_fewest : GoodIn wsL_law wsL_fewest := goodIn_ca (goodIn_ca (goodIn_ca (goodIn_r _ [803, 408, 635, 804, 805, 806, 2, 807, 640, 641, 613, 614, 615, 616, 107, 108, 617, 166, 167, 619, 620, 621, 622, 19, 18, 623, 214, 215, 48, 216, 63, 57, 58, 59, 60, 217, 177, 178, 44, 179, 180, 181, 182, 183, 53, 218, 219, 220, 221, 222, 223, 224, 225, 144, 145, 146, 147, 148, 149, 150, 226, 227, 228, 229, 230, 202, 203, 204, 808, 809, 810, 811, 812, 813, 814, 815, 816, 817, 818, 793, 794, 795, 796, 334, 335, 336, 337, 338, 339, 340, 341, 342, 343, 1384, 1385, 1386, 1387, 1388, 1389, 1390, 1391, 1392, 1393, 1394, 1395, 1425, 1426, 1427, 1428, 1429, 1430, 1431, 1424] (by decide +kernel) (by decide +kernel)) (goodIn_sub (fun _ h => List.mem_append_left _ (List.mem_append_left _ (List.mem_append_left _ (List.mem_append_left _ (List.mem_append_left _ (List.mem_append_left _ (List.mem_append_right _ h))))))) (by decide +kernel))) (goodIn_sub (fun _ h => List.mem_append_left _ (List.mem_append_left _ (List.mem_append_right _ h))) (by decide +kernel))) (goodIn_sub (fun _ h => List.mem_append_left _ (List.mem_append_left _ (List.mem_append_left _ (List.mem_append_left _ (List.mem_append_left _ (List.mem_append_right _ h)))))) (by decide +kernel))
set_option maxRecDepth 20000 in
theorem gL_law_L_fewest : GoodIn wsL_law (va_wsS RL 214 yL_fewest wsL_fewest) := goodIn_app (goodIn_of _ (by decide +kernel)) ggL_law_L_fewest
set_option maxRecDepth 20000 in
theorem ggL_law_X9_fewest : GoodIn wsL_law wsX9_fewest := goodIn_ca (goodIn_r _ [822, 458, 459, 5, 460, 375, 376, 377, 378, 379, 380, 381, 382, 383, 823, 824, 825, 826, 557, 558, 559, 560, 84, 465, 466, 467, 468, 827, 828, 829, 830, 573, 574, 575, 576, 577, 578, 579, 580, 581, 582, 583, 584, 585, 586, 392, 393, 394, 395, 1396, 1397, 1398, 1399, 1400, 1401, 1402, 1403, 1404, 1405, 1406, 1407, 1408, 1409, 1410, 1411, 1412, 1413, 1414, 1415] (by decide +kernel) (by decide +kernel)) (goodIn_sub (fun _ h => List.mem_append_left _ (List.mem_append_left _ (List.mem_append_left _ (List.mem_append_left _ (List.mem_append_left _ (List.mem_append_left _ (List.mem_append_right _ h))))))) (by decide +kernel))
set_option maxRecDepth 20000 in
theorem gL_law_X9_fewest : GoodIn wsL_law (wsV RL 216 RX9 yX9_fewest wsX9_fewest) := goodIn_app (goodIn_of _ (by decide +kernel)) ggL_law_X9_fewest
set_option maxRecDepth 20000 in
theorem ggL_law_L_fewestAgain : GoodIn wsL_law wsL_fewestAgain := goodIn_ca (goodIn_ca (goodIn_ca (goodIn_r _ [833, 408, 635, 834, 835, 836, 2, 837, 640, 641, 613, 614, 615, 616, 107, 108, 617, 166, 167, 619, 620, 621, 622, 19, 18, 623, 214, 215, 48, 216, 63, 57, 58, 59, 60, 217, 177, 178, 44, 179, 180, 181, 182, 183, 53, 218, 219, 220, 221, 222, 223, 224, 225, 144, 145, 146, 147, 148, 149, 150, 226, 227, 228, 229, 230, 202, 203, 204, 838, 839, 840, 841, 61, 842, 843, 844, 845, 334, 335, 336, 337, 846, 847, 848, 849, 62, 850, 244, 245, 246, 338, 339, 340, 1384, 1385, 1386, 1387, 1388, 1389, 1390, 1391, 1392, 1393, 1394, 1395, 1425, 1426, 1427, 1428, 1429, 1430, 1431, 1424] (by decide +kernel) (by decide +kernel)) (goodIn_sub (fun _ h => List.mem_append_left _ (List.mem_append_left _ (List.mem_append_left _ (List.mem_append_left _ (List.mem_append_left _ (List.mem_append_left _ (List.mem_append_right _ h))))))) (by decide +kernel))) (goodIn_sub (fun _ h => List.mem_append_left _ (List.mem_append_left _ (List.mem_append_right _ h))) (by decide +kernel))) (goodIn_sub (fun _ h => List.mem_append_left _ (List.mem_append_left _ (List.mem_append_left _ (List.mem_append_left _ (List.mem_append_left _ (List.mem_append_right _ h)))))) (by decide +kernel))
set_option maxRecDepth 20000 in
theorem gL_law_L_fewestAgain : GoodIn wsL_law (va_wsS RL 217 yL_fewestAgain wsL_fewestAgain) := goodIn_app (goodIn_of _ (by decide +kernel)) ggL_law_L_fewestAgain
set_option maxRecDepth 20000 in
theorem ggL_law_X9_fewestAgain : GoodIn wsL_law wsX9_fewestAgain := goodIn_ca (goodIn_r _ [854, 855, 820, 821, 5, 822, 458, 459, 460, 375, 376, 377, 378, 379, 380, 381, 382, 383, 823, 824, 825, 826, 557, 558, 559, 560, 84, 465, 466, 467, 468, 827, 828, 829, 830, 573, 574, 575, 576, 577, 578, 579, 580, 581, 582, 583, 584, 585, 586, 392, 393, 394, 395, 1396, 1397, 1398, 1399, 1400, 1401, 1402, 1403, 1404, 1405, 1406, 1407, 1408, 1409, 1410, 1411, 1412, 1413, 1414, 1415] (by decide +kernel) (by decide +kernel)) (goodIn_sub (fun _ h => List.mem_append_left _ (List.mem_append_left _ (List.mem_append_left _ (List.mem_append_left _ (List.mem_append_left _ (List.mem_append_left _ (List.mem_append_right _ h))))))) (by decide +kernel))
set_option maxRecDepth 20000 in
theorem gL_law_X9_fewestAgain : GoodIn wsL_law (wsV RL 219 RX9 yX9_fewestAgain wsX9_fewestAgain) := goodIn_app (goodIn_of _ (by decide +kernel)) ggL_law_X9_fewestAgain
set_option maxRecDepth 20000 in
theorem ggL_law_L_doubt : GoodIn wsL_law wsL_doubt := goodIn_ca (goodIn_ca (goodIn_r _ [858, 408, 859, 860, 861, 2, 862, 613, 614, 615, 616, 107, 108, 617, 166, 167, 619, 620, 621, 622, 19, 18, 623, 214, 215, 48, 216, 63, 57, 58, 59, 60, 217, 177, 178, 44, 179, 180, 181, 182, 183, 53, 218, 219, 220, 221, 222, 223, 224, 225, 144, 145, 146, 147, 148, 149, 150, 226, 227, 228, 229, 230, 202, 203, 204, 863, 864, 865, 866, 867, 868, 869, 870, 659, 660, 661, 662, 1384, 1385, 1386, 1387, 1388, 1389, 1390, 1391, 1392, 1393, 1394, 1395, 1425, 1426, 1427, 1428, 1429, 1430, 1431, 1424] (by decide +kernel) (by decide +kernel)) (goodIn_sub (fun _ h => List.mem_append_left _ (List.mem_append_left _ (List.mem_append_left _ (List.mem_append_left _ (List.mem_append_left _ (List.mem_append_left _ (List.mem_append_right _ h))))))) (by decide +kernel))) (goodIn_sub (fun _ h => List.mem_append_left _ (List.mem_append_left _ (List.mem_append_left _ (List.mem_append_left _ (List.mem_append_left _ (List.mem_append_right _ h)))))) (by decide +kernel))
set_option maxRecDepth 20000 in
theorem gL_law_L_doubt : GoodIn wsL_law (va_wsS RL 220 yL_doubt wsL_doubt) := goodIn_app (goodIn_of _ (by decide +kernel)) ggL_law_L_doubt
set_option maxRecDepth 20000 in
theorem ggL_law_X9_doubt : GoodIn wsL_law wsX9_doubt := goodIn_ca (goodIn_r _ [874, 458, 459, 5, 460, 375, 376, 377, 875, 876, 877, 878, 84, 557, 558, 559, 560, 465, 466, 467, 468, 577, 578, 579, 580, 392, 393, 394, 395, 382, 378, 379, 380, 381, 383, 1396, 1397, 1398, 1399, 1400, 1401, 1402, 1403, 1404, 1405, 1406, 1407, 1408, 1409, 1410, 1411, 1412, 1413, 1414, 1415] (by decide +kernel) (by decide +kernel)) (goodIn_sub (fun _ h => List.mem_append_left _ (List.mem_append_left _ (List.mem_append_left _ (List.mem_append_left _ (List.mem_append_left _ (List.mem_append_left _ (List.mem_append_right _ h))))))) (by decide +kernel))
set_option maxRecDepth 20000 in
theorem gL_law_X9_doubt : GoodIn wsL_law (wsV RL 222 RX9 yX9_doubt wsX9_doubt) := goodIn_app (goodIn_of _ (by decide +kernel)) ggL_law_X9_doubt
set_option maxRecDepth 20000 in
theorem ggL_law_L_doubtAgain : GoodIn wsL_law wsL_doubtAgain := goodIn_ca (goodIn_ca (goodIn_r _ [881, 408, 882, 883, 884, 2, 885, 613, 614, 615, 616, 107, 108, 617, 166, 167, 619, 620, 621, 622, 19, 18, 623, 214, 215, 48, 216, 63, 57, 58, 59, 60, 217, 177, 178, 44, 179, 180, 181, 182, 183, 53, 218, 219, 220, 221, 222, 223, 224, 225, 144, 145, 146, 147, 148, 149, 150, 226, 227, 228, 229, 230, 202, 203, 204, 886, 887, 888, 889, 890, 891, 892, 893, 334, 335, 336, 337, 867, 868, 869, 870, 659, 660, 661, 662, 1384, 1385, 1386, 1387, 1388, 1389, 1390, 1391, 1392, 1393, 1394, 1395, 1425, 1426, 1427, 1428, 1429, 1430, 1431, 1424] (by decide +kernel) (by decide +kernel)) (goodIn_sub (fun _ h => List.mem_append_left _ (List.mem_append_left _ (List.mem_append_left _ (List.mem_append_left _ (List.mem_append_left _ (List.mem_append_left _ (List.mem_append_right _ h))))))) (by decide +kernel))) (goodIn_sub (fun _ h => List.mem_append_left _ (List.mem_append_left _ (List.mem_append_left _ (List.mem_append_left _ (List.mem_append_left _ (List.mem_append_right _ h)))))) (by decide +kernel))
set_option maxRecDepth 20000 in
theorem gL_law_L_doubtAgain : GoodIn wsL_law (va_wsS RL 223 yL_doubtAgain wsL_doubtAgain) := goodIn_app (goodIn_of _ (by decide +kernel)) ggL_law_L_doubtAgain
set_option maxRecDepth 20000 in
theorem ggL_law_X9_doubtAgain : GoodIn wsL_law wsX9_doubtAgain := goodIn_ca (goodIn_r _ [897, 898, 872, 873, 5, 874, 458, 459, 460, 375, 376, 377, 875, 876, 877, 878, 84, 557, 558, 559, 560, 465, 466, 467, 468, 577, 578, 579, 580, 392, 393, 394, 395, 382, 378, 379, 380, 381, 383, 1396, 1397, 1398, 1399, 1400, 1401, 1402, 1403, 1404, 1405, 1406, 1407, 1408, 1409, 1410, 1411, 1412, 1413, 1414, 1415] (by decide +kernel) (by decide +kernel)) (goodIn_sub (fun _ h => List.mem_append_left _ (List.mem_append_left _ (List.mem_append_left _ (List.mem_append_left _ (List.mem_append_left _ (List.mem_append_left _ (List.mem_append_right _ h))))))) (by decide +kernel))
set_option maxRecDepth 20000 in
theorem gL_law_X9_doubtAgain : GoodIn wsL_law (wsV RL 225 RX9 yX9_doubtAgain wsX9_doubtAgain) := goodIn_app (goodIn_of _ (by decide +kernel)) ggL_law_X9_doubtAgain
set_option maxRecDepth 20000 in
theorem ggL_law_L_sure : GoodIn wsL_law wsL_sure := goodIn_ca (goodIn_ca (goodIn_ca (goodIn_r _ [901, 408, 902, 903, 904, 905, 2, 906, 907, 908, 909, 910, 613, 614, 615, 616, 107, 108, 617, 166, 167, 619, 620, 621, 622, 19, 18, 623, 214, 215, 48, 216, 63, 57, 58, 59, 60, 217, 177, 178, 44, 179, 180, 181, 182, 183, 53, 218, 219, 220, 221, 222, 223, 224, 225, 144, 145, 146, 147, 148, 149, 150, 226, 227, 228, 229, 230, 202, 203, 204, 624, 232, 233, 234, 863, 864, 865, 866, 867, 868, 869, 870, 659, 660, 661, 662, 1384, 1385, 1386, 1387, 1388, 1389, 1390, 1391, 1392, 1393, 1394, 1395, 1425, 1426, 1427, 1428, 1429, 1430, 1431, 1424] (by decide +kernel) (by decide +kernel)) (goodIn_sub (fun _ h => List.mem_append_left _ (List.mem_append_left _ (List.mem_append_left _ (List.mem_append_left _ (List.mem_append_left _ (List.mem_append_left _ (List.mem_append_right _ h))))))) (by decide +kernel))) (goodIn_sub (fun _ h => List.mem_append_left _ (List.mem_append_right _ h)) (by decide +kernel))) (goodIn_sub (fun _ h => List.mem_append_left _ (List.mem_append_left _ (List.mem_append_left _ (List.mem_append_left _ (List.mem_append_left _ (List.mem_append_right _ h)))))) (by decide +kernel))
set_option maxRecDepth 20000 in
theorem gL_law_L_sure : GoodIn wsL_law (va_wsS RL 226 yL_sure wsL_sure) := goodIn_app (goodIn_of _ (by decide +kernel)) ggL_law_L_sure
set_option maxRecDepth 20000 in
theorem ggL_law_X9_sure : GoodIn wsL_law wsX9_sure := goodIn_ca (goodIn_r _ [914, 458, 459, 5, 460, 375, 376, 377, 378, 379, 380, 381, 382, 383, 557, 558, 559, 560, 84, 465, 466, 467, 468, 875, 876, 877, 878, 577, 578, 579, 580, 392, 393, 394, 395, 1396, 1397, 1398, 1399, 1400, 1401, 1402, 1403, 1404, 1405, 1406, 1407, 1408, 1409, 1410, 1411, 1412, 1413, 1414, 1415] (by decide +kernel) (by decide +kernel)) (goodIn_sub (fun _ h => List.mem_append_left _ (List.mem_append_left _ (List.mem_append_left _ (List.mem_append_left _ (List.mem_append_left _ (List.mem_append_left _ (List.mem_append_right _ h))))))) (by decide +kernel))
set_option maxRecDepth 20000 in
theorem gL_law_X9_sure : GoodIn wsL_law (wsV RL 228 RX9 yX9_sure wsX9_sure) := goodIn_app (goodIn_of _ (by decide +kernel)) ggL_law_X9_sure
set_option maxRecDepth 20000 in
theorem ggL_law_L_clearest : GoodIn wsL_law wsL_clearest := goodIn_ca (goodIn_ca (goodIn_r _ [917, 635, 918, 919, 920, 2, 921, 640, 641, 922, 923, 924, 925, 926, 927, 928, 929, 619, 620, 621, 622, 19, 18, 623, 214, 215, 48, 216, 63, 57, 58, 59, 60, 217, 177, 178, 44, 179, 180, 181, 182, 183, 53, 218, 219, 220, 221, 222, 223, 224, 225, 144, 145, 146, 147, 148, 149, 150, 226, 227, 228, 229, 230, 202, 203, 204, 733, 327, 328, 329, 330, 331, 332, 333, 334, 335, 336, 337, 338, 339, 340, 341, 342, 343, 344, 345, 346, 347, 863, 864, 865, 866, 867, 868, 869, 870, 659, 660, 661, 662, 1384, 1385, 1386, 1387, 1388, 1389, 1390, 1391, 1392, 1393, 1394, 1395, 1425, 1426, 1427, 1428, 1429, 1430, 1431, 1424] (by decide +kernel) (by decide +kernel)) (goodIn_sub (fun _ h => List.mem_append_left _ (List.mem_append_left _ (List.mem_append_left _ (List.mem_append_left _ (List.mem_append_left _ (List.mem_append_left _ (List.mem_append_right _ h))))))) (by decide +kernel))) (goodIn_sub (fun _ h => List.mem_append_left _ (List.mem_append_left _ (List.mem_append_right _ h))) (by decide +kernel))
set_option maxRecDepth 20000 in
theorem gL_law_L_clearest : GoodIn wsL_law (va_wsS RL 229 yL_clearest wsL_clearest) := goodIn_app (goodIn_of _ (by decide +kernel)) ggL_law_L_clearest
set_option maxRecDepth 20000 in
theorem ggL_law_X9_clearest : GoodIn wsL_law wsX9_clearest := goodIn_ca (goodIn_r _ [933, 934, 935, 936, 5, 937, 561, 562, 563, 564, 565, 566, 567, 568, 569, 570, 571, 572, 557, 558, 559, 560, 84, 465, 466, 467, 468, 573, 574, 575, 576, 577, 578, 579, 580, 581, 582, 583, 584, 585, 586, 875, 876, 877, 878, 392, 393, 394, 395, 382, 378, 379, 380, 381, 383, 1396, 1397, 1398, 1399, 1400, 1401, 1402, 1403, 1404, 1405, 1406, 1407, 1408, 1409, 1410, 1411, 1412, 1413, 1414, 1415] (by decide +kernel) (by decide +kernel)) (goodIn_sub (fun _ h => List.mem_append_left _ (List.mem_append_left _ (List.mem_append_left _ (List.mem_append_left _ (List.mem_append_left _ (List.mem_append_left _ (List.mem_append_right _ h))))))) (by decide +kernel))
set_option maxRecDepth 20000 in
theorem gL_law_X9_clearest : GoodIn wsL_law (wsV RL 231 RX9 yX9_clearest wsX9_clearest) := goodIn_app (goodIn_of _ (by decide +kernel)) ggL_law_X9_clearest
set_option maxRecDepth 20000 in
theorem ggL_law_L_worn : GoodIn wsL_law wsL_worn := goodIn_ca (goodIn_ca (goodIn_r _ [940, 635, 941, 942, 943, 2, 944, 640, 641, 18, 945, 130, 131, 44, 132, 53, 946, 947, 948, 949, 950, 951, 952, 953, 597, 152, 153, 154, 147, 148, 149, 150, 598, 202, 203, 204, 1384, 1385, 1386, 1387, 1388, 1389, 1390, 1391, 1392, 1393, 1394, 1395, 1424] (by decide +kernel) (by decide +kernel)) (goodIn_sub (fun _ h => List.mem_append_left _ (List.mem_append_left _ (List.mem_append_left _ (List.mem_append_left _ (List.mem_append_left _ (List.mem_append_left _ (List.mem_append_right _ h))))))) (by decide +kernel))) (goodIn_sub (fun _ h => List.mem_append_left _ (List.mem_append_left _ (List.mem_append_right _ h))) (by decide +kernel))
set_option maxRecDepth 20000 in
theorem gL_law_L_worn : GoodIn wsL_law (va_wsS RL 232 yL_worn wsL_worn) := goodIn_app (goodIn_of _ (by decide +kernel)) ggL_law_L_worn
set_option maxRecDepth 20000 in
theorem ggL_law_X9_worn : GoodIn wsL_law wsX9_worn := goodIn_ca (goodIn_r _ [957, 84, 958, 959, 960, 5, 961, 392, 393, 394, 395, 382, 378, 379, 380, 381, 383, 1396, 1397, 1398, 1399, 1400, 1401, 1402, 1403, 1404, 1405, 1406, 1407, 1408, 1409, 1410, 1411, 1412, 1413, 1414, 1415] (by decide +kernel) (by decide +kernel)) (goodIn_sub (fun _ h => List.mem_append_left _ (List.mem_append_left _ (List.mem_append_left _ (List.mem_append_left _ (List.mem_append_left _ (List.mem_append_left _ (List.mem_append_right _ h))))))) (by decide +kernel))
set_option maxRecDepth 20000 in
theorem gL_law_X9_worn : GoodIn wsL_law (wsV RL 234 RX9 yX9_worn wsX9_worn) := goodIn_app (goodIn_of _ (by decide +kernel)) ggL_law_X9_worn
set_option maxRecDepth 20000 in
theorem ggL_law_X8_isWell : GoodIn wsL_law wsX8_isWell := goodIn_ca (goodIn_r _ [965, 18, 619, 620, 621, 2, 622, 19, 623, 214, 215, 48, 216, 63, 57, 58, 59, 60, 217, 177, 178, 44, 179, 180, 181, 182, 183, 53, 218, 219, 220, 221, 222, 223, 224, 225, 144, 145, 146, 147, 148, 149, 150, 226, 227, 228, 229, 230, 202, 203, 204, 966, 967, 968, 969, 330, 331, 332, 333, 334, 335, 336, 337, 338, 339, 340, 341, 342, 343, 970, 691, 692, 693, 694, 695, 696, 697, 698, 699, 700, 701, 702, 703, 704, 705, 971, 809, 810, 811, 812, 813, 814, 815, 816, 817, 818, 793, 794, 795, 796, 972, 839, 840, 841, 61, 842, 843, 844, 845, 846, 847, 848, 849, 62, 850, 244, 245, 246, 973, 864, 865, 866, 867, 868, 869, 870, 659, 660, 661, 662, 974, 887, 888, 889, 890, 891, 892, 893, 625, 345, 346, 347, 945, 130, 131, 132, 975, 976, 977, 978, 196, 287, 1384, 1385, 1386, 1387, 1388, 1389, 1390, 1391, 1392, 1393, 1394, 1395, 1425, 1426, 1427, 1428, 1429, 1430, 1431, 1424] (by decide +kernel) (by decide +kernel)) (goodIn_sub (fun _ h => List.mem_append_left _ (List.mem_append_left _ (List.mem_append_left _ (List.mem_append_left _ (List.mem_append_left _ (List.mem_append_left _ (List.mem_append_right _ h))))))) (by decide +kernel))
set_option maxRecDepth 20000 in
theorem gL_law_X8_isWell : GoodIn wsL_law (wsV RL 235 RX8 yX8_isWell wsX8_isWell) := goodIn_app (goodIn_of _ (by decide +kernel)) ggL_law_X8_isWell
set_option maxRecDepth 20000 in
theorem ggL_law_X9_isWell : GoodIn wsL_law wsX9_isWell := goodIn_r _ [982, 382, 1396, 1397, 1398, 1399, 1400, 1401, 1402, 1403, 1404, 1405, 1406, 1407, 1408, 1409, 1410, 1411, 1412, 1413, 1414, 1415] (by decide +kernel) (by decide +kernel)
set_option maxRecDepth 20000 in
theorem gL_law_X9_isWell : GoodIn wsL_law (wsV RL 239 RX9 yX9_isWell wsX9_isWell) := goodIn_app (goodIn_of _ (by decide +kernel)) ggL_law_X9_isWell
set_option maxRecDepth 20000 in
theorem ggL_law_L_type : GoodIn wsL_law wsL_type := goodIn_ca (goodIn_ca (goodIn_r _ [985, 986, 987, 988, 989, 2, 990, 991, 992, 27, 993, 994, 995, 26, 996, 74, 997, 998, 999, 1000, 73, 1001, 1002, 1003, 1004, 1384, 1385, 1386, 1387, 1388, 1389, 1390, 1391, 1392, 1393, 1394, 1395, 1420, 1421] (by decide +kernel) (by decide +kernel)) (goodIn_sub (fun _ h => List.mem_append_left _ (List.mem_append_left _ (List.mem_append_left _ (List.mem_append_left _ (List.mem_append_left _ (List.mem_append_left _ (List.mem_append_right _ h))))))) (by decide +kernel))) (goodIn_sub (fun _ h => List.mem_append_right _ h) (by decide +kernel))
set_option maxRecDepth 20000 in
theorem gL_law_L_type : GoodIn wsL_law (va_wsS RL 240 yL_type wsL_type) := goodIn_app (goodIn_of _ (by decide +kernel)) ggL_law_L_type
set_option maxRecDepth 20000 in
theorem ggL_law_X9_type : GoodIn wsL_law wsX9_type := goodIn_ca (goodIn_r _ [1008, 1009, 88, 378, 379, 380, 5, 381, 382, 383, 392, 393, 394, 395, 1396, 1397, 1398, 1399, 1400, 1401, 1402, 1403, 1404, 1405, 1406, 1407, 1408, 1409, 1410, 1411, 1412, 1413, 1414, 1415] (by decide +kernel) (by decide +kernel)) (goodIn_sub (fun _ h => List.mem_append_left _ (List.mem_append_left _ (List.mem_append_left _ (List.mem_append_left _ (List.mem_append_left _ (List.mem_append_left _ (List.mem_append_right _ h))))))) (by decide +kernel))
set_option maxRecDepth 20000 in
theorem gL_law_X9_type : GoodIn wsL_law (wsV RL 243 RX9 yX9_type wsX9_type) := goodIn_app (goodIn_of _ (by decide +kernel)) ggL_law_X9_type
set_option maxRecDepth 20000 in
theorem ggL_law_L_read : GoodIn wsL_law wsL_read := goodIn_ca (goodIn_ca (goodIn_ca (goodIn_r _ [1012, 96, 97, 1013, 1014, 1015, 2, 1016, 109, 110, 111, 112, 27, 36, 18, 33, 17, 1017, 1018, 844, 1019, 23, 1020, 1021, 1022, 26, 1023, 74, 1024, 1025, 1026, 1027, 1028, 1029, 1030, 1031, 1032, 1033, 1034, 1035, 1036, 1037, 1038, 1039, 1040, 1041, 1042, 1043, 1044, 1045, 1046, 1047, 1048, 1049, 1050, 1051, 1052, 1053, 1054, 1055, 1056, 1057, 1058, 1059, 1060, 1061, 1062, 1063, 1064, 1065, 1066, 1067, 1068, 1069, 1070, 1071, 1072, 1073, 1074, 1075, 1076, 1077, 1078, 1079, 1080, 1081, 1082, 1083, 1084, 1085, 1086, 1087, 1088, 1089, 1090, 1091, 1092, 1093, 1094, 73, 1095, 1096, 1097, 1098, 1099, 1100, 1101, 1102, 1103, 1104, 1105, 1106, 1107, 1108, 1109, 1110, 1111, 239, 240, 241, 44, 242, 53, 243, 244, 245, 246, 1112, 1113, 1114, 1115, 1116, 113, 114, 115, 16, 116, 117, 118, 119, 120, 121, 122, 123, 124, 125, 126, 127, 128, 45, 129, 130, 131, 132, 133, 134, 135, 136, 137, 138, 139, 140, 141, 142, 143, 144, 145, 146, 147, 148, 149, 150, 151, 152, 153, 154, 155, 156, 157, 158, 159, 160, 161, 162, 163, 164, 165, 166, 167, 168, 169, 170, 171, 172, 173, 174, 175, 176, 177, 178, 179, 180, 181, 182, 183, 184, 185, 186, 187, 188, 189, 190, 191, 192, 193, 194, 195, 196, 197, 198, 199, 200, 201, 202, 203, 204, 205, 206, 207, 208, 209, 210, 211, 212, 49, 213, 214, 215, 48, 216, 63, 57, 58, 59, 60, 217, 218, 219, 220, 221, 222, 223, 224, 225, 226, 227, 228, 229, 230, 231, 232, 233, 234, 252, 253, 254, 255, 256, 257, 258, 259, 260, 261, 262, 263, 264, 265, 266, 267, 268, 269, 270, 271, 272, 273, 274, 275, 276, 277, 278, 279, 280, 281, 282, 283, 284, 285, 286, 287, 288, 289, 290, 291, 292, 293, 294, 295, 296, 297, 298, 299, 300, 301, 302, 303, 304, 305, 306, 307, 308, 309, 310, 311, 312, 313, 314, 315, 316, 317, 318, 319, 320, 321, 322, 323, 324, 325, 326, 327, 328, 329, 330, 331, 332, 333, 334, 335, 336, 337, 338, 339, 340, 341, 342, 343, 344, 345, 346, 347, 348, 349, 350, 351, 352, 353, 354, 355, 356, 357, 358, 359, 1117, 1118, 1119, 1120, 1121, 1122, 235, 236, 237, 238, 37, 38, 247, 248, 249, 22, 250, 68, 67, 251, 1384, 1385, 1386, 1387, 1388, 1389, 1390, 1391, 1392, 1393, 1394, 1395, 1420, 1421, 1432, 1433, 1424, 1416, 1417, 1425, 1426, 1427, 1428, 1429, 1430, 1431, 1418, 1419] (by decide +kernel) (by decide +kernel)) (goodIn_sub (fun _ h => List.mem_append_left _ (List.mem_append_left _ (List.mem_append_left _ (List.mem_append_left _ (List.mem_append_left _ (List.mem_append_left _ (List.mem_append_right _ h))))))) (by decide +kernel))) (goodIn_sub (fun _ h => List.mem_append_left _ (List.mem_append_left _ (List.mem_append_left _ (List.mem_append_left _ (List.mem_append_right _ h))))) (by decide +kernel))) (goodIn_sub (fun _ h => List.mem_append_left _ (List.mem_append_left _ (List.mem_append_left _ (List.mem_append_right _ h)))) (by decide +kernel))
set_option maxRecDepth 20000 in
theorem gL_law_L_read : GoodIn wsL_law (va_wsS RL 244 yL_read wsL_read) := goodIn_app (goodIn_of _ (by decide +kernel)) ggL_law_L_read
set_option maxRecDepth 20000 in
theorem ggL_law_X9_read : GoodIn wsL_law wsX9_read := goodIn_ca (goodIn_r _ [1126, 1127, 1128, 1009, 89, 382, 1129, 1130, 1131, 5, 1132, 91, 1133, 1134, 1135, 1136, 88, 1137, 1138, 1139, 1140, 1141, 1142, 1143, 1144, 1145, 1146, 1147, 1148, 375, 376, 377, 1149, 1150, 1151, 1152, 1153, 1154, 1155, 1156, 1157, 1158, 1159, 378, 379, 380, 381, 383, 364, 365, 366, 367, 84, 85, 368, 369, 370, 1160, 1161, 1162, 1163, 371, 372, 373, 374, 384, 385, 386, 387, 388, 389, 390, 391, 392, 393, 394, 395, 418, 419, 420, 421, 422, 423, 424, 425, 438, 439, 440, 441, 481, 482, 483, 484, 461, 462, 463, 464, 465, 466, 467, 468, 485, 486, 487, 488, 537, 538, 539, 540, 553, 554, 555, 556, 458, 459, 460, 557, 558, 559, 560, 561, 562, 563, 564, 565, 566, 567, 568, 569, 570, 571, 572, 573, 574, 575, 576, 577, 578, 579, 580, 581, 582, 583, 584, 585, 586, 454, 455, 456, 457, 501, 502, 503, 504, 505, 506, 507, 508, 521, 522, 523, 524, 1164, 1165, 1166, 1167, 396, 397, 398, 399, 400, 86, 1396, 1397, 1398, 1399, 1400, 1401, 1402, 1403, 1404, 1405, 1406, 1407, 1408, 1409, 1410, 1411, 1412, 1413, 1414, 1415] (by decide +kernel) (by decide +kernel)) (goodIn_sub (fun _ h => List.mem_append_left _ (List.mem_append_left _ (List.mem_append_left _ (List.mem_append_left _ (List.mem_append_left _ (List.mem_append_left _ (List.mem_append_right _ h))))))) (by decide +kernel))
set_option maxRecDepth 20000 in
theorem gL_law_X9_read : GoodIn wsL_law (wsV RL 247 RX9 yX9_read wsX9_read) := goodIn_app (goodIn_of _ (by decide +kernel)) ggL_law_X9_read
set_option maxRecDepth 20000 in
theorem ggL_law_L_errorPosition : GoodIn wsL_law wsL_errorPosition := goodIn_ca (goodIn_ca (goodIn_r _ [1170, 635, 1171, 1172, 1173, 2, 1174, 640, 641, 36, 1384, 1385, 1386, 1387, 1388, 1389, 1390, 1391, 1392, 1393, 1394, 1395] (by decide +kernel) (by decide +kernel)) (goodIn_sub (fun _ h => List.mem_append_left _ (List.mem_append_left _ (List.mem_append_left _ (List.mem_append_left _ (List.mem_append_left _ (List.mem_append_left _ (List.mem_append_right _ h))))))) (by decide +kernel))) (goodIn_sub (fun _ h => List.mem_append_left _ (List.mem_append_left _ (List.mem_append_right _ h))) (by decide +kernel))
set_option maxRecDepth 20000 in
theorem gL_law_L_errorPosition : GoodIn wsL_law (va_wsS RL 248 yL_errorPosition wsL_errorPosition) := goodIn_app (goodIn_of _ (by decide +kernel)) ggL_law_L_errorPosition
set_option maxRecDepth 20000 in
theorem ggL_law_X9_errorPosition : GoodIn wsL_law wsX9_errorPosition := goodIn_r _ [1178, 89, 378, 379, 380, 5, 381, 382, 383, 392, 393, 394, 395, 1396, 1397, 1398, 1399, 1400, 1401, 1402, 1403, 1404, 1405, 1406, 1407, 1408, 1409, 1410, 1411, 1412, 1413, 1414, 1415] (by decide +kernel) (by decide +kernel)
set_option maxRecDepth 20000 in
theorem gL_law_X9_errorPosition : GoodIn wsL_law (wsV RL 250 RX9 yX9_errorPosition wsX9_errorPosition) := goodIn_app (goodIn_of _ (by decide +kernel)) ggL_law_X9_errorPosition
set_option maxRecDepth 20000 in
theorem ggL_law_L_refusal : GoodIn wsL_law wsL_refusal := goodIn_ca (goodIn_ca (goodIn_r _ [1181, 635, 1182, 1183, 1184, 2, 1185, 640, 641, 38, 37, 1384, 1385, 1386, 1387, 1388, 1389, 1390, 1391, 1392, 1393, 1394, 1395] (by decide +kernel) (by decide +kernel)) (goodIn_sub (fun _ h => List.mem_append_left _ (List.mem_append_left _ (List.mem_append_left _ (List.mem_append_left _ (List.mem_append_left _ (List.mem_append_left _ (List.mem_append_right _ h))))))) (by decide +kernel))) (goodIn_sub (fun _ h => List.mem_append_left _ (List.mem_append_left _ (List.mem_append_right _ h))) (by decide +kernel))
set_option maxRecDepth 20000 in
theorem gL_law_L_refusal : GoodIn wsL_law (va_wsS RL 251 yL_refusal wsL_refusal) := goodIn_app (goodIn_of _ (by decide +kernel)) ggL_law_L_refusal
set_option maxRecDepth 20000 in
theorem ggL_law_X9_refusal : GoodIn wsL_law wsX9_refusal := goodIn_r _ [1189, 390, 388, 391, 389, 378, 379, 380, 5, 381, 382, 383, 392, 393, 394, 395, 1396, 1397, 1398, 1399, 1400, 1401, 1402, 1403, 1404, 1405, 1406, 1407, 1408, 1409, 1410, 1411, 1412, 1413, 1414, 1415] (by decide +kernel) (by decide +kernel)
set_option maxRecDepth 20000 in
theorem gL_law_X9_refusal : GoodIn wsL_law (wsV RL 254 RX9 yX9_refusal wsX9_refusal) := goodIn_app (goodIn_of _ (by decide +kernel)) ggL_law_X9_refusal
set_option maxRecDepth 20000 in
theorem ggL_law_L_show : GoodIn wsL_law wsL_show := goodIn_ca (goodIn_ca (goodIn_r _ [1192, 408, 1193, 1194, 1195, 2, 1196, 31, 18, 1197, 613, 614, 615, 616, 107, 108, 617, 166, 167, 1198, 1199, 1200, 30, 1201, 79, 618, 177, 178, 44, 179, 180, 181, 182, 183, 53, 643, 219, 220, 221, 222, 223, 224, 1202, 1203, 1204, 1205, 1206, 1207, 1208, 1209, 78, 596, 144, 145, 146, 147, 148, 149, 150, 1210, 1101, 1102, 1211, 598, 202, 203, 204, 1212, 1213, 1214, 1215, 1384, 1385, 1386, 1387, 1388, 1389, 1390, 1391, 1392, 1393, 1394, 1395, 1422, 1423, 1424] (by decide +kernel) (by decide +kernel)) (goodIn_sub (fun _ h => List.mem_append_left _ (List.mem_append_left _ (List.mem_append_left _ (List.mem_append_left _ (List.mem_append_left _ (List.mem_append_left _ (List.mem_append_right _ h))))))) (by decide +kernel))) (goodIn_sub (fun _ h => List.mem_append_left _ (List.mem_append_left _ (List.mem_append_left _ (List.mem_append_left _ (List.mem_append_left _ (List.mem_append_right _ h)))))) (by decide +kernel))
set_option maxRecDepth 20000 in
theorem gL_law_L_show : GoodIn wsL_law (va_wsS RL 255 yL_show wsL_show) := goodIn_app (goodIn_of _ (by decide +kernel)) ggL_law_L_show
set_option maxRecDepth 20000 in
theorem ggL_law_X9_show : GoodIn wsL_law wsX9_show := goodIn_ca (goodIn_r _ [1219, 1220, 84, 458, 459, 5, 460, 375, 376, 377, 378, 379, 380, 381, 382, 383, 465, 466, 467, 468, 1221, 1222, 1223, 1224, 90, 392, 393, 394, 395, 1396, 1397, 1398, 1399, 1400, 1401, 1402, 1403, 1404, 1405, 1406, 1407, 1408, 1409, 1410, 1411, 1412, 1413, 1414, 1415] (by decide +kernel) (by decide +kernel)) (goodIn_sub (fun _ h => List.mem_append_left _ (List.mem_append_left _ (List.mem_append_left _ (List.mem_append_left _ (List.mem_append_left _ (List.mem_append_left _ (List.mem_append_right _ h))))))) (by decide +kernel))
set_option maxRecDepth 20000 in
theorem gL_law_X9_show : GoodIn wsL_law (wsV RL 257 RX9 yX9_show wsX9_show) := goodIn_app (goodIn_of _ (by decide +kernel)) ggL_law_X9_show
set_option maxRecDepth 20000 in
theorem ggL_law_L_tell : GoodIn wsL_law wsL_tell := goodIn_ca (goodIn_ca (goodIn_r _ [1227, 408, 1228, 1229, 1230, 2, 1231, 31, 1232, 18, 613, 614, 615, 616, 107, 108, 617, 166, 167, 1198, 1199, 1200, 30, 1201, 79, 619, 620, 621, 622, 19, 623, 214, 215, 48, 216, 63, 57, 58, 59, 60, 217, 177, 178, 44, 179, 180, 181, 182, 183, 53, 218, 219, 220, 221, 222, 223, 224, 225, 144, 145, 146, 147, 148, 149, 150, 226, 227, 228, 229, 230, 202, 203, 204, 624, 232, 233, 234, 655, 656, 657, 658, 659, 660, 661, 662, 1211, 1207, 1208, 1209, 78, 596, 1210, 1101, 1102, 595, 1202, 1203, 1204, 1205, 1206, 598, 1212, 1213, 1214, 1215, 1384, 1385, 1386, 1387, 1388, 1389, 1390, 1391, 1392, 1393, 1394, 1395, 1422, 1423, 1425, 1426, 1427, 1428, 1429, 1430, 1431, 1424] (by decide +kernel) (by decide +kernel)) (goodIn_sub (fun _ h => List.mem_append_left _ (List.mem_append_left _ (List.mem_append_left _ (List.mem_append_left _ (List.mem_append_left _ (List.mem_append_left _ (List.mem_append_right _ h))))))) (by decide +kernel))) (goodIn_sub (fun _ h => List.mem_append_left _ (List.mem_append_left _ (List.mem_append_left _ (List.mem_append_left _ (List.mem_append_left _ (List.mem_append_right _ h)))))) (by decide +kernel))
set_option maxRecDepth 20000 in
theorem gL_law_L_tell : GoodIn wsL_law (va_wsS RL 258 yL_tell wsL_tell) := goodIn_app (goodIn_of _ (by decide +kernel)) ggL_law_L_tell
set_option maxRecDepth 20000 in
theorem ggL_law_X9_tell : GoodIn wsL_law wsX9_tell := goodIn_ca (goodIn_r _ [1236, 1220, 458, 459, 5, 460, 375, 376, 377, 378, 379, 380, 381, 382, 383, 557, 558, 559, 560, 84, 465, 466, 467, 468, 1221, 1222, 1223, 1224, 90, 577, 578, 579, 580, 1237, 1238, 1239, 1240, 392, 393, 394, 395, 1396, 1397, 1398, 1399, 1400, 1401, 1402, 1403, 1404, 1405, 1406, 1407, 1408, 1409, 1410, 1411, 1412, 1413, 1414, 1415] (by decide +kernel) (by decide +kernel)) (goodIn_sub (fun _ h => List.mem_append_left _ (List.mem_append_left _ (List.mem_append_left _ (List.mem_append_left _ (List.mem_append_left _ (List.mem_append_left _ (List.mem_append_right _ h))))))) (by decide +kernel))
set_option maxRecDepth 20000 in
theorem gL_law_X9_tell : GoodIn wsL_law (wsV RL 260 RX9 yX9_tell wsX9_tell) := goodIn_app (goodIn_of _ (by decide +kernel)) ggL_law_X9_tell
set_option maxRecDepth 20000 in
theorem ggL_law_L_written : GoodIn wsL_law wsL_written := goodIn_ca (goodIn_ca (goodIn_r _ [1243, 635, 1244, 1245, 1246, 2, 1247, 640, 641, 31, 1212, 1213, 1214, 30, 1215, 79, 1248, 1249, 1250, 1251, 78, 1384, 1385, 1386, 1387, 1388, 1389, 1390, 1391, 1392, 1393, 1394, 1395, 1422, 1423] (by decide +kernel) (by decide +kernel)) (goodIn_sub (fun _ h => List.mem_append_left _ (List.mem_append_left _ (List.mem_append_left _ (List.mem_append_left _ (List.mem_append_left _ (List.mem_append_left _ (List.mem_append_right _ h))))))) (by decide +kernel))) (goodIn_sub (fun _ h => List.mem_append_left _ (List.mem_append_left _ (List.mem_append_right _ h))) (by decide +kernel))
set_option maxRecDepth 20000 in
theorem gL_law_L_written : GoodIn wsL_law (va_wsS RL 261 yL_written wsL_written) := goodIn_app (goodIn_of _ (by decide +kernel)) ggL_law_L_written
set_option maxRecDepth 20000 in
theorem ggL_law_X9_written : GoodIn wsL_law wsX9_written := goodIn_ca (goodIn_r _ [1255, 1220, 382, 90, 375, 376, 5, 377, 1396, 1397, 1398, 1399, 1400, 1401, 1402, 1403, 1404, 1405, 1406, 1407, 1408, 1409, 1410, 1411, 1412, 1413, 1414, 1415] (by decide +kernel) (by decide +kernel)) (goodIn_sub (fun _ h => List.mem_append_left _ (List.mem_append_left _ (List.mem_append_left _ (List.mem_append_left _ (List.mem_append_left _ (List.mem_append_left _ (List.mem_append_right _ h))))))) (by decide +kernel))
set_option maxRecDepth 20000 in
theorem gL_law_X9_written : GoodIn wsL_law (wsV RL 263 RX9 yX9_written wsX9_written) := goodIn_app (goodIn_of _ (by decide +kernel)) ggL_law_X9_written
set_option maxRecDepth 20000 in
theorem ggL_law_L_account : GoodIn wsL_law wsL_account := goodIn_ca (goodIn_ca (goodIn_r _ [1258, 96, 1259, 1260, 1261, 2, 1262, 109, 110, 18, 27, 23, 945, 130, 131, 44, 132, 53, 1263, 1264, 1265, 1266, 260, 278, 144, 145, 146, 147, 148, 149, 150, 1267, 1268, 1269, 1270, 1271, 1272, 1273, 1274, 1275, 1276, 1277, 1278, 1279, 1280, 1281, 1282, 1283, 1284, 1285, 1286, 619, 620, 621, 622, 19, 623, 214, 215, 48, 216, 63, 57, 58, 59, 60, 217, 177, 178, 179, 180, 181, 182, 183, 218, 219, 220, 221, 222, 223, 224, 225, 226, 227, 228, 229, 230, 202, 203, 204, 718, 719, 720, 721, 330, 331, 332, 333, 334, 335, 336, 337, 338, 339, 340, 341, 342, 343, 1287, 1288, 1289, 1290, 1291, 1292, 1293, 1294, 1295, 1296, 1297, 1298, 1299, 1300, 1301, 1302, 1001, 1002, 1003, 26, 1004, 74, 1303, 1304, 1305, 22, 1306, 68, 1384, 1385, 1386, 1387, 1388, 1389, 1390, 1391, 1392, 1393, 1394, 1395, 1424, 1425, 1426, 1427, 1428, 1429, 1430, 1431, 1420, 1421, 1418, 1419] (by decide +kernel) (by decide +kernel)) (goodIn_sub (fun _ h => List.mem_append_left _ (List.mem_append_left _ (List.mem_append_left _ (List.mem_append_left _ (List.mem_append_left _ (List.mem_append_left _ (List.mem_append_right _ h))))))) (by decide +kernel))) (goodIn_sub (fun _ h => List.mem_append_left _ (List.mem_append_left _ (List.mem_append_left _ (List.mem_append_left _ (List.mem_append_right _ h))))) (by decide +kernel))
set_option maxRecDepth 20000 in
theorem gL_law_L_account : GoodIn wsL_law (va_wsS RL 264 yL_account wsL_account) := goodIn_app (goodIn_of _ (by decide +kernel)) ggL_law_L_account
set_option maxRecDepth 20000 in
theorem ggL_law_X9_account : GoodIn wsL_law wsX9_account := goodIn_ca (goodIn_r _ [1310, 84, 1009, 400, 392, 393, 394, 5, 395, 382, 1311, 1312, 1313, 1314, 1315, 1316, 1317, 1318, 1319, 1320, 1321, 1322, 565, 566, 567, 568, 569, 570, 571, 572, 557, 558, 559, 560, 465, 466, 467, 468, 573, 574, 575, 576, 577, 578, 579, 580, 581, 582, 583, 584, 585, 586, 378, 379, 380, 381, 383, 1396, 1397, 1398, 1399, 1400, 1401, 1402, 1403, 1404, 1405, 1406, 1407, 1408, 1409, 1410, 1411, 1412, 1413, 1414, 1415] (by decide +kernel) (by decide +kernel)) (goodIn_sub (fun _ h => List.mem_append_left _ (List.mem_append_left _ (List.mem_append_left _ (List.mem_append_left _ (List.mem_append_left _ (List.mem_append_left _ (List.mem_append_right _ h))))))) (by decide +kernel))
set_option maxRecDepth 20000 in
theorem gL_law_X9_account : GoodIn wsL_law (wsV RL 266 RX9 yX9_account wsX9_account) := goodIn_app (goodIn_of _ (by decide +kernel)) ggL_law_X9_account
set_option maxRecDepth 20000 in
theorem ggL_law_L_meanStains : GoodIn wsL_law wsL_meanStains := goodIn_ca (goodIn_ca (goodIn_r _ [1325, 902, 1326, 1327, 1328, 2, 1329, 907, 908, 18, 945, 130, 131, 44, 132, 53, 1279, 1280, 1281, 1282, 1271, 1272, 1273, 1274, 1384, 1385, 1386, 1387, 1388, 1389, 1390, 1391, 1392, 1393, 1394, 1395, 1424] (by decide +kernel) (by decide +kernel)) (goodIn_sub (fun _ h => List.mem_append_left _ (List.mem_append_left _ (List.mem_append_left _ (List.mem_append_left _ (List.mem_append_left _ (List.mem_append_left _ (List.mem_append_right _ h))))))) (by decide +kernel))) (goodIn_sub (fun _ h => List.mem_append_left _ (List.mem_append_right _ h)) (by decide +kernel))
set_option maxRecDepth 20000 in
theorem gL_law_L_meanStains : GoodIn wsL_law (va_wsS RL 267 yL_meanStains wsL_meanStains) := goodIn_app (goodIn_of _ (by decide +kernel)) ggL_law_L_meanStains
set_option maxRecDepth 20000 in
theorem ggL_law_X9_meanStains : GoodIn wsL_law wsX9_meanStains := goodIn_ca (goodIn_r _ [1333, 84, 382, 1315, 1316, 1317, 5, 1318, 1396, 1397, 1398, 1399, 1400, 1401, 1402, 1403, 1404, 1405, 1406, 1407, 1408, 1409, 1410, 1411, 1412, 1413, 1414, 1415] (by decide +kernel) (by decide +kernel)) (goodIn_sub (fun _ h => List.mem_append_left _ (List.mem_append_left _ (List.mem_append_left _ (List.mem_append_left _ (List.mem_append_left _ (List.mem_append_left _ (List.mem_append_right _ h))))))) (by decide +kernel))
set_option maxRecDepth 20000 in
theorem gL_law_X9_meanStains : GoodIn wsL_law (wsV RL 270 RX9 yX9_meanStains wsX9_meanStains) := goodIn_app (goodIn_of _ (by decide +kernel)) ggL_law_X9_meanStains
set_option maxRecDepth 20000 in
theorem ggL_law_L_foldedShare : GoodIn wsL_law wsL_foldedShare := goodIn_ca (goodIn_ca (goodIn_r _ [1336, 902, 1337, 1338, 1339, 2, 1340, 907, 908, 18, 945, 130, 131, 44, 132, 53, 1263, 1264, 1265, 1266, 260, 278, 144, 145, 146, 147, 148, 149, 150, 1384, 1385, 1386, 1387, 1388, 1389, 1390, 1391, 1392, 1393, 1394, 1395, 1424] (by decide +kernel) (by decide +kernel)) (goodIn_sub (fun _ h => List.mem_append_left _ (List.mem_append_left _ (List.mem_append_left _ (List.mem_append_left _ (List.mem_append_left _ (List.mem_append_left _ (List.mem_append_right _ h))))))) (by decide +kernel))) (goodIn_sub (fun _ h => List.mem_append_left _ (List.mem_append_right _ h)) (by decide +kernel))
set_option maxRecDepth 20000 in
theorem gL_law_L_foldedShare : GoodIn wsL_law (va_wsS RL 271 yL_foldedShare wsL_foldedShare) := goodIn_app (goodIn_of _ (by decide +kernel)) ggL_law_L_foldedShare
set_option maxRecDepth 20000 in
theorem ggL_law_X9_foldedShare : GoodIn wsL_law wsX9_foldedShare := goodIn_ca (goodIn_r _ [1344, 84, 382, 1311, 1312, 1313, 5, 1314, 1396, 1397, 1398, 1399, 1400, 1401, 1402, 1403, 1404, 1405, 1406, 1407, 1408, 1409, 1410, 1411, 1412, 1413, 1414, 1415] (by decide +kernel) (by decide +kernel)) (goodIn_sub (fun _ h => List.mem_append_left _ (List.mem_append_left _ (List.mem_append_left _ (List.mem_append_left _ (List.mem_append_left _ (List.mem_append_left _ (List.mem_append_right _ h))))))) (by decide +kernel))
set_option maxRecDepth 20000 in
theorem gL_law_X9_foldedShare : GoodIn wsL_law (wsV RL 273 RX9 yX9_foldedShare wsX9_foldedShare) := goodIn_app (goodIn_of _ (by decide +kernel)) ggL_law_X9_foldedShare
set_option maxRecDepth 20000 in
theorem ggL_law_L_undo : GoodIn wsL_law wsL_undo := goodIn_ca (goodIn_ca (goodIn_r _ [1347, 986, 1348, 1349, 1350, 2, 1351, 991, 992, 23, 33, 18, 1303, 1304, 1305, 22, 1306, 68, 1352, 1353, 1354, 1355, 67, 251, 244, 245, 246, 1118, 1119, 1120, 44, 1121, 53, 243, 1384, 1385, 1386, 1387, 1388, 1389, 1390, 1391, 1392, 1393, 1394, 1395, 1418, 1419, 1424] (by decide +kernel) (by decide +kernel)) (goodIn_sub (fun _ h => List.mem_append_left _ (List.mem_append_left _ (List.mem_append_left _ (List.mem_append_left _ (List.mem_append_left _ (List.mem_append_left _ (List.mem_append_right _ h))))))) (by decide +kernel))) (goodIn_sub (fun _ h => List.mem_append_right _ h) (by decide +kernel))
set_option maxRecDepth 20000 in
theorem gL_law_L_undo : GoodIn wsL_law (va_wsS RL 274 yL_undo wsL_undo) := goodIn_app (goodIn_of _ (by decide +kernel)) ggL_law_L_undo
set_option maxRecDepth 20000 in
theorem ggL_law_X9_undo : GoodIn wsL_law wsX9_undo := goodIn_ca (goodIn_r _ [1359, 400, 86, 84, 378, 379, 380, 5, 381, 382, 383, 368, 369, 370, 392, 393, 394, 395, 1396, 1397, 1398, 1399, 1400, 1401, 1402, 1403, 1404, 1405, 1406, 1407, 1408, 1409, 1410, 1411, 1412, 1413, 1414, 1415] (by decide +kernel) (by decide +kernel)) (goodIn_sub (fun _ h => List.mem_append_left _ (List.mem_append_left _ (List.mem_append_left _ (List.mem_append_left _ (List.mem_append_left _ (List.mem_append_left _ (List.mem_append_right _ h))))))) (by decide +kernel))
set_option maxRecDepth 20000 in
theorem gL_law_X9_undo : GoodIn wsL_law (wsV RL 276 RX9 yX9_undo wsX9_undo) := goodIn_app (goodIn_of _ (by decide +kernel)) ggL_law_X9_undo
set_option maxRecDepth 20000 in
theorem ggL_law_X8_save : GoodIn wsL_law wsX8_save := goodIn_ca (goodIn_r _ [1363, 18, 34, 35, 239, 240, 241, 44, 242, 53, 243, 244, 245, 246, 945, 130, 131, 132, 1384, 1385, 1386, 1387, 1388, 1389, 1390, 1391, 1392, 1393, 1394, 1395, 1424] (by decide +kernel) (by decide +kernel)) (goodIn_sub (fun _ h => List.mem_append_left _ (List.mem_append_left _ (List.mem_append_left _ (List.mem_append_left _ (List.mem_append_left _ (List.mem_append_left _ (List.mem_append_right _ h))))))) (by decide +kernel))
set_option maxRecDepth 20000 in
theorem gL_law_X8_save : GoodIn wsL_law (wsV RL 277 RX8 yX8_save wsX8_save) := goodIn_app (goodIn_of _ (by decide +kernel)) ggL_law_X8_save
set_option maxRecDepth 20000 in
theorem ggL_law_X9_save : GoodIn wsL_law wsX9_save := goodIn_ca (goodIn_r _ [1367, 84, 87, 1368, 368, 369, 5, 370, 392, 393, 394, 395, 382, 1396, 1397, 1398, 1399, 1400, 1401, 1402, 1403, 1404, 1405, 1406, 1407, 1408, 1409, 1410, 1411, 1412, 1413, 1414, 1415] (by decide +kernel) (by decide +kernel)) (goodIn_sub (fun _ h => List.mem_append_left _ (List.mem_append_left _ (List.mem_append_left _ (List.mem_append_left _ (List.mem_append_left _ (List.mem_append_left _ (List.mem_append_right _ h))))))) (by decide +kernel))
set_option maxRecDepth 20000 in
theorem gL_law_X9_save : GoodIn wsL_law (wsV RL 280 RX9 yX9_save wsX9_save) := goodIn_app (goodIn_of _ (by decide +kernel)) ggL_law_X9_save
set_option maxRecDepth 20000 in
theorem ggL_law_L_restore : GoodIn wsL_law wsL_restore := goodIn_ca (goodIn_ca (goodIn_r _ [1371, 986, 1372, 1373, 1374, 2, 1375, 991, 992, 35, 18, 34, 23, 1118, 1119, 1120, 44, 1121, 53, 243, 244, 245, 246, 1376, 1377, 1378, 22, 1379, 68, 945, 130, 131, 132, 1384, 1385, 1386, 1387, 1388, 1389, 1390, 1391, 1392, 1393, 1394, 1395, 1424, 1418, 1419] (by decide +kernel) (by decide +kernel)) (goodIn_sub (fun _ h => List.mem_append_left _ (List.mem_append_left _ (List.mem_append_left _ (List.mem_append_left _ (List.mem_append_left _ (List.mem_append_left _ (List.mem_append_right _ h))))))) (by decide +kernel))) (goodIn_sub (fun _ h => List.mem_append_right _ h) (by decide +kernel))
set_option maxRecDepth 20000 in
theorem gL_law_L_restore : GoodIn wsL_law (va_wsS RL 281 yL_restore wsL_restore) := goodIn_app (goodIn_of _ (by decide +kernel)) ggL_law_L_restore
set_option maxRecDepth 20000 in
theorem ggL_law_X9_restore : GoodIn wsL_law wsX9_restore := goodIn_ca (goodIn_r _ [1383, 1368, 87, 84, 400, 378, 379, 380, 5, 381, 382, 383, 368, 369, 370, 392, 393, 394, 395, 1396, 1397, 1398, 1399, 1400, 1401, 1402, 1403, 1404, 1405, 1406, 1407, 1408, 1409, 1410, 1411, 1412, 1413, 1414, 1415] (by decide +kernel) (by decide +kernel)) (goodIn_sub (fun _ h => List.mem_append_left _ (List.mem_append_left _ (List.mem_append_left _ (List.mem_append_left _ (List.mem_append_left _ (List.mem_append_left _ (List.mem_append_right _ h))))))) (by decide +kernel))
set_option maxRecDepth 20000 in
theorem gL_law_X9_restore : GoodIn wsL_law (wsV RL 283 RX9 yX9_restore wsX9_restore) := goodIn_app (goodIn_of _ (by decide +kernel)) ggL_law_X9_restore
