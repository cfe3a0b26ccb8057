theorem dL_at_0 : decode cL_at 0 = .ok (.iload_n 1, 1) := by decide +kernel
theorem dL_at_1 : decode cL_at 1 = .ok (.aload_n 0, 1) := by decide +kernel
theorem dL_at_2 : decode cL_at 2 = .ok (.arraylength, 1) := by decide +kernel
theorem dL_at_3 : decode cL_at 3 = .ok (.if_icmp .ge 9, 3) := by decide +kernel
theorem dL_at_6 : decode cL_at 6 = .ok (.aload_n 0, 1) := by decide +kernel
theorem dL_at_7 : decode cL_at 7 = .ok (.iload_n 1, 1) := by decide +kernel
theorem dL_at_8 : decode cL_at 8 = .ok (.iaload, 1) := by decide +kernel
theorem dL_at_9 : decode cL_at 9 = .ok (.goto 4, 3) := by decide +kernel
theorem dL_at_12 : decode cL_at 12 = .ok (.iconst 0, 1) := by decide +kernel
theorem dL_at_13 : decode cL_at 13 = .ok (.ireturn, 1) := by decide +kernel
set_option maxRecDepth 20000 in
theorem ggL_put_J0_length_8abf5 : GoodIn wsL_put wsJ0_length_8abf5 := goodIn_r _ [5, 6, 7, 8, 9, 4, 10, 11, 12, 73, 74, 75, 76] (by decide +kernel) (by decide +kernel)
set_option maxRecDepth 20000 in
theorem gL_put_J0_length_8abf5 : GoodIn wsL_put (wsV RL 7 RJ0 yJ0_length_8abf5 wsJ0_length_8abf5) := goodIn_app (goodIn_of _ (by decide +kernel)) ggL_put_J0_length_8abf5
set_option maxRecDepth 20000 in
theorem ggL_put_J0_charAt_5068e : GoodIn wsL_put wsJ0_charAt_5068e := goodIn_r _ [16, 6, 17, 18, 19, 4, 20, 11, 12, 21, 22, 23, 24, 25, 26, 27, 28, 29, 30, 31, 32, 33, 34, 35, 36, 37, 38, 39, 40, 41, 42, 43, 44, 45, 46, 47, 48, 49, 73, 74, 75, 76] (by decide +kernel) (by decide +kernel)
set_option maxRecDepth 20000 in
theorem gL_put_J0_charAt_5068e : GoodIn wsL_put (wsV RL 13 RJ0 yJ0_charAt_5068e wsJ0_charAt_5068e) := goodIn_app (goodIn_of _ (by decide +kernel)) ggL_put_J0_charAt_5068e
set_option maxRecDepth 20000 in
theorem ggL_put_X8_type : GoodIn wsL_put wsX8_type := goodIn_ca (goodIn_ca (goodIn_r _ [54, 55, 56, 57, 58, 59, 60, 61, 62, 63, 64, 65, 66, 67, 68, 69, 70, 71, 72, 77, 78, 79, 80, 81, 82, 83, 84, 85, 86, 87, 88, 89, 90] (by decide +kernel) (by decide +kernel)) (goodIn_sub (fun _ h => List.mem_cons_of_mem _ (List.mem_append_left _ (List.mem_append_right _ h))) (by decide +kernel))) (goodIn_sub (fun _ h => List.mem_cons_of_mem _ (List.mem_append_right _ h)) (by decide +kernel))
set_option maxRecDepth 20000 in
theorem gL_put_X8_type : GoodIn wsL_put (wsV RL 17 RX8 yX8_type wsX8_type) := goodIn_app (goodIn_of _ (by decide +kernel)) ggL_put_X8_type
theorem dL_put_0 : decode cL_put 0 = .ok (.iconst 0, 1) := by decide +kernel
theorem dL_put_1 : decode cL_put 1 = .ok (.istore_n 2, 1) := by decide +kernel
theorem dL_put_2 : decode cL_put 2 = .ok (.iload_n 2, 1) := by decide +kernel
theorem dL_put_3 : decode cL_put 3 = .ok (.aload_n 1, 1) := by decide +kernel
theorem dL_put_4 : decode cL_put 4 = .ok (.invokevirtual 7, 3) := by decide +kernel
theorem dL_put_7 : decode cL_put 7 = .ok (.if_icmp .ge 19, 3) := by decide +kernel
theorem dL_put_10 : decode cL_put 10 = .ok (.aload_n 0, 1) := by decide +kernel
theorem dL_put_11 : decode cL_put 11 = .ok (.aload_n 1, 1) := by decide +kernel
theorem dL_put_12 : decode cL_put 12 = .ok (.iload_n 2, 1) := by decide +kernel
theorem dL_put_13 : decode cL_put 13 = .ok (.invokevirtual 13, 3) := by decide +kernel
theorem dL_put_16 : decode cL_put 16 = .ok (.invokevirtual 17, 3) := by decide +kernel
theorem dL_put_19 : decode cL_put 19 = .ok (.pop, 1) := by decide +kernel
theorem dL_put_20 : decode cL_put 20 = .ok (.iinc 2 1, 3) := by decide +kernel
theorem dL_put_23 : decode cL_put 23 = .ok (.goto (-21), 3) := by decide +kernel
theorem dL_put_26 : decode cL_put 26 = .ok (.return_, 1) := by decide +kernel
set_option maxRecDepth 20000 in
theorem ggL_build_X8_init : GoodIn wsL_build wsX8_init := goodIn_r _ [10, 11, 12, 13, 14, 15, 16, 17, 18, 19, 20, 21, 22, 23, 24, 25, 26, 27, 28, 29, 30, 31, 32, 33, 34, 35, 36, 37, 38, 39, 40, 41, 42, 43, 44, 45, 46, 47, 48, 49, 50, 51, 52, 53, 54, 55, 56, 57, 58, 59, 60, 61, 62, 63, 64, 65, 66, 67, 68, 69, 70, 71, 72, 73, 74, 75, 76, 77, 78, 79, 464, 465, 452, 453, 454, 455, 456, 457, 458, 459, 460, 461, 462, 463, 466, 467, 468, 469, 470, 471, 472, 473, 474, 475, 476, 477, 478, 479] (by decide +kernel) (by decide +kernel)
set_option maxRecDepth 20000 in
theorem gL_build_X8_init : GoodIn wsL_build (wsX8_init) := ggL_build_X8_init
set_option maxRecDepth 20000 in
theorem ggL_build_L_at : GoodIn wsL_build wsL_at := goodIn_ca (goodIn_r _ [83] (by decide +kernel) (by decide +kernel)) (goodIn_sub (fun _ h => List.mem_cons_of_mem _ (List.mem_append_left _ (List.mem_append_left _ (List.mem_append_left _ (List.mem_append_right _ h))))) (by decide +kernel))
set_option maxRecDepth 20000 in
theorem gL_build_L_at : GoodIn wsL_build (va_wsS RL 24 yL_at wsL_at) := goodIn_app (goodIn_of _ (by decide +kernel)) ggL_build_L_at
set_option maxRecDepth 20000 in
theorem ggL_build_L_act : GoodIn wsL_build wsL_act := goodIn_ca (goodIn_ca (goodIn_ca (goodIn_ca (goodIn_r _ [86, 87, 88, 89, 90, 3, 91, 92, 93, 94, 95, 96, 97, 98, 99, 100, 101, 102, 17, 18, 33, 23, 103, 104, 105, 16, 106, 107, 108, 109, 110, 111, 112, 113, 114, 115, 116, 117, 118, 45, 119, 120, 121, 44, 122, 53, 123, 124, 125, 126, 127, 128, 129, 130, 131, 132, 133, 134, 135, 136, 137, 138, 139, 140, 141, 142, 143, 144, 145, 146, 147, 148, 149, 150, 151, 152, 153, 154, 155, 156, 157, 158, 159, 160, 161, 162, 163, 164, 165, 166, 167, 168, 169, 170, 171, 172, 173, 174, 175, 176, 177, 178, 179, 180, 181, 182, 183, 184, 185, 186, 187, 188, 189, 190, 191, 192, 193, 194, 195, 196, 197, 198, 199, 200, 201, 202, 49, 203, 204, 205, 48, 206, 63, 57, 58, 59, 60, 207, 208, 209, 210, 211, 212, 213, 214, 215, 216, 217, 218, 219, 220, 221, 222, 223, 224, 225, 226, 227, 228, 37, 38, 229, 230, 231, 232, 233, 234, 235, 236, 237, 238, 239, 22, 240, 68, 67, 241, 242, 243, 244, 245, 246, 247, 248, 249, 250, 251, 252, 253, 254, 255, 256, 257, 258, 259, 260, 261, 262, 263, 264, 265, 266, 267, 268, 269, 270, 271, 272, 273, 274, 275, 276, 277, 278, 279, 280, 281, 282, 283, 284, 285, 286, 287, 288, 289, 290, 291, 292, 293, 294, 295, 296, 297, 298, 299, 300, 301, 302, 303, 304, 305, 306, 307, 308, 309, 310, 311, 312, 313, 314, 315, 316, 317, 318, 319, 320, 321, 322, 323, 324, 325, 326, 327, 328, 329, 330, 331, 332, 333, 334, 335, 336, 337, 338, 339, 340, 341, 342, 343, 344, 345, 346, 347, 348, 349, 350, 351, 352, 353, 354, 355, 356, 357, 358, 359, 360, 361, 362, 363, 364, 365, 366, 367, 368, 369, 370, 371, 372, 373, 374, 375, 376, 377, 378, 379, 380, 381, 382, 383, 384, 385, 386, 387, 388, 389, 452, 453, 454, 455, 456, 457, 458, 459, 460, 461, 462, 463, 464, 465, 472, 473, 474, 475, 476, 477, 478, 479, 466, 467] (by decide +kernel) (by decide +kernel)) (goodIn_sub (fun _ h => List.mem_cons_of_mem _ (List.mem_append_left _ (List.mem_append_left _ (List.mem_append_right _ h)))) (by decide +kernel))) (goodIn_sub (fun _ h => List.mem_cons_of_mem _ (List.mem_append_left _ (List.mem_append_right _ h))) (by decide +kernel))) (goodIn_sub (fun _ h => List.mem_cons_of_mem _ (List.mem_append_right _ h)) (by decide +kernel))) (goodIn_sub (fun _ h => List.mem_cons_of_mem _ (List.mem_append_left _ (List.mem_append_left _ (List.mem_append_left _ (List.mem_append_right _ h))))) (by decide +kernel))
set_option maxRecDepth 20000 in
theorem gL_build_L_act : GoodIn wsL_build (va_wsS RL 30 yL_act wsL_act) := goodIn_app (goodIn_of _ (by decide +kernel)) ggL_build_L_act
set_option maxRecDepth 20000 in
theorem ggL_build_X8_account : GoodIn wsL_build wsX8_account := goodIn_ca (goodIn_ca (goodIn_r _ [393, 99, 100, 18, 27, 23, 394, 120, 121, 44, 122, 53, 395, 396, 397, 398, 250, 268, 134, 135, 136, 137, 138, 139, 140, 399, 400, 401, 402, 403, 404, 405, 406, 407, 408, 409, 410, 411, 412, 413, 414, 415, 416, 417, 3, 418, 419, 420, 421, 422, 19, 423, 204, 205, 48, 206, 63, 57, 58, 59, 60, 207, 167, 168, 169, 170, 171, 172, 173, 208, 209, 210, 211, 212, 213, 214, 215, 216, 217, 218, 219, 220, 192, 193, 194, 424, 425, 426, 427, 320, 321, 322, 323, 324, 325, 326, 327, 328, 329, 330, 331, 332, 333, 428, 429, 430, 431, 432, 433, 434, 435, 436, 437, 438, 439, 440, 441, 442, 443, 444, 445, 446, 26, 447, 74, 448, 449, 450, 22, 451, 68, 452, 453, 454, 455, 456, 457, 458, 459, 460, 461, 462, 463, 472, 473, 474, 475, 476, 477, 478, 479, 468, 469, 466, 467] (by decide +kernel) (by decide +kernel)) (goodIn_sub (fun _ h => List.mem_cons_of_mem _ (List.mem_append_left _ (List.mem_append_right _ h))) (by decide +kernel))) (goodIn_sub (fun _ h => List.mem_cons_of_mem _ (List.mem_append_left _ (List.mem_append_left _ (List.mem_append_left _ (List.mem_append_right _ h))))) (by decide +kernel))
set_option maxRecDepth 20000 in
theorem gL_build_X8_account : GoodIn wsL_build (wsV RL 34 RX8 yX8_account wsX8_account) := goodIn_app (goodIn_of _ (by decide +kernel)) ggL_build_X8_account
theorem dL_build_0 : decode cL_build 0 = .ok (.new 18, 3) := by decide +kernel
theorem dL_build_3 : decode cL_build 3 = .ok (.dup, 1) := by decide +kernel
theorem dL_build_4 : decode cL_build 4 = .ok (.invokespecial 23, 3) := by decide +kernel
theorem dL_build_7 : decode cL_build 7 = .ok (.astore_n 1, 1) := by decide +kernel
theorem dL_build_8 : decode cL_build 8 = .ok (.aload_n 0, 1) := by decide +kernel
theorem dL_build_9 : decode cL_build 9 = .ok (.iconst 0, 1) := by decide +kernel
theorem dL_build_10 : decode cL_build 10 = .ok (.invokestatic 24, 3) := by decide +kernel
theorem dL_build_13 : decode cL_build 13 = .ok (.istore_n 2, 1) := by decide +kernel
theorem dL_build_14 : decode cL_build 14 = .ok (.iconst 0, 1) := by decide +kernel
theorem dL_build_15 : decode cL_build 15 = .ok (.istore_n 3, 1) := by decide +kernel
theorem dL_build_16 : decode cL_build 16 = .ok (.iload_n 3, 1) := by decide +kernel
theorem dL_build_17 : decode cL_build 17 = .ok (.iconst 3, 1) := by decide +kernel
theorem dL_build_18 : decode cL_build 18 = .ok (.iload_n 2, 1) := by decide +kernel
theorem dL_build_19 : decode cL_build 19 = .ok (.iconst 3, 1) := by decide +kernel
theorem dL_build_20 : decode cL_build 20 = .ok (.iand, 1) := by decide +kernel
theorem dL_build_21 : decode cL_build 21 = .ok (.iadd, 1) := by decide +kernel
theorem dL_build_22 : decode cL_build 22 = .ok (.if_icmp .ge 26, 3) := by decide +kernel
theorem dL_build_25 : decode cL_build 25 = .ok (.aload_n 1, 1) := by decide +kernel
theorem dL_build_26 : decode cL_build 26 = .ok (.iconst 0, 1) := by decide +kernel
theorem dL_build_27 : decode cL_build 27 = .ok (.iload_n 2, 1) := by decide +kernel
theorem dL_build_28 : decode cL_build 28 = .ok (.iconst 2, 1) := by decide +kernel
theorem dL_build_29 : decode cL_build 29 = .ok (.iconst 2, 1) := by decide +kernel
theorem dL_build_30 : decode cL_build 30 = .ok (.iload_n 3, 1) := by decide +kernel
theorem dL_build_31 : decode cL_build 31 = .ok (.imul, 1) := by decide +kernel
theorem dL_build_32 : decode cL_build 32 = .ok (.iadd, 1) := by decide +kernel
theorem dL_build_33 : decode cL_build 33 = .ok (.ishr, 1) := by decide +kernel
theorem dL_build_34 : decode cL_build 34 = .ok (.iconst 3, 1) := by decide +kernel
theorem dL_build_35 : decode cL_build 35 = .ok (.iand, 1) := by decide +kernel
theorem dL_build_36 : decode cL_build 36 = .ok (.iconst 0, 1) := by decide +kernel
theorem dL_build_37 : decode cL_build 37 = .ok (.iconst 0, 1) := by decide +kernel
theorem dL_build_38 : decode cL_build 38 = .ok (.invokestatic 30, 3) := by decide +kernel
theorem dL_build_41 : decode cL_build 41 = .ok (.pop, 1) := by decide +kernel
theorem dL_build_42 : decode cL_build 42 = .ok (.iinc 3 1, 3) := by decide +kernel
theorem dL_build_45 : decode cL_build 45 = .ok (.goto (-29), 3) := by decide +kernel
theorem dL_build_48 : decode cL_build 48 = .ok (.iconst 0, 1) := by decide +kernel
theorem dL_build_49 : decode cL_build 49 = .ok (.istore_n 3, 1) := by decide +kernel
theorem dL_build_50 : decode cL_build 50 = .ok (.iload_n 3, 1) := by decide +kernel
theorem dL_build_51 : decode cL_build 51 = .ok (.iconst 3, 1) := by decide +kernel
theorem dL_build_52 : decode cL_build 52 = .ok (.if_icmp .ge 29, 3) := by decide +kernel
theorem dL_build_55 : decode cL_build 55 = .ok (.aload_n 1, 1) := by decide +kernel
theorem dL_build_56 : decode cL_build 56 = .ok (.iconst 1, 1) := by decide +kernel
theorem dL_build_57 : decode cL_build 57 = .ok (.iload_n 3, 1) := by decide +kernel
theorem dL_build_58 : decode cL_build 58 = .ok (.iconst 1, 1) := by decide +kernel
theorem dL_build_59 : decode cL_build 59 = .ok (.iload_n 2, 1) := by decide +kernel
theorem dL_build_60 : decode cL_build 60 = .ok (.bipush 16, 2) := by decide +kernel
theorem dL_build_62 : decode cL_build 62 = .ok (.iconst 2, 1) := by decide +kernel
theorem dL_build_63 : decode cL_build 63 = .ok (.iload_n 3, 1) := by decide +kernel
theorem dL_build_64 : decode cL_build 64 = .ok (.imul, 1) := by decide +kernel
theorem dL_build_65 : decode cL_build 65 = .ok (.iadd, 1) := by decide +kernel
theorem dL_build_66 : decode cL_build 66 = .ok (.ishr, 1) := by decide +kernel
theorem dL_build_67 : decode cL_build 67 = .ok (.iconst 1, 1) := by decide +kernel
theorem dL_build_68 : decode cL_build 68 = .ok (.iand, 1) := by decide +kernel
theorem dL_build_69 : decode cL_build 69 = .ok (.iadd, 1) := by decide +kernel
theorem dL_build_70 : decode cL_build 70 = .ok (.iconst 0, 1) := by decide +kernel
theorem dL_build_71 : decode cL_build 71 = .ok (.invokestatic 30, 3) := by decide +kernel
theorem dL_build_74 : decode cL_build 74 = .ok (.pop, 1) := by decide +kernel
theorem dL_build_75 : decode cL_build 75 = .ok (.iinc 3 1, 3) := by decide +kernel
theorem dL_build_78 : decode cL_build 78 = .ok (.goto (-28), 3) := by decide +kernel
theorem dL_build_81 : decode cL_build 81 = .ok (.iconst 1, 1) := by decide +kernel
theorem dL_build_82 : decode cL_build 82 = .ok (.istore_n 3, 1) := by decide +kernel
theorem dL_build_83 : decode cL_build 83 = .ok (.iload_n 3, 1) := by decide +kernel
theorem dL_build_84 : decode cL_build 84 = .ok (.bipush 13, 2) := by decide +kernel
theorem dL_build_86 : decode cL_build 86 = .ok (.if_icmp .ge 361, 3) := by decide +kernel
theorem dL_build_89 : decode cL_build 89 = .ok (.aload_n 0, 1) := by decide +kernel
theorem dL_build_90 : decode cL_build 90 = .ok (.iload_n 3, 1) := by decide +kernel
theorem dL_build_91 : decode cL_build 91 = .ok (.invokestatic 24, 3) := by decide +kernel
theorem dL_build_94 : decode cL_build 94 = .ok (.istore 4, 2) := by decide +kernel
theorem dL_build_96 : decode cL_build 96 = .ok (.iconst 1, 1) := by decide +kernel
theorem dL_build_97 : decode cL_build 97 = .ok (.aload_n 1, 1) := by decide +kernel
theorem dL_build_98 : decode cL_build 98 = .ok (.iconst 0, 1) := by decide +kernel
theorem dL_build_99 : decode cL_build 99 = .ok (.invokevirtual 34, 3) := by decide +kernel
theorem dL_build_102 : decode cL_build 102 = .ok (.invokestatic 38, 3) := by decide +kernel
theorem dL_build_105 : decode cL_build 105 = .ok (.istore 5, 2) := by decide +kernel
theorem dL_build_107 : decode cL_build 107 = .ok (.iload 4, 2) := by decide +kernel
theorem dL_build_109 : decode cL_build 109 = .ok (.bipush 15, 2) := by decide +kernel
theorem dL_build_111 : decode cL_build 111 = .ok (.iand, 1) := by decide +kernel
theorem dL_build_112 : decode cL_build 112 = .ok (.iload 5, 2) := by decide +kernel
theorem dL_build_114 : decode cL_build 114 = .ok (.irem, 1) := by decide +kernel
theorem dL_build_115 : decode cL_build 115 = .ok (.istore 6, 2) := by decide +kernel
theorem dL_build_117 : decode cL_build 117 = .ok (.aload_n 1, 1) := by decide +kernel
theorem dL_build_118 : decode cL_build 118 = .ok (.iconst 1, 1) := by decide +kernel
theorem dL_build_119 : decode cL_build 119 = .ok (.iload 6, 2) := by decide +kernel
theorem dL_build_121 : decode cL_build 121 = .ok (.iconst 1, 1) := by decide +kernel
theorem dL_build_122 : decode cL_build 122 = .ok (.iload 4, 2) := by decide +kernel
theorem dL_build_124 : decode cL_build 124 = .ok (.iconst 4, 1) := by decide +kernel
theorem dL_build_125 : decode cL_build 125 = .ok (.ishr, 1) := by decide +kernel
theorem dL_build_126 : decode cL_build 126 = .ok (.iconst 3, 1) := by decide +kernel
theorem dL_build_127 : decode cL_build 127 = .ok (.iand, 1) := by decide +kernel
theorem dL_build_128 : decode cL_build 128 = .ok (.iadd, 1) := by decide +kernel
theorem dL_build_129 : decode cL_build 129 = .ok (.iconst 0, 1) := by decide +kernel
theorem dL_build_130 : decode cL_build 130 = .ok (.invokestatic 30, 3) := by decide +kernel
theorem dL_build_133 : decode cL_build 133 = .ok (.pop, 1) := by decide +kernel
theorem dL_build_134 : decode cL_build 134 = .ok (.aload_n 1, 1) := by decide +kernel
theorem dL_build_135 : decode cL_build 135 = .ok (.iconst 3, 1) := by decide +kernel
theorem dL_build_136 : decode cL_build 136 = .ok (.iload 4, 2) := by decide +kernel
theorem dL_build_138 : decode cL_build 138 = .ok (.bipush 6, 2) := by decide +kernel
theorem dL_build_140 : decode cL_build 140 = .ok (.ishr, 1) := by decide +kernel
theorem dL_build_141 : decode cL_build 141 = .ok (.bipush 15, 2) := by decide +kernel
theorem dL_build_143 : decode cL_build 143 = .ok (.iand, 1) := by decide +kernel
theorem dL_build_144 : decode cL_build 144 = .ok (.iload 5, 2) := by decide +kernel
theorem dL_build_146 : decode cL_build 146 = .ok (.irem, 1) := by decide +kernel
theorem dL_build_147 : decode cL_build 147 = .ok (.iload 4, 2) := by decide +kernel
theorem dL_build_149 : decode cL_build 149 = .ok (.bipush 10, 2) := by decide +kernel
theorem dL_build_151 : decode cL_build 151 = .ok (.ishr, 1) := by decide +kernel
theorem dL_build_152 : decode cL_build 152 = .ok (.iconst 3, 1) := by decide +kernel
theorem dL_build_153 : decode cL_build 153 = .ok (.iand, 1) := by decide +kernel
theorem dL_build_154 : decode cL_build 154 = .ok (.iconst 3, 1) := by decide +kernel
theorem dL_build_155 : decode cL_build 155 = .ok (.if_icmp .ne 7, 3) := by decide +kernel
theorem dL_build_158 : decode cL_build 158 = .ok (.iconst 1, 1) := by decide +kernel
theorem dL_build_159 : decode cL_build 159 = .ok (.goto 4, 3) := by decide +kernel
theorem dL_build_162 : decode cL_build 162 = .ok (.iconst 0, 1) := by decide +kernel
theorem dL_build_163 : decode cL_build 163 = .ok (.iconst 0, 1) := by decide +kernel
theorem dL_build_164 : decode cL_build 164 = .ok (.invokestatic 30, 3) := by decide +kernel
theorem dL_build_167 : decode cL_build 167 = .ok (.pop, 1) := by decide +kernel
theorem dL_build_168 : decode cL_build 168 = .ok (.iload 4, 2) := by decide +kernel
theorem dL_build_170 : decode cL_build 170 = .ok (.bipush 12, 2) := by decide +kernel
theorem dL_build_172 : decode cL_build 172 = .ok (.ishr, 1) := by decide +kernel
theorem dL_build_173 : decode cL_build 173 = .ok (.iconst 3, 1) := by decide +kernel
theorem dL_build_174 : decode cL_build 174 = .ok (.iand, 1) := by decide +kernel
theorem dL_build_175 : decode cL_build 175 = .ok (.ifCond .ne 30, 3) := by decide +kernel
theorem dL_build_178 : decode cL_build 178 = .ok (.aload_n 1, 1) := by decide +kernel
theorem dL_build_179 : decode cL_build 179 = .ok (.iconst 1, 1) := by decide +kernel
theorem dL_build_180 : decode cL_build 180 = .ok (.iload 4, 2) := by decide +kernel
theorem dL_build_182 : decode cL_build 182 = .ok (.bipush 14, 2) := by decide +kernel
theorem dL_build_184 : decode cL_build 184 = .ok (.ishr, 1) := by decide +kernel
theorem dL_build_185 : decode cL_build 185 = .ok (.bipush 15, 2) := by decide +kernel
theorem dL_build_187 : decode cL_build 187 = .ok (.iand, 1) := by decide +kernel
theorem dL_build_188 : decode cL_build 188 = .ok (.iload 5, 2) := by decide +kernel
theorem dL_build_190 : decode cL_build 190 = .ok (.irem, 1) := by decide +kernel
theorem dL_build_191 : decode cL_build 191 = .ok (.iconst 1, 1) := by decide +kernel
theorem dL_build_192 : decode cL_build 192 = .ok (.iload 4, 2) := by decide +kernel
theorem dL_build_194 : decode cL_build 194 = .ok (.bipush 18, 2) := by decide +kernel
theorem dL_build_196 : decode cL_build 196 = .ok (.ishr, 1) := by decide +kernel
theorem dL_build_197 : decode cL_build 197 = .ok (.iconst 1, 1) := by decide +kernel
theorem dL_build_198 : decode cL_build 198 = .ok (.iand, 1) := by decide +kernel
theorem dL_build_199 : decode cL_build 199 = .ok (.iadd, 1) := by decide +kernel
theorem dL_build_200 : decode cL_build 200 = .ok (.iconst 0, 1) := by decide +kernel
theorem dL_build_201 : decode cL_build 201 = .ok (.invokestatic 30, 3) := by decide +kernel
theorem dL_build_204 : decode cL_build 204 = .ok (.pop, 1) := by decide +kernel
theorem dL_build_205 : decode cL_build 205 = .ok (.iload 4, 2) := by decide +kernel
theorem dL_build_207 : decode cL_build 207 = .ok (.bipush 12, 2) := by decide +kernel
theorem dL_build_209 : decode cL_build 209 = .ok (.ishr, 1) := by decide +kernel
theorem dL_build_210 : decode cL_build 210 = .ok (.bipush 7, 2) := by decide +kernel
theorem dL_build_212 : decode cL_build 212 = .ok (.iand, 1) := by decide +kernel
theorem dL_build_213 : decode cL_build 213 = .ok (.iconst 1, 1) := by decide +kernel
theorem dL_build_214 : decode cL_build 214 = .ok (.if_icmp .ne 22, 3) := by decide +kernel
theorem dL_build_217 : decode cL_build 217 = .ok (.aload_n 1, 1) := by decide +kernel
theorem dL_build_218 : decode cL_build 218 = .ok (.iconst 2, 1) := by decide +kernel
theorem dL_build_219 : decode cL_build 219 = .ok (.iload 4, 2) := by decide +kernel
theorem dL_build_221 : decode cL_build 221 = .ok (.bipush 15, 2) := by decide +kernel
theorem dL_build_223 : decode cL_build 223 = .ok (.ishr, 1) := by decide +kernel
theorem dL_build_224 : decode cL_build 224 = .ok (.bipush 15, 2) := by decide +kernel
theorem dL_build_226 : decode cL_build 226 = .ok (.iand, 1) := by decide +kernel
theorem dL_build_227 : decode cL_build 227 = .ok (.iload 5, 2) := by decide +kernel
theorem dL_build_229 : decode cL_build 229 = .ok (.irem, 1) := by decide +kernel
theorem dL_build_230 : decode cL_build 230 = .ok (.iconst 0, 1) := by decide +kernel
theorem dL_build_231 : decode cL_build 231 = .ok (.iconst 0, 1) := by decide +kernel
theorem dL_build_232 : decode cL_build 232 = .ok (.invokestatic 30, 3) := by decide +kernel
theorem dL_build_235 : decode cL_build 235 = .ok (.pop, 1) := by decide +kernel
theorem dL_build_236 : decode cL_build 236 = .ok (.iload 4, 2) := by decide +kernel
theorem dL_build_238 : decode cL_build 238 = .ok (.bipush 12, 2) := by decide +kernel
theorem dL_build_240 : decode cL_build 240 = .ok (.ishr, 1) := by decide +kernel
theorem dL_build_241 : decode cL_build 241 = .ok (.bipush 7, 2) := by decide +kernel
theorem dL_build_243 : decode cL_build 243 = .ok (.iand, 1) := by decide +kernel
theorem dL_build_244 : decode cL_build 244 = .ok (.iconst 2, 1) := by decide +kernel
theorem dL_build_245 : decode cL_build 245 = .ok (.if_icmp .ne 22, 3) := by decide +kernel
theorem dL_build_248 : decode cL_build 248 = .ok (.aload_n 1, 1) := by decide +kernel
theorem dL_build_249 : decode cL_build 249 = .ok (.iconst 4, 1) := by decide +kernel
theorem dL_build_250 : decode cL_build 250 = .ok (.iload 4, 2) := by decide +kernel
theorem dL_build_252 : decode cL_build 252 = .ok (.bipush 15, 2) := by decide +kernel
theorem dL_build_254 : decode cL_build 254 = .ok (.ishr, 1) := by decide +kernel
theorem dL_build_255 : decode cL_build 255 = .ok (.bipush 15, 2) := by decide +kernel
theorem dL_build_257 : decode cL_build 257 = .ok (.iand, 1) := by decide +kernel
theorem dL_build_258 : decode cL_build 258 = .ok (.iload 5, 2) := by decide +kernel
theorem dL_build_260 : decode cL_build 260 = .ok (.irem, 1) := by decide +kernel
theorem dL_build_261 : decode cL_build 261 = .ok (.iconst 0, 1) := by decide +kernel
theorem dL_build_262 : decode cL_build 262 = .ok (.iconst 0, 1) := by decide +kernel
theorem dL_build_263 : decode cL_build 263 = .ok (.invokestatic 30, 3) := by decide +kernel
theorem dL_build_266 : decode cL_build 266 = .ok (.pop, 1) := by decide +kernel
theorem dL_build_267 : decode cL_build 267 = .ok (.iload 4, 2) := by decide +kernel
theorem dL_build_269 : decode cL_build 269 = .ok (.bipush 12, 2) := by decide +kernel
theorem dL_build_271 : decode cL_build 271 = .ok (.ishr, 1) := by decide +kernel
theorem dL_build_272 : decode cL_build 272 = .ok (.bipush 7, 2) := by decide +kernel
theorem dL_build_274 : decode cL_build 274 = .ok (.iand, 1) := by decide +kernel
theorem dL_build_275 : decode cL_build 275 = .ok (.iconst 3, 1) := by decide +kernel
theorem dL_build_276 : decode cL_build 276 = .ok (.if_icmp .ne 31, 3) := by decide +kernel
theorem dL_build_279 : decode cL_build 279 = .ok (.aload_n 1, 1) := by decide +kernel
theorem dL_build_280 : decode cL_build 280 = .ok (.bipush 6, 2) := by decide +kernel
theorem dL_build_282 : decode cL_build 282 = .ok (.iload 4, 2) := by decide +kernel
theorem dL_build_284 : decode cL_build 284 = .ok (.bipush 15, 2) := by decide +kernel
theorem dL_build_286 : decode cL_build 286 = .ok (.ishr, 1) := by decide +kernel
theorem dL_build_287 : decode cL_build 287 = .ok (.bipush 15, 2) := by decide +kernel
theorem dL_build_289 : decode cL_build 289 = .ok (.iand, 1) := by decide +kernel
theorem dL_build_290 : decode cL_build 290 = .ok (.iload 5, 2) := by decide +kernel
theorem dL_build_292 : decode cL_build 292 = .ok (.irem, 1) := by decide +kernel
theorem dL_build_293 : decode cL_build 293 = .ok (.iconst 1, 1) := by decide +kernel
theorem dL_build_294 : decode cL_build 294 = .ok (.iload 4, 2) := by decide +kernel
theorem dL_build_296 : decode cL_build 296 = .ok (.bipush 19, 2) := by decide +kernel
theorem dL_build_298 : decode cL_build 298 = .ok (.ishr, 1) := by decide +kernel
theorem dL_build_299 : decode cL_build 299 = .ok (.iconst 3, 1) := by decide +kernel
theorem dL_build_300 : decode cL_build 300 = .ok (.iand, 1) := by decide +kernel
theorem dL_build_301 : decode cL_build 301 = .ok (.iadd, 1) := by decide +kernel
theorem dL_build_302 : decode cL_build 302 = .ok (.iconst 0, 1) := by decide +kernel
theorem dL_build_303 : decode cL_build 303 = .ok (.invokestatic 30, 3) := by decide +kernel
theorem dL_build_306 : decode cL_build 306 = .ok (.pop, 1) := by decide +kernel
theorem dL_build_307 : decode cL_build 307 = .ok (.iload 4, 2) := by decide +kernel
theorem dL_build_309 : decode cL_build 309 = .ok (.bipush 12, 2) := by decide +kernel
theorem dL_build_311 : decode cL_build 311 = .ok (.ishr, 1) := by decide +kernel
theorem dL_build_312 : decode cL_build 312 = .ok (.bipush 7, 2) := by decide +kernel
theorem dL_build_314 : decode cL_build 314 = .ok (.iand, 1) := by decide +kernel
theorem dL_build_315 : decode cL_build 315 = .ok (.iconst 5, 1) := by decide +kernel
theorem dL_build_316 : decode cL_build 316 = .ok (.if_icmp .ne 23, 3) := by decide +kernel
theorem dL_build_319 : decode cL_build 319 = .ok (.aload_n 1, 1) := by decide +kernel
theorem dL_build_320 : decode cL_build 320 = .ok (.bipush 7, 2) := by decide +kernel
theorem dL_build_322 : decode cL_build 322 = .ok (.iload 4, 2) := by decide +kernel
theorem dL_build_324 : decode cL_build 324 = .ok (.bipush 15, 2) := by decide +kernel
theorem dL_build_326 : decode cL_build 326 = .ok (.ishr, 1) := by decide +kernel
theorem dL_build_327 : decode cL_build 327 = .ok (.bipush 15, 2) := by decide +kernel
theorem dL_build_329 : decode cL_build 329 = .ok (.iand, 1) := by decide +kernel
theorem dL_build_330 : decode cL_build 330 = .ok (.iload 5, 2) := by decide +kernel
theorem dL_build_332 : decode cL_build 332 = .ok (.irem, 1) := by decide +kernel
theorem dL_build_333 : decode cL_build 333 = .ok (.iconst 0, 1) := by decide +kernel
theorem dL_build_334 : decode cL_build 334 = .ok (.iconst 0, 1) := by decide +kernel
theorem dL_build_335 : decode cL_build 335 = .ok (.invokestatic 30, 3) := by decide +kernel
theorem dL_build_338 : decode cL_build 338 = .ok (.pop, 1) := by decide +kernel
theorem dL_build_339 : decode cL_build 339 = .ok (.iload 4, 2) := by decide +kernel
theorem dL_build_341 : decode cL_build 341 = .ok (.bipush 12, 2) := by decide +kernel
theorem dL_build_343 : decode cL_build 343 = .ok (.ishr, 1) := by decide +kernel
theorem dL_build_344 : decode cL_build 344 = .ok (.bipush 7, 2) := by decide +kernel
theorem dL_build_346 : decode cL_build 346 = .ok (.iand, 1) := by decide +kernel
theorem dL_build_347 : decode cL_build 347 = .ok (.bipush 6, 2) := by decide +kernel
theorem dL_build_349 : decode cL_build 349 = .ok (.if_icmp .ne 19, 3) := by decide +kernel
theorem dL_build_352 : decode cL_build 352 = .ok (.aload_n 1, 1) := by decide +kernel
theorem dL_build_353 : decode cL_build 353 = .ok (.bipush 8, 2) := by decide +kernel
theorem dL_build_355 : decode cL_build 355 = .ok (.iload 4, 2) := by decide +kernel
theorem dL_build_357 : decode cL_build 357 = .ok (.bipush 15, 2) := by decide +kernel
theorem dL_build_359 : decode cL_build 359 = .ok (.ishr, 1) := by decide +kernel
theorem dL_build_360 : decode cL_build 360 = .ok (.iconst 1, 1) := by decide +kernel
theorem dL_build_361 : decode cL_build 361 = .ok (.iand, 1) := by decide +kernel
theorem dL_build_362 : decode cL_build 362 = .ok (.iconst 0, 1) := by decide +kernel
theorem dL_build_363 : decode cL_build 363 = .ok (.iconst 0, 1) := by decide +kernel
theorem dL_build_364 : decode cL_build 364 = .ok (.invokestatic 30, 3) := by decide +kernel
theorem dL_build_367 : decode cL_build 367 = .ok (.pop, 1) := by decide +kernel
theorem dL_build_368 : decode cL_build 368 = .ok (.iload 4, 2) := by decide +kernel
theorem dL_build_370 : decode cL_build 370 = .ok (.bipush 12, 2) := by decide +kernel
theorem dL_build_372 : decode cL_build 372 = .ok (.ishr, 1) := by decide +kernel
theorem dL_build_373 : decode cL_build 373 = .ok (.bipush 7, 2) := by decide +kernel
theorem dL_build_375 : decode cL_build 375 = .ok (.iand, 1) := by decide +kernel
theorem dL_build_376 : decode cL_build 376 = .ok (.bipush 7, 2) := by decide +kernel
theorem dL_build_378 : decode cL_build 378 = .ok (.if_icmp .ne 38, 3) := by decide +kernel
theorem dL_build_381 : decode cL_build 381 = .ok (.aload_n 1, 1) := by decide +kernel
theorem dL_build_382 : decode cL_build 382 = .ok (.iconst 5, 1) := by decide +kernel
theorem dL_build_383 : decode cL_build 383 = .ok (.iload 4, 2) := by decide +kernel
theorem dL_build_385 : decode cL_build 385 = .ok (.bipush 15, 2) := by decide +kernel
theorem dL_build_387 : decode cL_build 387 = .ok (.ishr, 1) := by decide +kernel
theorem dL_build_388 : decode cL_build 388 = .ok (.iconst 1, 1) := by decide +kernel
theorem dL_build_389 : decode cL_build 389 = .ok (.iand, 1) := by decide +kernel
theorem dL_build_390 : decode cL_build 390 = .ok (.iload 4, 2) := by decide +kernel
theorem dL_build_392 : decode cL_build 392 = .ok (.bipush 16, 2) := by decide +kernel
theorem dL_build_394 : decode cL_build 394 = .ok (.ishr, 1) := by decide +kernel
theorem dL_build_395 : decode cL_build 395 = .ok (.bipush 7, 2) := by decide +kernel
theorem dL_build_397 : decode cL_build 397 = .ok (.iand, 1) := by decide +kernel
theorem dL_build_398 : decode cL_build 398 = .ok (.bipush 6, 2) := by decide +kernel
theorem dL_build_400 : decode cL_build 400 = .ok (.irem, 1) := by decide +kernel
theorem dL_build_401 : decode cL_build 401 = .ok (.iload 4, 2) := by decide +kernel
theorem dL_build_403 : decode cL_build 403 = .ok (.bipush 19, 2) := by decide +kernel
theorem dL_build_405 : decode cL_build 405 = .ok (.ishr, 1) := by decide +kernel
theorem dL_build_406 : decode cL_build 406 = .ok (.bipush 7, 2) := by decide +kernel
theorem dL_build_408 : decode cL_build 408 = .ok (.iand, 1) := by decide +kernel
theorem dL_build_409 : decode cL_build 409 = .ok (.bipush 6, 2) := by decide +kernel
theorem dL_build_411 : decode cL_build 411 = .ok (.irem, 1) := by decide +kernel
theorem dL_build_412 : decode cL_build 412 = .ok (.invokestatic 30, 3) := by decide +kernel
theorem dL_build_415 : decode cL_build 415 = .ok (.pop, 1) := by decide +kernel
theorem dL_build_416 : decode cL_build 416 = .ok (.iload 4, 2) := by decide +kernel
theorem dL_build_418 : decode cL_build 418 = .ok (.bipush 22, 2) := by decide +kernel
theorem dL_build_420 : decode cL_build 420 = .ok (.ishr, 1) := by decide +kernel
theorem dL_build_421 : decode cL_build 421 = .ok (.iconst 3, 1) := by decide +kernel
theorem dL_build_422 : decode cL_build 422 = .ok (.iand, 1) := by decide +kernel
theorem dL_build_423 : decode cL_build 423 = .ok (.ifCond .ne 18, 3) := by decide +kernel
theorem dL_build_426 : decode cL_build 426 = .ok (.aload_n 1, 1) := by decide +kernel
theorem dL_build_427 : decode cL_build 427 = .ok (.iconst 0, 1) := by decide +kernel
theorem dL_build_428 : decode cL_build 428 = .ok (.iload 4, 2) := by decide +kernel
theorem dL_build_430 : decode cL_build 430 = .ok (.bipush 24, 2) := by decide +kernel
theorem dL_build_432 : decode cL_build 432 = .ok (.ishr, 1) := by decide +kernel
theorem dL_build_433 : decode cL_build 433 = .ok (.iconst 3, 1) := by decide +kernel
theorem dL_build_434 : decode cL_build 434 = .ok (.iand, 1) := by decide +kernel
theorem dL_build_435 : decode cL_build 435 = .ok (.iconst 0, 1) := by decide +kernel
theorem dL_build_436 : decode cL_build 436 = .ok (.iconst 0, 1) := by decide +kernel
theorem dL_build_437 : decode cL_build 437 = .ok (.invokestatic 30, 3) := by decide +kernel
theorem dL_build_440 : decode cL_build 440 = .ok (.pop, 1) := by decide +kernel
theorem dL_build_441 : decode cL_build 441 = .ok (.iinc 3 1, 3) := by decide +kernel
