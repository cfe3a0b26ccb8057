set_option maxRecDepth 20000 in
theorem gX9_foldHere_X9_foldOf : GoodIn wsX9_foldHere (va_wsS RX9 216 yX9_foldOf wsX9_foldOf) := goodIn_app (goodIn_of _ (by decide +kernel)) ggX9_foldHere_X9_foldOf
theorem dX9_foldHere_0 : decode cX9_foldHere 0 = .ok (.aload_n 0, 1) := by decide +kernel
theorem dX9_foldHere_1 : decode cX9_foldHere 1 = .ok (.invokevirtual 205, 3) := by decide +kernel
theorem dX9_foldHere_4 : decode cX9_foldHere 4 = .ok (.invokestatic 216, 3) := by decide +kernel
theorem dX9_foldHere_7 : decode cX9_foldHere 7 = .ok (.istore_n 1, 1) := by decide +kernel
theorem dX9_foldHere_8 : decode cX9_foldHere 8 = .ok (.aload_n 0, 1) := by decide +kernel
theorem dX9_foldHere_9 : decode cX9_foldHere 9 = .ok (.aload_n 0, 1) := by decide +kernel
theorem dX9_foldHere_10 : decode cX9_foldHere 10 = .ok (.getfield 202, 3) := by decide +kernel
theorem dX9_foldHere_13 : decode cX9_foldHere 13 = .ok (.ifCond .ne 7, 3) := by decide +kernel
theorem dX9_foldHere_16 : decode cX9_foldHere 16 = .ok (.iload_n 1, 1) := by decide +kernel
theorem dX9_foldHere_17 : decode cX9_foldHere 17 = .ok (.ifCond .ne 7, 3) := by decide +kernel
theorem dX9_foldHere_20 : decode cX9_foldHere 20 = .ok (.iconst 1, 1) := by decide +kernel
theorem dX9_foldHere_21 : decode cX9_foldHere 21 = .ok (.goto 4, 3) := by decide +kernel
theorem dX9_foldHere_24 : decode cX9_foldHere 24 = .ok (.iconst 0, 1) := by decide +kernel
theorem dX9_foldHere_25 : decode cX9_foldHere 25 = .ok (.putfield 202, 3) := by decide +kernel
theorem dX9_foldHere_28 : decode cX9_foldHere 28 = .ok (.aload_n 0, 1) := by decide +kernel
theorem dX9_foldHere_29 : decode cX9_foldHere 29 = .ok (.dup, 1) := by decide +kernel
theorem dX9_foldHere_30 : decode cX9_foldHere 30 = .ok (.getfield 199, 3) := by decide +kernel
theorem dX9_foldHere_33 : decode cX9_foldHere 33 = .ok (.aload_n 0, 1) := by decide +kernel
theorem dX9_foldHere_34 : decode cX9_foldHere 34 = .ok (.getfield 202, 3) := by decide +kernel
theorem dX9_foldHere_37 : decode cX9_foldHere 37 = .ok (.ifCond .eq 7, 3) := by decide +kernel
theorem dX9_foldHere_40 : decode cX9_foldHere 40 = .ok (.iconst 0, 1) := by decide +kernel
theorem dX9_foldHere_41 : decode cX9_foldHere 41 = .ok (.goto 4, 3) := by decide +kernel
theorem dX9_foldHere_44 : decode cX9_foldHere 44 = .ok (.iconst 1, 1) := by decide +kernel
theorem dX9_foldHere_45 : decode cX9_foldHere 45 = .ok (.iadd, 1) := by decide +kernel
theorem dX9_foldHere_46 : decode cX9_foldHere 46 = .ok (.putfield 199, 3) := by decide +kernel
theorem dX9_foldHere_49 : decode cX9_foldHere 49 = .ok (.iload_n 1, 1) := by decide +kernel
theorem dX9_foldHere_50 : decode cX9_foldHere 50 = .ok (.ireturn, 1) := by decide +kernel
set_option maxRecDepth 20000 in
theorem ggX9_readsOrder_X9_here : GoodIn wsX9_readsOrder wsX9_here := goodIn_ca (goodIn_r _ [8, 1, 9, 10, 37, 38, 39, 40, 41, 42, 43, 44, 45, 46, 47, 48, 49, 50, 51, 52, 53, 54, 55, 56] (by decide +kernel) (by decide +kernel)) (goodIn_sub (fun _ h => List.mem_cons_of_mem _ (List.mem_append_right _ h)) (by decide +kernel))
set_option maxRecDepth 20000 in
theorem gX9_readsOrder_X9_here : GoodIn wsX9_readsOrder (wsV RX9 205 RX9 yX9_here wsX9_here) := goodIn_app (goodIn_of _ (by decide +kernel)) ggX9_readsOrder_X9_here
set_option maxRecDepth 20000 in
theorem ggX9_readsOrder_X9_needs : GoodIn wsX9_readsOrder wsX9_needs := goodIn_ca (goodIn_r _ [14, 3, 1, 4, 5, 6, 7, 8, 9, 10, 37, 38, 39, 40, 41, 42, 43, 44, 45, 46, 47, 48, 49, 50, 51, 52, 53, 54, 55, 56] (by decide +kernel) (by decide +kernel)) (goodIn_sub (fun _ h => List.mem_cons_of_mem _ (List.mem_append_right _ h)) (by decide +kernel))
set_option maxRecDepth 20000 in
theorem gX9_readsOrder_X9_needs : GoodIn wsX9_readsOrder (wsV RX9 209 RX9 yX9_needs wsX9_needs) := goodIn_app (goodIn_of _ (by decide +kernel)) ggX9_readsOrder_X9_needs
set_option maxRecDepth 20000 in
theorem ggX9_readsOrder_X9_figureBehind : GoodIn wsX9_readsOrder wsX9_figureBehind := goodIn_ca (goodIn_r _ [18, 11, 12, 13, 7, 14, 3, 1, 4, 5, 6, 8, 9, 10, 19, 20, 21, 22, 23, 24, 25, 37, 38, 39, 40, 41, 42, 43, 44, 45, 46, 47, 48, 49, 50, 51, 52, 53, 54, 55, 56] (by decide +kernel) (by decide +kernel)) (goodIn_sub (fun _ h => List.mem_cons_of_mem _ (List.mem_append_right _ h)) (by decide +kernel))
set_option maxRecDepth 20000 in
theorem gX9_readsOrder_X9_figureBehind : GoodIn wsX9_readsOrder (wsV RX9 219 RX9 yX9_figureBehind wsX9_figureBehind) := goodIn_app (goodIn_of _ (by decide +kernel)) ggX9_readsOrder_X9_figureBehind
set_option maxRecDepth 20000 in
theorem ggX9_readsOrder_X9_needsThree : GoodIn wsX9_readsOrder wsX9_needsThree := goodIn_ca (goodIn_r _ [29, 11, 12, 13, 7, 14, 3, 1, 4, 5, 6, 8, 9, 10, 37, 38, 39, 40, 41, 42, 43, 44, 45, 46, 47, 48, 49, 50, 51, 52, 53, 54, 55, 56] (by decide +kernel) (by decide +kernel)) (goodIn_sub (fun _ h => List.mem_cons_of_mem _ (List.mem_append_right _ h)) (by decide +kernel))
set_option maxRecDepth 20000 in
theorem gX9_readsOrder_X9_needsThree : GoodIn wsX9_readsOrder (wsV RX9 222 RX9 yX9_needsThree wsX9_needsThree) := goodIn_app (goodIn_of _ (by decide +kernel)) ggX9_readsOrder_X9_needsThree
set_option maxRecDepth 20000 in
theorem ggX9_readsOrder_X9_foldHere : GoodIn wsX9_readsOrder wsX9_foldHere := goodIn_ca (goodIn_r _ [33, 3, 1, 4, 5, 6, 7, 8, 9, 10, 34, 35, 36, 37, 38, 39, 40, 41, 42, 43, 44, 45, 46, 47, 48, 49, 50, 51, 52, 53, 54, 55, 56] (by decide +kernel) (by decide +kernel)) (goodIn_sub (fun _ h => List.mem_cons_of_mem _ (List.mem_append_right _ h)) (by decide +kernel))
set_option maxRecDepth 20000 in
theorem gX9_readsOrder_X9_foldHere : GoodIn wsX9_readsOrder (wsV RX9 225 RX9 yX9_foldHere wsX9_foldHere) := goodIn_app (goodIn_of _ (by decide +kernel)) ggX9_readsOrder_X9_foldHere
set_option maxRecDepth 20000 in
theorem ggX9_readsOrder_X9_figure : GoodIn wsX9_readsOrder wsX9_figure := goodIn_ca (goodIn_r _ [22, 3, 1, 4, 5, 6, 7, 8, 9, 10, 23, 24, 25, 37, 38, 39, 40, 41, 42, 43, 44, 45, 46, 47, 48, 49, 50, 51, 52, 53, 54, 55, 56] (by decide +kernel) (by decide +kernel)) (goodIn_sub (fun _ h => List.mem_cons_of_mem _ (List.mem_append_right _ h)) (by decide +kernel))
set_option maxRecDepth 20000 in
theorem gX9_readsOrder_X9_figure : GoodIn wsX9_readsOrder (wsV RX9 213 RX9 yX9_figure wsX9_figure) := goodIn_app (goodIn_of _ (by decide +kernel)) ggX9_readsOrder_X9_figure
theorem dX9_readsOrder_0 : decode cX9_readsOrder 0 = .ok (.aload_n 0, 1) := by decide +kernel
theorem dX9_readsOrder_1 : decode cX9_readsOrder 1 = .ok (.invokevirtual 205, 3) := by decide +kernel
theorem dX9_readsOrder_4 : decode cX9_readsOrder 4 = .ok (.istore_n 2, 1) := by decide +kernel
theorem dX9_readsOrder_5 : decode cX9_readsOrder 5 = .ok (.aload_n 0, 1) := by decide +kernel
theorem dX9_readsOrder_6 : decode cX9_readsOrder 6 = .ok (.dup, 1) := by decide +kernel
theorem dX9_readsOrder_7 : decode cX9_readsOrder 7 = .ok (.getfield 199, 3) := by decide +kernel
theorem dX9_readsOrder_10 : decode cX9_readsOrder 10 = .ok (.iconst 1, 1) := by decide +kernel
theorem dX9_readsOrder_11 : decode cX9_readsOrder 11 = .ok (.iadd, 1) := by decide +kernel
theorem dX9_readsOrder_12 : decode cX9_readsOrder 12 = .ok (.putfield 199, 3) := by decide +kernel
theorem dX9_readsOrder_15 : decode cX9_readsOrder 15 = .ok (.aload_n 0, 1) := by decide +kernel
theorem dX9_readsOrder_16 : decode cX9_readsOrder 16 = .ok (.getfield 33, 3) := by decide +kernel
theorem dX9_readsOrder_19 : decode cX9_readsOrder 19 = .ok (.iload_n 1, 1) := by decide +kernel
theorem dX9_readsOrder_20 : decode cX9_readsOrder 20 = .ok (.iload_n 2, 1) := by decide +kernel
theorem dX9_readsOrder_21 : decode cX9_readsOrder 21 = .ok (.iastore, 1) := by decide +kernel
theorem dX9_readsOrder_22 : decode cX9_readsOrder 22 = .ok (.iload_n 2, 1) := by decide +kernel
theorem dX9_readsOrder_23 : decode cX9_readsOrder 23 = .ok (.tableswitch 404 102 119 #[114, 404, 404, 404, 404, 404, 261, 304, 85, 153, 404, 404, 234, 357, 180, 404, 404, 207], 85) := by decide +kernel
theorem dX9_readsOrder_108 : decode cX9_readsOrder 108 = .ok (.aload_n 0, 1) := by decide +kernel
theorem dX9_readsOrder_109 : decode cX9_readsOrder 109 = .ok (.bipush 101, 2) := by decide +kernel
theorem dX9_readsOrder_111 : decode cX9_readsOrder 111 = .ok (.invokevirtual 209, 3) := by decide +kernel
theorem dX9_readsOrder_114 : decode cX9_readsOrder 114 = .ok (.aload_n 0, 1) := by decide +kernel
theorem dX9_readsOrder_115 : decode cX9_readsOrder 115 = .ok (.bipush 119, 2) := by decide +kernel
theorem dX9_readsOrder_117 : decode cX9_readsOrder 117 = .ok (.invokevirtual 209, 3) := by decide +kernel
theorem dX9_readsOrder_120 : decode cX9_readsOrder 120 = .ok (.aload_n 0, 1) := by decide +kernel
theorem dX9_readsOrder_121 : decode cX9_readsOrder 121 = .ok (.getfield 33, 3) := by decide +kernel
theorem dX9_readsOrder_124 : decode cX9_readsOrder 124 = .ok (.iload_n 1, 1) := by decide +kernel
theorem dX9_readsOrder_125 : decode cX9_readsOrder 125 = .ok (.iconst 1, 1) := by decide +kernel
theorem dX9_readsOrder_126 : decode cX9_readsOrder 126 = .ok (.iadd, 1) := by decide +kernel
theorem dX9_readsOrder_127 : decode cX9_readsOrder 127 = .ok (.aload_n 0, 1) := by decide +kernel
theorem dX9_readsOrder_128 : decode cX9_readsOrder 128 = .ok (.bipush 32, 2) := by decide +kernel
theorem dX9_readsOrder_130 : decode cX9_readsOrder 130 = .ok (.invokevirtual 219, 3) := by decide +kernel
theorem dX9_readsOrder_133 : decode cX9_readsOrder 133 = .ok (.iastore, 1) := by decide +kernel
theorem dX9_readsOrder_134 : decode cX9_readsOrder 134 = .ok (.goto 308, 3) := by decide +kernel
theorem dX9_readsOrder_137 : decode cX9_readsOrder 137 = .ok (.aload_n 0, 1) := by decide +kernel
theorem dX9_readsOrder_138 : decode cX9_readsOrder 138 = .ok (.bipush 111, 2) := by decide +kernel
theorem dX9_readsOrder_140 : decode cX9_readsOrder 140 = .ok (.bipush 108, 2) := by decide +kernel
theorem dX9_readsOrder_142 : decode cX9_readsOrder 142 = .ok (.bipush 100, 2) := by decide +kernel
theorem dX9_readsOrder_144 : decode cX9_readsOrder 144 = .ok (.invokevirtual 222, 3) := by decide +kernel
theorem dX9_readsOrder_147 : decode cX9_readsOrder 147 = .ok (.aload_n 0, 1) := by decide +kernel
theorem dX9_readsOrder_148 : decode cX9_readsOrder 148 = .ok (.getfield 33, 3) := by decide +kernel
theorem dX9_readsOrder_151 : decode cX9_readsOrder 151 = .ok (.iload_n 1, 1) := by decide +kernel
theorem dX9_readsOrder_152 : decode cX9_readsOrder 152 = .ok (.iconst 1, 1) := by decide +kernel
theorem dX9_readsOrder_153 : decode cX9_readsOrder 153 = .ok (.iadd, 1) := by decide +kernel
theorem dX9_readsOrder_154 : decode cX9_readsOrder 154 = .ok (.aload_n 0, 1) := by decide +kernel
theorem dX9_readsOrder_155 : decode cX9_readsOrder 155 = .ok (.bipush 32, 2) := by decide +kernel
theorem dX9_readsOrder_157 : decode cX9_readsOrder 157 = .ok (.invokevirtual 219, 3) := by decide +kernel
theorem dX9_readsOrder_160 : decode cX9_readsOrder 160 = .ok (.iastore, 1) := by decide +kernel
theorem dX9_readsOrder_161 : decode cX9_readsOrder 161 = .ok (.aload_n 0, 1) := by decide +kernel
theorem dX9_readsOrder_162 : decode cX9_readsOrder 162 = .ok (.getfield 33, 3) := by decide +kernel
theorem dX9_readsOrder_165 : decode cX9_readsOrder 165 = .ok (.iload_n 1, 1) := by decide +kernel
theorem dX9_readsOrder_166 : decode cX9_readsOrder 166 = .ok (.iconst 2, 1) := by decide +kernel
theorem dX9_readsOrder_167 : decode cX9_readsOrder 167 = .ok (.iadd, 1) := by decide +kernel
theorem dX9_readsOrder_168 : decode cX9_readsOrder 168 = .ok (.aload_n 0, 1) := by decide +kernel
theorem dX9_readsOrder_169 : decode cX9_readsOrder 169 = .ok (.invokevirtual 225, 3) := by decide +kernel
theorem dX9_readsOrder_172 : decode cX9_readsOrder 172 = .ok (.iastore, 1) := by decide +kernel
theorem dX9_readsOrder_173 : decode cX9_readsOrder 173 = .ok (.goto 269, 3) := by decide +kernel
theorem dX9_readsOrder_176 : decode cX9_readsOrder 176 = .ok (.aload_n 0, 1) := by decide +kernel
theorem dX9_readsOrder_177 : decode cX9_readsOrder 177 = .ok (.bipush 112, 2) := by decide +kernel
theorem dX9_readsOrder_179 : decode cX9_readsOrder 179 = .ok (.bipush 101, 2) := by decide +kernel
theorem dX9_readsOrder_181 : decode cX9_readsOrder 181 = .ok (.bipush 110, 2) := by decide +kernel
theorem dX9_readsOrder_183 : decode cX9_readsOrder 183 = .ok (.invokevirtual 222, 3) := by decide +kernel
theorem dX9_readsOrder_186 : decode cX9_readsOrder 186 = .ok (.aload_n 0, 1) := by decide +kernel
theorem dX9_readsOrder_187 : decode cX9_readsOrder 187 = .ok (.getfield 33, 3) := by decide +kernel
theorem dX9_readsOrder_190 : decode cX9_readsOrder 190 = .ok (.iload_n 1, 1) := by decide +kernel
theorem dX9_readsOrder_191 : decode cX9_readsOrder 191 = .ok (.iconst 1, 1) := by decide +kernel
theorem dX9_readsOrder_192 : decode cX9_readsOrder 192 = .ok (.iadd, 1) := by decide +kernel
theorem dX9_readsOrder_193 : decode cX9_readsOrder 193 = .ok (.aload_n 0, 1) := by decide +kernel
theorem dX9_readsOrder_194 : decode cX9_readsOrder 194 = .ok (.bipush 32, 2) := by decide +kernel
theorem dX9_readsOrder_196 : decode cX9_readsOrder 196 = .ok (.invokevirtual 219, 3) := by decide +kernel
theorem dX9_readsOrder_199 : decode cX9_readsOrder 199 = .ok (.iastore, 1) := by decide +kernel
theorem dX9_readsOrder_200 : decode cX9_readsOrder 200 = .ok (.goto 242, 3) := by decide +kernel
theorem dX9_readsOrder_203 : decode cX9_readsOrder 203 = .ok (.aload_n 0, 1) := by decide +kernel
theorem dX9_readsOrder_204 : decode cX9_readsOrder 204 = .ok (.bipush 97, 2) := by decide +kernel
theorem dX9_readsOrder_206 : decode cX9_readsOrder 206 = .ok (.bipush 107, 2) := by decide +kernel
theorem dX9_readsOrder_208 : decode cX9_readsOrder 208 = .ok (.bipush 101, 2) := by decide +kernel
theorem dX9_readsOrder_210 : decode cX9_readsOrder 210 = .ok (.invokevirtual 222, 3) := by decide +kernel
theorem dX9_readsOrder_213 : decode cX9_readsOrder 213 = .ok (.aload_n 0, 1) := by decide +kernel
theorem dX9_readsOrder_214 : decode cX9_readsOrder 214 = .ok (.getfield 33, 3) := by decide +kernel
theorem dX9_readsOrder_217 : decode cX9_readsOrder 217 = .ok (.iload_n 1, 1) := by decide +kernel
theorem dX9_readsOrder_218 : decode cX9_readsOrder 218 = .ok (.iconst 1, 1) := by decide +kernel
theorem dX9_readsOrder_219 : decode cX9_readsOrder 219 = .ok (.iadd, 1) := by decide +kernel
theorem dX9_readsOrder_220 : decode cX9_readsOrder 220 = .ok (.aload_n 0, 1) := by decide +kernel
theorem dX9_readsOrder_221 : decode cX9_readsOrder 221 = .ok (.bipush 32, 2) := by decide +kernel
theorem dX9_readsOrder_223 : decode cX9_readsOrder 223 = .ok (.invokevirtual 219, 3) := by decide +kernel
theorem dX9_readsOrder_226 : decode cX9_readsOrder 226 = .ok (.iastore, 1) := by decide +kernel
theorem dX9_readsOrder_227 : decode cX9_readsOrder 227 = .ok (.goto 215, 3) := by decide +kernel
theorem dX9_readsOrder_230 : decode cX9_readsOrder 230 = .ok (.aload_n 0, 1) := by decide +kernel
theorem dX9_readsOrder_231 : decode cX9_readsOrder 231 = .ok (.bipush 97, 2) := by decide +kernel
theorem dX9_readsOrder_233 : decode cX9_readsOrder 233 = .ok (.bipush 115, 2) := by decide +kernel
theorem dX9_readsOrder_235 : decode cX9_readsOrder 235 = .ok (.bipush 104, 2) := by decide +kernel
theorem dX9_readsOrder_237 : decode cX9_readsOrder 237 = .ok (.invokevirtual 222, 3) := by decide +kernel
theorem dX9_readsOrder_240 : decode cX9_readsOrder 240 = .ok (.aload_n 0, 1) := by decide +kernel
theorem dX9_readsOrder_241 : decode cX9_readsOrder 241 = .ok (.getfield 33, 3) := by decide +kernel
theorem dX9_readsOrder_244 : decode cX9_readsOrder 244 = .ok (.iload_n 1, 1) := by decide +kernel
theorem dX9_readsOrder_245 : decode cX9_readsOrder 245 = .ok (.iconst 1, 1) := by decide +kernel
theorem dX9_readsOrder_246 : decode cX9_readsOrder 246 = .ok (.iadd, 1) := by decide +kernel
theorem dX9_readsOrder_247 : decode cX9_readsOrder 247 = .ok (.aload_n 0, 1) := by decide +kernel
theorem dX9_readsOrder_248 : decode cX9_readsOrder 248 = .ok (.bipush 32, 2) := by decide +kernel
theorem dX9_readsOrder_250 : decode cX9_readsOrder 250 = .ok (.invokevirtual 219, 3) := by decide +kernel
theorem dX9_readsOrder_253 : decode cX9_readsOrder 253 = .ok (.iastore, 1) := by decide +kernel
theorem dX9_readsOrder_254 : decode cX9_readsOrder 254 = .ok (.goto 188, 3) := by decide +kernel
theorem dX9_readsOrder_257 : decode cX9_readsOrder 257 = .ok (.aload_n 0, 1) := by decide +kernel
theorem dX9_readsOrder_258 : decode cX9_readsOrder 258 = .ok (.bipush 101, 2) := by decide +kernel
theorem dX9_readsOrder_260 : decode cX9_readsOrder 260 = .ok (.bipush 97, 2) := by decide +kernel
theorem dX9_readsOrder_262 : decode cX9_readsOrder 262 = .ok (.bipush 100, 2) := by decide +kernel
theorem dX9_readsOrder_264 : decode cX9_readsOrder 264 = .ok (.invokevirtual 222, 3) := by decide +kernel
theorem dX9_readsOrder_267 : decode cX9_readsOrder 267 = .ok (.aload_n 0, 1) := by decide +kernel
theorem dX9_readsOrder_268 : decode cX9_readsOrder 268 = .ok (.getfield 33, 3) := by decide +kernel
theorem dX9_readsOrder_271 : decode cX9_readsOrder 271 = .ok (.iload_n 1, 1) := by decide +kernel
theorem dX9_readsOrder_272 : decode cX9_readsOrder 272 = .ok (.iconst 1, 1) := by decide +kernel
theorem dX9_readsOrder_273 : decode cX9_readsOrder 273 = .ok (.iadd, 1) := by decide +kernel
theorem dX9_readsOrder_274 : decode cX9_readsOrder 274 = .ok (.aload_n 0, 1) := by decide +kernel
theorem dX9_readsOrder_275 : decode cX9_readsOrder 275 = .ok (.bipush 32, 2) := by decide +kernel
theorem dX9_readsOrder_277 : decode cX9_readsOrder 277 = .ok (.invokevirtual 219, 3) := by decide +kernel
theorem dX9_readsOrder_280 : decode cX9_readsOrder 280 = .ok (.iastore, 1) := by decide +kernel
theorem dX9_readsOrder_281 : decode cX9_readsOrder 281 = .ok (.goto 161, 3) := by decide +kernel
theorem dX9_readsOrder_284 : decode cX9_readsOrder 284 = .ok (.aload_n 0, 1) := by decide +kernel
theorem dX9_readsOrder_285 : decode cX9_readsOrder 285 = .ok (.bipush 97, 2) := by decide +kernel
theorem dX9_readsOrder_287 : decode cX9_readsOrder 287 = .ok (.invokevirtual 209, 3) := by decide +kernel
theorem dX9_readsOrder_290 : decode cX9_readsOrder 290 = .ok (.aload_n 0, 1) := by decide +kernel
theorem dX9_readsOrder_291 : decode cX9_readsOrder 291 = .ok (.bipush 121, 2) := by decide +kernel
theorem dX9_readsOrder_293 : decode cX9_readsOrder 293 = .ok (.invokevirtual 209, 3) := by decide +kernel
theorem dX9_readsOrder_296 : decode cX9_readsOrder 296 = .ok (.aload_n 0, 1) := by decide +kernel
theorem dX9_readsOrder_297 : decode cX9_readsOrder 297 = .ok (.getfield 33, 3) := by decide +kernel
theorem dX9_readsOrder_300 : decode cX9_readsOrder 300 = .ok (.iload_n 1, 1) := by decide +kernel
theorem dX9_readsOrder_301 : decode cX9_readsOrder 301 = .ok (.iconst 1, 1) := by decide +kernel
theorem dX9_readsOrder_302 : decode cX9_readsOrder 302 = .ok (.iadd, 1) := by decide +kernel
theorem dX9_readsOrder_303 : decode cX9_readsOrder 303 = .ok (.aload_n 0, 1) := by decide +kernel
theorem dX9_readsOrder_304 : decode cX9_readsOrder 304 = .ok (.bipush 32, 2) := by decide +kernel
theorem dX9_readsOrder_306 : decode cX9_readsOrder 306 = .ok (.invokevirtual 219, 3) := by decide +kernel
theorem dX9_readsOrder_309 : decode cX9_readsOrder 309 = .ok (.iastore, 1) := by decide +kernel
theorem dX9_readsOrder_310 : decode cX9_readsOrder 310 = .ok (.aload_n 0, 1) := by decide +kernel
theorem dX9_readsOrder_311 : decode cX9_readsOrder 311 = .ok (.getfield 33, 3) := by decide +kernel
theorem dX9_readsOrder_314 : decode cX9_readsOrder 314 = .ok (.iload_n 1, 1) := by decide +kernel
theorem dX9_readsOrder_315 : decode cX9_readsOrder 315 = .ok (.iconst 2, 1) := by decide +kernel
theorem dX9_readsOrder_316 : decode cX9_readsOrder 316 = .ok (.iadd, 1) := by decide +kernel
theorem dX9_readsOrder_317 : decode cX9_readsOrder 317 = .ok (.aload_n 0, 1) := by decide +kernel
theorem dX9_readsOrder_318 : decode cX9_readsOrder 318 = .ok (.bipush 32, 2) := by decide +kernel
theorem dX9_readsOrder_320 : decode cX9_readsOrder 320 = .ok (.invokevirtual 219, 3) := by decide +kernel
theorem dX9_readsOrder_323 : decode cX9_readsOrder 323 = .ok (.iastore, 1) := by decide +kernel
theorem dX9_readsOrder_324 : decode cX9_readsOrder 324 = .ok (.goto 118, 3) := by decide +kernel
theorem dX9_readsOrder_327 : decode cX9_readsOrder 327 = .ok (.aload_n 0, 1) := by decide +kernel
theorem dX9_readsOrder_328 : decode cX9_readsOrder 328 = .ok (.bipush 111, 2) := by decide +kernel
theorem dX9_readsOrder_330 : decode cX9_readsOrder 330 = .ok (.bipush 118, 2) := by decide +kernel
theorem dX9_readsOrder_332 : decode cX9_readsOrder 332 = .ok (.bipush 101, 2) := by decide +kernel
theorem dX9_readsOrder_334 : decode cX9_readsOrder 334 = .ok (.invokevirtual 222, 3) := by decide +kernel
theorem dX9_readsOrder_337 : decode cX9_readsOrder 337 = .ok (.aload_n 0, 1) := by decide +kernel
theorem dX9_readsOrder_338 : decode cX9_readsOrder 338 = .ok (.getfield 33, 3) := by decide +kernel
theorem dX9_readsOrder_341 : decode cX9_readsOrder 341 = .ok (.iload_n 1, 1) := by decide +kernel
theorem dX9_readsOrder_342 : decode cX9_readsOrder 342 = .ok (.iconst 1, 1) := by decide +kernel
theorem dX9_readsOrder_343 : decode cX9_readsOrder 343 = .ok (.iadd, 1) := by decide +kernel
theorem dX9_readsOrder_344 : decode cX9_readsOrder 344 = .ok (.aload_n 0, 1) := by decide +kernel
theorem dX9_readsOrder_345 : decode cX9_readsOrder 345 = .ok (.bipush 32, 2) := by decide +kernel
theorem dX9_readsOrder_347 : decode cX9_readsOrder 347 = .ok (.invokevirtual 219, 3) := by decide +kernel
theorem dX9_readsOrder_350 : decode cX9_readsOrder 350 = .ok (.iastore, 1) := by decide +kernel
theorem dX9_readsOrder_351 : decode cX9_readsOrder 351 = .ok (.aload_n 0, 1) := by decide +kernel
theorem dX9_readsOrder_352 : decode cX9_readsOrder 352 = .ok (.getfield 33, 3) := by decide +kernel
theorem dX9_readsOrder_355 : decode cX9_readsOrder 355 = .ok (.iload_n 1, 1) := by decide +kernel
theorem dX9_readsOrder_356 : decode cX9_readsOrder 356 = .ok (.iconst 2, 1) := by decide +kernel
theorem dX9_readsOrder_357 : decode cX9_readsOrder 357 = .ok (.iadd, 1) := by decide +kernel
theorem dX9_readsOrder_358 : decode cX9_readsOrder 358 = .ok (.aload_n 0, 1) := by decide +kernel
theorem dX9_readsOrder_359 : decode cX9_readsOrder 359 = .ok (.bipush 32, 2) := by decide +kernel
theorem dX9_readsOrder_361 : decode cX9_readsOrder 361 = .ok (.invokevirtual 219, 3) := by decide +kernel
theorem dX9_readsOrder_364 : decode cX9_readsOrder 364 = .ok (.iastore, 1) := by decide +kernel
theorem dX9_readsOrder_365 : decode cX9_readsOrder 365 = .ok (.aload_n 0, 1) := by decide +kernel
theorem dX9_readsOrder_366 : decode cX9_readsOrder 366 = .ok (.getfield 33, 3) := by decide +kernel
theorem dX9_readsOrder_369 : decode cX9_readsOrder 369 = .ok (.iload_n 1, 1) := by decide +kernel
theorem dX9_readsOrder_370 : decode cX9_readsOrder 370 = .ok (.iconst 3, 1) := by decide +kernel
theorem dX9_readsOrder_371 : decode cX9_readsOrder 371 = .ok (.iadd, 1) := by decide +kernel
theorem dX9_readsOrder_372 : decode cX9_readsOrder 372 = .ok (.aload_n 0, 1) := by decide +kernel
theorem dX9_readsOrder_373 : decode cX9_readsOrder 373 = .ok (.invokevirtual 213, 3) := by decide +kernel
theorem dX9_readsOrder_376 : decode cX9_readsOrder 376 = .ok (.iastore, 1) := by decide +kernel
theorem dX9_readsOrder_377 : decode cX9_readsOrder 377 = .ok (.goto 65, 3) := by decide +kernel
theorem dX9_readsOrder_380 : decode cX9_readsOrder 380 = .ok (.aload_n 0, 1) := by decide +kernel
theorem dX9_readsOrder_381 : decode cX9_readsOrder 381 = .ok (.bipush 116, 2) := by decide +kernel
theorem dX9_readsOrder_383 : decode cX9_readsOrder 383 = .ok (.bipush 97, 2) := by decide +kernel
theorem dX9_readsOrder_385 : decode cX9_readsOrder 385 = .ok (.bipush 105, 2) := by decide +kernel
theorem dX9_readsOrder_387 : decode cX9_readsOrder 387 = .ok (.invokevirtual 222, 3) := by decide +kernel
theorem dX9_readsOrder_390 : decode cX9_readsOrder 390 = .ok (.aload_n 0, 1) := by decide +kernel
theorem dX9_readsOrder_391 : decode cX9_readsOrder 391 = .ok (.bipush 110, 2) := by decide +kernel
theorem dX9_readsOrder_393 : decode cX9_readsOrder 393 = .ok (.invokevirtual 209, 3) := by decide +kernel
theorem dX9_readsOrder_396 : decode cX9_readsOrder 396 = .ok (.aload_n 0, 1) := by decide +kernel
theorem dX9_readsOrder_397 : decode cX9_readsOrder 397 = .ok (.getfield 33, 3) := by decide +kernel
theorem dX9_readsOrder_400 : decode cX9_readsOrder 400 = .ok (.iload_n 1, 1) := by decide +kernel
theorem dX9_readsOrder_401 : decode cX9_readsOrder 401 = .ok (.iconst 1, 1) := by decide +kernel
theorem dX9_readsOrder_402 : decode cX9_readsOrder 402 = .ok (.iadd, 1) := by decide +kernel
theorem dX9_readsOrder_403 : decode cX9_readsOrder 403 = .ok (.aload_n 0, 1) := by decide +kernel
theorem dX9_readsOrder_404 : decode cX9_readsOrder 404 = .ok (.bipush 32, 2) := by decide +kernel
theorem dX9_readsOrder_406 : decode cX9_readsOrder 406 = .ok (.invokevirtual 219, 3) := by decide +kernel
theorem dX9_readsOrder_409 : decode cX9_readsOrder 409 = .ok (.iastore, 1) := by decide +kernel
theorem dX9_readsOrder_410 : decode cX9_readsOrder 410 = .ok (.aload_n 0, 1) := by decide +kernel
theorem dX9_readsOrder_411 : decode cX9_readsOrder 411 = .ok (.getfield 33, 3) := by decide +kernel
theorem dX9_readsOrder_414 : decode cX9_readsOrder 414 = .ok (.iload_n 1, 1) := by decide +kernel
theorem dX9_readsOrder_415 : decode cX9_readsOrder 415 = .ok (.iconst 2, 1) := by decide +kernel
theorem dX9_readsOrder_416 : decode cX9_readsOrder 416 = .ok (.iadd, 1) := by decide +kernel
theorem dX9_readsOrder_417 : decode cX9_readsOrder 417 = .ok (.aload_n 0, 1) := by decide +kernel
theorem dX9_readsOrder_418 : decode cX9_readsOrder 418 = .ok (.bipush 43, 2) := by decide +kernel
theorem dX9_readsOrder_420 : decode cX9_readsOrder 420 = .ok (.invokevirtual 219, 3) := by decide +kernel
theorem dX9_readsOrder_423 : decode cX9_readsOrder 423 = .ok (.iastore, 1) := by decide +kernel
theorem dX9_readsOrder_424 : decode cX9_readsOrder 424 = .ok (.goto 18, 3) := by decide +kernel
theorem dX9_readsOrder_427 : decode cX9_readsOrder 427 = .ok (.aload_n 0, 1) := by decide +kernel
theorem dX9_readsOrder_428 : decode cX9_readsOrder 428 = .ok (.iconst 1, 1) := by decide +kernel
theorem dX9_readsOrder_429 : decode cX9_readsOrder 429 = .ok (.putfield 202, 3) := by decide +kernel
theorem dX9_readsOrder_432 : decode cX9_readsOrder 432 = .ok (.aload_n 0, 1) := by decide +kernel
theorem dX9_readsOrder_433 : decode cX9_readsOrder 433 = .ok (.dup, 1) := by decide +kernel
theorem dX9_readsOrder_434 : decode cX9_readsOrder 434 = .ok (.getfield 199, 3) := by decide +kernel
theorem dX9_readsOrder_437 : decode cX9_readsOrder 437 = .ok (.iconst 1, 1) := by decide +kernel
theorem dX9_readsOrder_438 : decode cX9_readsOrder 438 = .ok (.isub, 1) := by decide +kernel
theorem dX9_readsOrder_439 : decode cX9_readsOrder 439 = .ok (.putfield 199, 3) := by decide +kernel
theorem dX9_readsOrder_442 : decode cX9_readsOrder 442 = .ok (.return_, 1) := by decide +kernel
set_option maxRecDepth 20000 in
theorem ggX9_does_X9_comes : GoodIn wsX9_does wsX9_comes := goodIn_ca (goodIn_r _ [6, 7, 8, 9, 5, 10, 11, 12, 13, 14, 15, 16, 17, 18, 19, 20, 21, 22, 23, 24, 25, 26, 27, 28, 114, 115, 116, 117, 118, 119, 120, 121, 122, 123, 124, 125, 126, 127, 128, 129, 130, 131, 132, 133] (by decide +kernel) (by decide +kernel)) (goodIn_sub (fun _ h => List.mem_cons_of_mem _ (List.mem_append_right _ h)) (by decide +kernel))
set_option maxRecDepth 20000 in
theorem gX9_does_X9_comes : GoodIn wsX9_does (wsV RX9 84 RX9 yX9_comes wsX9_comes) := goodIn_app (goodIn_of _ (by decide +kernel)) ggX9_does_X9_comes
set_option maxRecDepth 20000 in
theorem ggX9_does_X9_folds : GoodIn wsX9_does wsX9_folds := goodIn_ca (goodIn_r _ [32, 7, 33, 34, 35, 5, 36, 8, 9, 10, 11, 12, 13, 14, 15, 16, 17, 18, 19, 20, 21, 22, 23, 24, 25, 26, 27, 28, 114, 115, 116, 117, 118, 119, 120, 121, 122, 123, 124, 125, 126, 127, 128, 129, 130, 131, 132, 133] (by decide +kernel) (by decide +kernel)) (goodIn_sub (fun _ h => List.mem_cons_of_mem _ (List.mem_append_right _ h)) (by decide +kernel))
set_option maxRecDepth 20000 in
theorem gX9_does_X9_folds : GoodIn wsX9_does (wsV RX9 94 RX9 yX9_folds wsX9_folds) := goodIn_app (goodIn_of _ (by decide +kernel)) ggX9_does_X9_folds
set_option maxRecDepth 20000 in
theorem ggX9_does_X9_unfolds : GoodIn wsX9_does wsX9_unfolds := goodIn_ca (goodIn_r _ [40, 7, 33, 34, 35, 5, 36, 8, 9, 10, 11, 12, 13, 14, 15, 16, 17, 18, 19, 20, 21, 22, 23, 24, 25, 26, 27, 28, 114, 115, 116, 117, 118, 119, 120, 121, 122, 123, 124, 125, 126, 127, 128, 129, 130, 131, 132, 133] (by decide +kernel) (by decide +kernel)) (goodIn_sub (fun _ h => List.mem_cons_of_mem _ (List.mem_append_right _ h)) (by decide +kernel))
set_option maxRecDepth 20000 in
theorem gX9_does_X9_unfolds : GoodIn wsX9_does (wsV RX9 97 RX9 yX9_unfolds wsX9_unfolds) := goodIn_app (goodIn_of _ (by decide +kernel)) ggX9_does_X9_unfolds
set_option maxRecDepth 20000 in
theorem ggX9_does_X9_takes : GoodIn wsX9_does wsX9_takes := goodIn_ca (goodIn_r _ [44, 33, 34, 35, 5, 36, 7, 8, 9, 10, 11, 12, 13, 14, 15, 16, 45, 46, 47, 48, 49, 50, 51, 52, 17, 18, 19, 20, 21, 22, 23, 24, 53, 54, 55, 56, 25, 26, 27, 28, 114, 115, 116, 117, 118, 119, 120, 121, 122, 123, 124, 125, 126, 127, 128, 129, 130, 131, 132, 133] (by decide +kernel) (by decide +kernel)) (goodIn_sub (fun _ h => List.mem_cons_of_mem _ (List.mem_append_right _ h)) (by decide +kernel))
set_option maxRecDepth 20000 in
theorem gX9_does_X9_takes : GoodIn wsX9_does (wsV RX9 113 RX9 yX9_takes wsX9_takes) := goodIn_app (goodIn_of _ (by decide +kernel)) ggX9_does_X9_takes
set_option maxRecDepth 20000 in
theorem ggX9_does_X9_washes : GoodIn wsX9_does wsX9_washes := goodIn_ca (goodIn_r _ [60, 7, 33, 34, 35, 5, 36, 8, 9, 10, 11, 12, 13, 14, 15, 16, 45, 46, 47, 48, 49, 50, 51, 52, 17, 18, 19, 20, 21, 22, 23, 24, 25, 26, 27, 28, 114, 115, 116, 117, 118, 119, 120, 121, 122, 123, 124, 125, 126, 127, 128, 129, 130, 131, 132, 133] (by decide +kernel) (by decide +kernel)) (goodIn_sub (fun _ h => List.mem_cons_of_mem _ (List.mem_append_right _ h)) (by decide +kernel))
set_option maxRecDepth 20000 in
theorem gX9_does_X9_washes : GoodIn wsX9_does (wsV RX9 126 RX9 yX9_washes wsX9_washes) := goodIn_app (goodIn_of _ (by decide +kernel)) ggX9_does_X9_washes
set_option maxRecDepth 20000 in
theorem ggX9_does_X9_hosts : GoodIn wsX9_does wsX9_hosts := goodIn_ca (goodIn_r _ [64, 7, 65, 66, 5, 67, 8, 9, 10, 11, 12, 13, 14, 15, 16, 68, 69, 70, 71, 49, 50, 51, 52, 17, 18, 19, 20, 21, 22, 23, 24, 72, 73, 74, 75, 76, 77, 78, 79, 80, 81, 82, 83, 84, 85, 86, 87, 88, 89, 90, 91, 92, 93, 94, 95, 96, 97, 25, 26, 27, 28, 114, 115, 116, 117, 118, 119, 120, 121, 122, 123, 124, 125, 126, 127, 128, 129, 130, 131, 132, 133] (by decide +kernel) (by decide +kernel)) (goodIn_sub (fun _ h => List.mem_cons_of_mem _ (List.mem_append_right _ h)) (by decide +kernel))
set_option maxRecDepth 20000 in
theorem gX9_does_X9_hosts : GoodIn wsX9_does (wsV RX9 153 RX9 yX9_hosts wsX9_hosts) := goodIn_app (goodIn_of _ (by decide +kernel)) ggX9_does_X9_hosts
set_option maxRecDepth 20000 in
theorem ggX9_does_X9_lays : GoodIn wsX9_does wsX9_lays := goodIn_ca (goodIn_r _ [101, 7, 33, 34, 35, 5, 36, 8, 9, 10, 65, 66, 67, 11, 12, 13, 14, 15, 16, 45, 46, 47, 48, 49, 50, 51, 52, 17, 18, 19, 20, 21, 22, 23, 24, 25, 26, 27, 28, 114, 115, 116, 117, 118, 119, 120, 121, 122, 123, 124, 125, 126, 127, 128, 129, 130, 131, 132, 133] (by decide +kernel) (by decide +kernel)) (goodIn_sub (fun _ h => List.mem_cons_of_mem _ (List.mem_append_right _ h)) (by decide +kernel))
set_option maxRecDepth 20000 in
theorem gX9_does_X9_lays : GoodIn wsX9_does (wsV RX9 106 RX9 yX9_lays wsX9_lays) := goodIn_app (goodIn_of _ (by decide +kernel)) ggX9_does_X9_lays
set_option maxRecDepth 20000 in
theorem ggX9_does_X9_moves : GoodIn wsX9_does wsX9_moves := goodIn_ca (goodIn_r _ [105, 7, 65, 66, 5, 67, 8, 9, 10, 11, 12, 13, 14, 15, 16, 17, 18, 19, 20, 21, 22, 23, 24, 49, 50, 51, 52, 53, 54, 55, 56, 106, 107, 108, 109, 25, 26, 27, 28, 114, 115, 116, 117, 118, 119, 120, 121, 122, 123, 124, 125, 126, 127, 128, 129, 130, 131, 132, 133] (by decide +kernel) (by decide +kernel)) (goodIn_sub (fun _ h => List.mem_cons_of_mem _ (List.mem_append_right _ h)) (by decide +kernel))
set_option maxRecDepth 20000 in
theorem gX9_does_X9_moves : GoodIn wsX9_does (wsV RX9 120 RX9 yX9_moves wsX9_moves) := goodIn_app (goodIn_of _ (by decide +kernel)) ggX9_does_X9_moves
set_option maxRecDepth 20000 in
theorem ggX9_does_X9_stains : GoodIn wsX9_does wsX9_stains := goodIn_ca (goodIn_r _ [113, 7, 33, 34, 35, 5, 36, 8, 9, 10, 11, 12, 13, 14, 15, 16, 17, 18, 19, 20, 21, 22, 23, 24, 25, 26, 27, 28, 114, 115, 116, 117, 118, 119, 120, 121, 122, 123, 124, 125, 126, 127, 128, 129, 130, 131, 132, 133] (by decide +kernel) (by decide +kernel)) (goodIn_sub (fun _ h => List.mem_cons_of_mem _ (List.mem_append_right _ h)) (by decide +kernel))
set_option maxRecDepth 20000 in
theorem gX9_does_X9_stains : GoodIn wsX9_does (wsV RX9 123 RX9 yX9_stains wsX9_stains) := goodIn_app (goodIn_of _ (by decide +kernel)) ggX9_does_X9_stains
theorem dX9_does_0 : decode cX9_does 0 = .ok (.aload_n 0, 1) := by decide +kernel
theorem dX9_does_1 : decode cX9_does 1 = .ok (.getfield 33, 3) := by decide +kernel
theorem dX9_does_4 : decode cX9_does 4 = .ok (.iload_n 1, 1) := by decide +kernel
theorem dX9_does_5 : decode cX9_does 5 = .ok (.iconst 1, 1) := by decide +kernel
theorem dX9_does_6 : decode cX9_does 6 = .ok (.iadd, 1) := by decide +kernel
theorem dX9_does_7 : decode cX9_does 7 = .ok (.iaload, 1) := by decide +kernel
theorem dX9_does_8 : decode cX9_does 8 = .ok (.istore_n 2, 1) := by decide +kernel
theorem dX9_does_9 : decode cX9_does 9 = .ok (.aload_n 0, 1) := by decide +kernel
theorem dX9_does_10 : decode cX9_does 10 = .ok (.getfield 33, 3) := by decide +kernel
theorem dX9_does_13 : decode cX9_does 13 = .ok (.iload_n 1, 1) := by decide +kernel
theorem dX9_does_14 : decode cX9_does 14 = .ok (.iconst 2, 1) := by decide +kernel
theorem dX9_does_15 : decode cX9_does 15 = .ok (.iadd, 1) := by decide +kernel
theorem dX9_does_16 : decode cX9_does 16 = .ok (.iaload, 1) := by decide +kernel
theorem dX9_does_17 : decode cX9_does 17 = .ok (.istore_n 3, 1) := by decide +kernel
theorem dX9_does_18 : decode cX9_does 18 = .ok (.aload_n 0, 1) := by decide +kernel
theorem dX9_does_19 : decode cX9_does 19 = .ok (.getfield 33, 3) := by decide +kernel
theorem dX9_does_22 : decode cX9_does 22 = .ok (.iload_n 1, 1) := by decide +kernel
theorem dX9_does_23 : decode cX9_does 23 = .ok (.iaload, 1) := by decide +kernel
theorem dX9_does_24 : decode cX9_does 24 = .ok (.tableswitch 147 102 119 #[94, 147, 147, 147, 147, 147, 125, 132, 88, 101, 147, 147, 119, 147, 107, 147, 147, 113], 88) := by decide +kernel
theorem dX9_does_112 : decode cX9_does 112 = .ok (.aload_n 0, 1) := by decide +kernel
theorem dX9_does_113 : decode cX9_does 113 = .ok (.iload_n 2, 1) := by decide +kernel
theorem dX9_does_114 : decode cX9_does 114 = .ok (.invokevirtual 84, 3) := by decide +kernel
theorem dX9_does_117 : decode cX9_does 117 = .ok (.ireturn, 1) := by decide +kernel
theorem dX9_does_118 : decode cX9_does 118 = .ok (.aload_n 0, 1) := by decide +kernel
theorem dX9_does_119 : decode cX9_does 119 = .ok (.iload_n 2, 1) := by decide +kernel
theorem dX9_does_120 : decode cX9_does 120 = .ok (.iload_n 3, 1) := by decide +kernel
theorem dX9_does_121 : decode cX9_does 121 = .ok (.invokevirtual 94, 3) := by decide +kernel
theorem dX9_does_124 : decode cX9_does 124 = .ok (.ireturn, 1) := by decide +kernel
theorem dX9_does_125 : decode cX9_does 125 = .ok (.aload_n 0, 1) := by decide +kernel
theorem dX9_does_126 : decode cX9_does 126 = .ok (.iload_n 2, 1) := by decide +kernel
theorem dX9_does_127 : decode cX9_does 127 = .ok (.invokevirtual 97, 3) := by decide +kernel
theorem dX9_does_130 : decode cX9_does 130 = .ok (.ireturn, 1) := by decide +kernel
theorem dX9_does_131 : decode cX9_does 131 = .ok (.aload_n 0, 1) := by decide +kernel
theorem dX9_does_132 : decode cX9_does 132 = .ok (.iload_n 2, 1) := by decide +kernel
theorem dX9_does_133 : decode cX9_does 133 = .ok (.invokevirtual 113, 3) := by decide +kernel
theorem dX9_does_136 : decode cX9_does 136 = .ok (.ireturn, 1) := by decide +kernel
theorem dX9_does_137 : decode cX9_does 137 = .ok (.aload_n 0, 1) := by decide +kernel
theorem dX9_does_138 : decode cX9_does 138 = .ok (.iload_n 2, 1) := by decide +kernel
theorem dX9_does_139 : decode cX9_does 139 = .ok (.invokevirtual 126, 3) := by decide +kernel
theorem dX9_does_142 : decode cX9_does 142 = .ok (.ireturn, 1) := by decide +kernel
theorem dX9_does_143 : decode cX9_does 143 = .ok (.aload_n 0, 1) := by decide +kernel
theorem dX9_does_144 : decode cX9_does 144 = .ok (.iload_n 2, 1) := by decide +kernel
theorem dX9_does_145 : decode cX9_does 145 = .ok (.invokevirtual 153, 3) := by decide +kernel
theorem dX9_does_148 : decode cX9_does 148 = .ok (.ireturn, 1) := by decide +kernel
theorem dX9_does_149 : decode cX9_does 149 = .ok (.aload_n 0, 1) := by decide +kernel
theorem dX9_does_150 : decode cX9_does 150 = .ok (.iload_n 2, 1) := by decide +kernel
theorem dX9_does_151 : decode cX9_does 151 = .ok (.iload_n 3, 1) := by decide +kernel
theorem dX9_does_152 : decode cX9_does 152 = .ok (.invokevirtual 106, 3) := by decide +kernel
theorem dX9_does_155 : decode cX9_does 155 = .ok (.ireturn, 1) := by decide +kernel
theorem dX9_does_156 : decode cX9_does 156 = .ok (.aload_n 0, 1) := by decide +kernel
theorem dX9_does_157 : decode cX9_does 157 = .ok (.iload_n 2, 1) := by decide +kernel
theorem dX9_does_158 : decode cX9_does 158 = .ok (.iload_n 3, 1) := by decide +kernel
theorem dX9_does_159 : decode cX9_does 159 = .ok (.aload_n 0, 1) := by decide +kernel
theorem dX9_does_160 : decode cX9_does 160 = .ok (.getfield 33, 3) := by decide +kernel
theorem dX9_does_163 : decode cX9_does 163 = .ok (.iload_n 1, 1) := by decide +kernel
theorem dX9_does_164 : decode cX9_does 164 = .ok (.iconst 3, 1) := by decide +kernel
theorem dX9_does_165 : decode cX9_does 165 = .ok (.iadd, 1) := by decide +kernel
theorem dX9_does_166 : decode cX9_does 166 = .ok (.iaload, 1) := by decide +kernel
theorem dX9_does_167 : decode cX9_does 167 = .ok (.invokevirtual 120, 3) := by decide +kernel
theorem dX9_does_170 : decode cX9_does 170 = .ok (.ireturn, 1) := by decide +kernel
theorem dX9_does_171 : decode cX9_does 171 = .ok (.aload_n 0, 1) := by decide +kernel
theorem dX9_does_172 : decode cX9_does 172 = .ok (.iload_n 2, 1) := by decide +kernel
theorem dX9_does_173 : decode cX9_does 173 = .ok (.iload_n 3, 1) := by decide +kernel
theorem dX9_does_174 : decode cX9_does 174 = .ok (.invokevirtual 123, 3) := by decide +kernel
theorem dX9_does_177 : decode cX9_does 177 = .ok (.ireturn, 1) := by decide +kernel
set_option maxRecDepth 20000 in
theorem ggX9_refusesText_X9_refused : GoodIn wsX9_refusesText wsX9_refused := goodIn_r _ [10, 2, 3, 4, 5, 11, 1, 12, 13, 14, 15, 16, 17, 18, 19, 20, 21, 22, 23, 24, 25, 26, 27, 28, 29, 30, 31] (by decide +kernel) (by decide +kernel)
set_option maxRecDepth 20000 in
theorem gX9_refusesText_X9_refused : GoodIn wsX9_refusesText (wsV RX9 74 RX9 yX9_refused wsX9_refused) := goodIn_app (goodIn_of _ (by decide +kernel)) ggX9_refusesText_X9_refused
theorem dX9_refusesText_0 : decode cX9_refusesText 0 = .ok (.aload_n 0, 1) := by decide +kernel
theorem dX9_refusesText_1 : decode cX9_refusesText 1 = .ok (.getfield 39, 3) := by decide +kernel
theorem dX9_refusesText_4 : decode cX9_refusesText 4 = .ok (.ifCond .eq 10, 3) := by decide +kernel
theorem dX9_refusesText_7 : decode cX9_refusesText 7 = .ok (.aload_n 0, 1) := by decide +kernel
theorem dX9_refusesText_8 : decode cX9_refusesText 8 = .ok (.getfield 43, 3) := by decide +kernel
theorem dX9_refusesText_11 : decode cX9_refusesText 11 = .ok (.goto 4, 3) := by decide +kernel
theorem dX9_refusesText_14 : decode cX9_refusesText 14 = .ok (.iconst 0, 1) := by decide +kernel
theorem dX9_refusesText_15 : decode cX9_refusesText 15 = .ok (.istore_n 2, 1) := by decide +kernel
theorem dX9_refusesText_16 : decode cX9_refusesText 16 = .ok (.aload_n 0, 1) := by decide +kernel
theorem dX9_refusesText_17 : decode cX9_refusesText 17 = .ok (.getfield 39, 3) := by decide +kernel
theorem dX9_refusesText_20 : decode cX9_refusesText 20 = .ok (.ifCond .eq 10, 3) := by decide +kernel
theorem dX9_refusesText_23 : decode cX9_refusesText 23 = .ok (.aload_n 0, 1) := by decide +kernel
theorem dX9_refusesText_24 : decode cX9_refusesText 24 = .ok (.getfield 46, 3) := by decide +kernel
theorem dX9_refusesText_27 : decode cX9_refusesText 27 = .ok (.goto 4, 3) := by decide +kernel
theorem dX9_refusesText_30 : decode cX9_refusesText 30 = .ok (.iconst 0, 1) := by decide +kernel
theorem dX9_refusesText_31 : decode cX9_refusesText 31 = .ok (.istore_n 3, 1) := by decide +kernel
theorem dX9_refusesText_32 : decode cX9_refusesText 32 = .ok (.aload_n 0, 1) := by decide +kernel
theorem dX9_refusesText_33 : decode cX9_refusesText 33 = .ok (.bipush 9, 2) := by decide +kernel
theorem dX9_refusesText_35 : decode cX9_refusesText 35 = .ok (.iload_n 1, 1) := by decide +kernel
theorem dX9_refusesText_36 : decode cX9_refusesText 36 = .ok (.iconst 2, 1) := by decide +kernel
theorem dX9_refusesText_37 : decode cX9_refusesText 37 = .ok (.invokevirtual 74, 3) := by decide +kernel
theorem dX9_refusesText_40 : decode cX9_refusesText 40 = .ok (.istore 4, 2) := by decide +kernel
theorem dX9_refusesText_42 : decode cX9_refusesText 42 = .ok (.aload_n 0, 1) := by decide +kernel
theorem dX9_refusesText_43 : decode cX9_refusesText 43 = .ok (.iload_n 2, 1) := by decide +kernel
theorem dX9_refusesText_44 : decode cX9_refusesText 44 = .ok (.putfield 49, 3) := by decide +kernel
theorem dX9_refusesText_47 : decode cX9_refusesText 47 = .ok (.aload_n 0, 1) := by decide +kernel
theorem dX9_refusesText_48 : decode cX9_refusesText 48 = .ok (.iload_n 3, 1) := by decide +kernel
theorem dX9_refusesText_49 : decode cX9_refusesText 49 = .ok (.putfield 52, 3) := by decide +kernel
theorem dX9_refusesText_52 : decode cX9_refusesText 52 = .ok (.iload 4, 2) := by decide +kernel
theorem dX9_refusesText_54 : decode cX9_refusesText 54 = .ok (.ireturn, 1) := by decide +kernel
set_option maxRecDepth 20000 in
theorem ggX9_read_X9_readsOrder : GoodIn wsX9_read wsX9_readsOrder := goodIn_ca (goodIn_r _ [10, 1, 11, 2, 12, 13, 14, 9, 15, 3, 16, 17, 18, 19, 20, 21, 22, 23, 24, 25, 26, 27, 28, 29, 30, 31, 32, 33, 34, 35, 36, 37, 38, 39, 40, 41, 42, 172, 173, 174, 175, 176, 177, 178, 179, 180, 181, 182, 183, 184, 185, 186, 187, 188, 189, 190, 191] (by decide +kernel) (by decide +kernel)) (goodIn_sub (fun _ h => List.mem_cons_of_mem _ (List.mem_append_right _ h)) (by decide +kernel))
set_option maxRecDepth 20000 in
theorem gX9_read_X9_readsOrder : GoodIn wsX9_read (wsV RX9 228 RX9 yX9_readsOrder wsX9_readsOrder) := goodIn_app (goodIn_of _ (by decide +kernel)) ggX9_read_X9_readsOrder
set_option maxRecDepth 20000 in
theorem ggX9_read_X9_here : GoodIn wsX9_read wsX9_here := goodIn_ca (goodIn_r _ [15, 1, 3, 16, 172, 173, 174, 175, 176, 177, 178, 179, 180, 181, 182, 183, 184, 185, 186, 187, 188, 189, 190, 191] (by decide +kernel) (by decide +kernel)) (goodIn_sub (fun _ h => List.mem_cons_of_mem _ (List.mem_append_right _ h)) (by decide +kernel))
set_option maxRecDepth 20000 in
theorem gX9_read_X9_here : GoodIn wsX9_read (wsV RX9 205 RX9 yX9_here wsX9_here) := goodIn_app (goodIn_of _ (by decide +kernel)) ggX9_read_X9_here
set_option maxRecDepth 20000 in
theorem ggX9_read_X9_fails : GoodIn wsX9_read wsX9_fails := goodIn_r _ [46, 5, 47, 172, 173, 174, 175, 176, 177, 178, 179, 180, 181, 182, 183, 184, 185, 186, 187, 188, 189, 190, 191] (by decide +kernel) (by decide +kernel)
set_option maxRecDepth 20000 in
theorem gX9_read_X9_fails : GoodIn wsX9_read (wsV RX9 70 RX9 yX9_fails wsX9_fails) := goodIn_app (goodIn_of _ (by decide +kernel)) ggX9_read_X9_fails
set_option maxRecDepth 20000 in
theorem ggX9_read_X9_looksBack : GoodIn wsX9_read wsX9_looksBack := goodIn_ca (goodIn_r _ [51, 52, 53, 54, 55, 9, 56, 172, 173, 174, 175, 176, 177, 178, 179, 180, 181, 182, 183, 184, 185, 186, 187, 188, 189, 190, 191] (by decide +kernel) (by decide +kernel)) (goodIn_sub (fun _ h => List.mem_cons_of_mem _ (List.mem_append_right _ h)) (by decide +kernel))
set_option maxRecDepth 20000 in
theorem gX9_read_X9_looksBack : GoodIn wsX9_read (wsV RX9 81 RX9 yX9_looksBack wsX9_looksBack) := goodIn_app (goodIn_of _ (by decide +kernel)) ggX9_read_X9_looksBack
set_option maxRecDepth 20000 in
theorem ggX9_read_X9_does : GoodIn wsX9_read wsX9_does := goodIn_ca (goodIn_r _ [60, 11, 61, 62, 63, 9, 64, 52, 29, 30, 31, 43, 44, 45, 46, 5, 47, 65, 66, 67, 68, 69, 70, 71, 72, 73, 74, 75, 76, 77, 78, 79, 80, 81, 82, 83, 84, 85, 86, 87, 88, 89, 90, 91, 92, 93, 94, 95, 96, 97, 98, 99, 100, 101, 102, 103, 104, 105, 106, 107, 108, 109, 110, 111, 112, 113, 114, 115, 116, 117, 118, 119, 120, 121, 122, 123, 124, 125, 126, 127, 128, 129, 130, 131, 132, 133, 134, 135, 136, 137, 138, 139, 140, 141, 142, 143, 144, 145, 146, 147, 148, 149, 150, 151, 152, 153, 154, 155, 156, 157, 158, 159, 160, 161, 172, 173, 174, 175, 176, 177, 178, 179, 180, 181, 182, 183, 184, 185, 186, 187, 188, 189, 190, 191] (by decide +kernel) (by decide +kernel)) (goodIn_sub (fun _ h => List.mem_cons_of_mem _ (List.mem_append_right _ h)) (by decide +kernel))
set_option maxRecDepth 20000 in
theorem gX9_read_X9_does : GoodIn wsX9_read (wsV RX9 231 RX9 yX9_does wsX9_does) := goodIn_app (goodIn_of _ (by decide +kernel)) ggX9_read_X9_does
set_option maxRecDepth 20000 in
theorem ggX9_read_X9_refusesText : GoodIn wsX9_read wsX9_refusesText := goodIn_r _ [165, 47, 69, 70, 71, 72, 65, 66, 67, 9, 68, 5, 172, 173, 174, 175, 176, 177, 178, 179, 180, 181, 182, 183, 184, 185, 186, 187, 188, 189, 190, 191] (by decide +kernel) (by decide +kernel)
set_option maxRecDepth 20000 in
theorem gX9_read_X9_refusesText : GoodIn wsX9_read (wsV RX9 234 RX9 yX9_refusesText wsX9_refusesText) := goodIn_app (goodIn_of _ (by decide +kernel)) ggX9_read_X9_refusesText
set_option maxRecDepth 20000 in
theorem ggX9_read_X9_kept : GoodIn wsX9_read wsX9_kept := goodIn_ca (goodIn_r _ [169, 5, 53, 52, 170, 171, 54, 55, 9, 56, 172, 173, 174, 175, 176, 177, 178, 179, 180, 181, 182, 183, 184, 185, 186, 187, 188, 189, 190, 191] (by decide +kernel) (by decide +kernel)) (goodIn_sub (fun _ h => List.mem_cons_of_mem _ (List.mem_append_right _ h)) (by decide +kernel))
set_option maxRecDepth 20000 in
theorem gX9_read_X9_kept : GoodIn wsX9_read (wsV RX9 87 RX9 yX9_kept wsX9_kept) := goodIn_app (goodIn_of _ (by decide +kernel)) ggX9_read_X9_kept
set_option maxRecDepth 20000 in
theorem ggX9_read_X9_done : GoodIn wsX9_read wsX9_done := goodIn_r _ [76, 5, 172, 173, 174, 175, 176, 177, 178, 179, 180, 181, 182, 183, 184, 185, 186, 187, 188, 189, 190, 191] (by decide +kernel) (by decide +kernel)
set_option maxRecDepth 20000 in
theorem gX9_read_X9_done : GoodIn wsX9_read (wsV RX9 78 RX9 yX9_done wsX9_done) := goodIn_app (goodIn_of _ (by decide +kernel)) ggX9_read_X9_done
theorem dX9_read_0 : decode cX9_read 0 = .ok (.aload_n 0, 1) := by decide +kernel
theorem dX9_read_1 : decode cX9_read 1 = .ok (.iconst 0, 1) := by decide +kernel
theorem dX9_read_2 : decode cX9_read 2 = .ok (.putfield 199, 3) := by decide +kernel
theorem dX9_read_5 : decode cX9_read 5 = .ok (.aload_n 0, 1) := by decide +kernel
theorem dX9_read_6 : decode cX9_read 6 = .ok (.iconst 0, 1) := by decide +kernel
theorem dX9_read_7 : decode cX9_read 7 = .ok (.putfield 202, 3) := by decide +kernel
theorem dX9_read_10 : decode cX9_read 10 = .ok (.iconst 0, 1) := by decide +kernel
theorem dX9_read_11 : decode cX9_read 11 = .ok (.istore_n 1, 1) := by decide +kernel
theorem dX9_read_12 : decode cX9_read 12 = .ok (.iconst 1, 1) := by decide +kernel
theorem dX9_read_13 : decode cX9_read 13 = .ok (.istore_n 2, 1) := by decide +kernel
theorem dX9_read_14 : decode cX9_read 14 = .ok (.iload_n 2, 1) := by decide +kernel
theorem dX9_read_15 : decode cX9_read 15 = .ok (.ifCond .eq 56, 3) := by decide +kernel
theorem dX9_read_18 : decode cX9_read 18 = .ok (.aload_n 0, 1) := by decide +kernel
theorem dX9_read_19 : decode cX9_read 19 = .ok (.iconst 4, 1) := by decide +kernel
theorem dX9_read_20 : decode cX9_read 20 = .ok (.iload_n 1, 1) := by decide +kernel
theorem dX9_read_21 : decode cX9_read 21 = .ok (.imul, 1) := by decide +kernel
theorem dX9_read_22 : decode cX9_read 22 = .ok (.invokevirtual 228, 3) := by decide +kernel
theorem dX9_read_25 : decode cX9_read 25 = .ok (.iinc 1 1, 3) := by decide +kernel
theorem dX9_read_28 : decode cX9_read 28 = .ok (.aload_n 0, 1) := by decide +kernel
theorem dX9_read_29 : decode cX9_read 29 = .ok (.getfield 202, 3) := by decide +kernel
theorem dX9_read_32 : decode cX9_read 32 = .ok (.ifCond .ne 16, 3) := by decide +kernel
theorem dX9_read_35 : decode cX9_read 35 = .ok (.aload_n 0, 1) := by decide +kernel
theorem dX9_read_36 : decode cX9_read 36 = .ok (.invokevirtual 205, 3) := by decide +kernel
theorem dX9_read_39 : decode cX9_read 39 = .ok (.bipush 59, 2) := by decide +kernel
theorem dX9_read_41 : decode cX9_read 41 = .ok (.if_icmp .ne 7, 3) := by decide +kernel
theorem dX9_read_44 : decode cX9_read 44 = .ok (.iconst 1, 1) := by decide +kernel
theorem dX9_read_45 : decode cX9_read 45 = .ok (.goto 4, 3) := by decide +kernel
theorem dX9_read_48 : decode cX9_read 48 = .ok (.iconst 0, 1) := by decide +kernel
theorem dX9_read_49 : decode cX9_read 49 = .ok (.istore_n 2, 1) := by decide +kernel
theorem dX9_read_50 : decode cX9_read 50 = .ok (.aload_n 0, 1) := by decide +kernel
theorem dX9_read_51 : decode cX9_read 51 = .ok (.dup, 1) := by decide +kernel
theorem dX9_read_52 : decode cX9_read 52 = .ok (.getfield 199, 3) := by decide +kernel
theorem dX9_read_55 : decode cX9_read 55 = .ok (.iload_n 2, 1) := by decide +kernel
theorem dX9_read_56 : decode cX9_read 56 = .ok (.ifCond .eq 7, 3) := by decide +kernel
theorem dX9_read_59 : decode cX9_read 59 = .ok (.iconst 1, 1) := by decide +kernel
theorem dX9_read_60 : decode cX9_read 60 = .ok (.goto 4, 3) := by decide +kernel
theorem dX9_read_63 : decode cX9_read 63 = .ok (.iconst 0, 1) := by decide +kernel
theorem dX9_read_64 : decode cX9_read 64 = .ok (.iadd, 1) := by decide +kernel
theorem dX9_read_65 : decode cX9_read 65 = .ok (.putfield 199, 3) := by decide +kernel
theorem dX9_read_68 : decode cX9_read 68 = .ok (.goto (-54), 3) := by decide +kernel
theorem dX9_read_71 : decode cX9_read 71 = .ok (.aload_n 0, 1) := by decide +kernel
theorem dX9_read_72 : decode cX9_read 72 = .ok (.aload_n 0, 1) := by decide +kernel
theorem dX9_read_73 : decode cX9_read 73 = .ok (.getfield 202, 3) := by decide +kernel
theorem dX9_read_76 : decode cX9_read 76 = .ok (.ifCond .ne 14, 3) := by decide +kernel
theorem dX9_read_79 : decode cX9_read 79 = .ok (.aload_n 0, 1) := by decide +kernel
theorem dX9_read_80 : decode cX9_read 80 = .ok (.getfield 199, 3) := by decide +kernel
theorem dX9_read_83 : decode cX9_read 83 = .ok (.aload_n 0, 1) := by decide +kernel
theorem dX9_read_84 : decode cX9_read 84 = .ok (.getfield 196, 3) := by decide +kernel
theorem dX9_read_87 : decode cX9_read 87 = .ok (.if_icmp .ge 7, 3) := by decide +kernel
theorem dX9_read_90 : decode cX9_read 90 = .ok (.iconst 1, 1) := by decide +kernel
theorem dX9_read_91 : decode cX9_read 91 = .ok (.goto 4, 3) := by decide +kernel
theorem dX9_read_94 : decode cX9_read 94 = .ok (.iconst 0, 1) := by decide +kernel
theorem dX9_read_95 : decode cX9_read 95 = .ok (.putfield 202, 3) := by decide +kernel
theorem dX9_read_98 : decode cX9_read 98 = .ok (.aload_n 0, 1) := by decide +kernel
theorem dX9_read_99 : decode cX9_read 99 = .ok (.iconst 0, 1) := by decide +kernel
theorem dX9_read_100 : decode cX9_read 100 = .ok (.putfield 196, 3) := by decide +kernel
theorem dX9_read_103 : decode cX9_read 103 = .ok (.aload_n 0, 1) := by decide +kernel
theorem dX9_read_104 : decode cX9_read 104 = .ok (.getfield 202, 3) := by decide +kernel
theorem dX9_read_107 : decode cX9_read 107 = .ok (.ifCond .eq 17, 3) := by decide +kernel
theorem dX9_read_110 : decode cX9_read 110 = .ok (.aload_n 0, 1) := by decide +kernel
theorem dX9_read_111 : decode cX9_read 111 = .ok (.aload_n 0, 1) := by decide +kernel
theorem dX9_read_112 : decode cX9_read 112 = .ok (.getfield 199, 3) := by decide +kernel
theorem dX9_read_115 : decode cX9_read 115 = .ok (.putfield 26, 3) := by decide +kernel
theorem dX9_read_118 : decode cX9_read 118 = .ok (.aload_n 0, 1) := by decide +kernel
theorem dX9_read_119 : decode cX9_read 119 = .ok (.iconst 1, 1) := by decide +kernel
theorem dX9_read_120 : decode cX9_read 120 = .ok (.invokevirtual 70, 3) := by decide +kernel
theorem dX9_read_123 : decode cX9_read 123 = .ok (.ireturn, 1) := by decide +kernel
theorem dX9_read_124 : decode cX9_read 124 = .ok (.aload_n 0, 1) := by decide +kernel
theorem dX9_read_125 : decode cX9_read 125 = .ok (.invokevirtual 81, 3) := by decide +kernel
theorem dX9_read_128 : decode cX9_read 128 = .ok (.iconst 0, 1) := by decide +kernel
theorem dX9_read_129 : decode cX9_read 129 = .ok (.istore_n 3, 1) := by decide +kernel
theorem dX9_read_130 : decode cX9_read 130 = .ok (.iload_n 3, 1) := by decide +kernel
theorem dX9_read_131 : decode cX9_read 131 = .ok (.iload_n 1, 1) := by decide +kernel
theorem dX9_read_132 : decode cX9_read 132 = .ok (.if_icmp .ge 35, 3) := by decide +kernel
theorem dX9_read_135 : decode cX9_read 135 = .ok (.aload_n 0, 1) := by decide +kernel
theorem dX9_read_136 : decode cX9_read 136 = .ok (.iconst 4, 1) := by decide +kernel
theorem dX9_read_137 : decode cX9_read 137 = .ok (.iload_n 3, 1) := by decide +kernel
theorem dX9_read_138 : decode cX9_read 138 = .ok (.imul, 1) := by decide +kernel
theorem dX9_read_139 : decode cX9_read 139 = .ok (.invokevirtual 231, 3) := by decide +kernel
theorem dX9_read_142 : decode cX9_read 142 = .ok (.istore 4, 2) := by decide +kernel
theorem dX9_read_144 : decode cX9_read 144 = .ok (.aload_n 0, 1) := by decide +kernel
theorem dX9_read_145 : decode cX9_read 145 = .ok (.getfield 36, 3) := by decide +kernel
theorem dX9_read_148 : decode cX9_read 148 = .ok (.ifCond .eq 13, 3) := by decide +kernel
theorem dX9_read_151 : decode cX9_read 151 = .ok (.aload_n 0, 1) := by decide +kernel
theorem dX9_read_152 : decode cX9_read 152 = .ok (.aload_n 0, 1) := by decide +kernel
theorem dX9_read_153 : decode cX9_read 153 = .ok (.iload_n 3, 1) := by decide +kernel
theorem dX9_read_154 : decode cX9_read 154 = .ok (.invokevirtual 234, 3) := by decide +kernel
theorem dX9_read_157 : decode cX9_read 157 = .ok (.invokevirtual 87, 3) := by decide +kernel
theorem dX9_read_160 : decode cX9_read 160 = .ok (.ireturn, 1) := by decide +kernel
theorem dX9_read_161 : decode cX9_read 161 = .ok (.iinc 3 1, 3) := by decide +kernel
theorem dX9_read_164 : decode cX9_read 164 = .ok (.goto (-34), 3) := by decide +kernel
theorem dX9_read_167 : decode cX9_read 167 = .ok (.aload_n 0, 1) := by decide +kernel
theorem dX9_read_168 : decode cX9_read 168 = .ok (.aload_n 0, 1) := by decide +kernel
theorem dX9_read_169 : decode cX9_read 169 = .ok (.iload_n 1, 1) := by decide +kernel
theorem dX9_read_170 : decode cX9_read 170 = .ok (.invokevirtual 78, 3) := by decide +kernel
theorem dX9_read_173 : decode cX9_read 173 = .ok (.invokevirtual 87, 3) := by decide +kernel
theorem dX9_read_176 : decode cX9_read 176 = .ok (.ireturn, 1) := by decide +kernel
set_option maxRecDepth 20000 in
theorem ggX9_errorPosition_X9_fails : GoodIn wsX9_errorPosition wsX9_fails := goodIn_r _ [6, 7, 8, 13, 14, 15, 16, 17, 18, 19, 20, 21, 22, 23, 24, 25, 26, 27, 28, 29, 30, 31, 32] (by decide +kernel) (by decide +kernel)
set_option maxRecDepth 20000 in
theorem gX9_errorPosition_X9_fails : GoodIn wsX9_errorPosition (wsV RX9 70 RX9 yX9_fails wsX9_fails) := goodIn_app (goodIn_of _ (by decide +kernel)) ggX9_errorPosition_X9_fails
set_option maxRecDepth 20000 in
theorem ggX9_errorPosition_X9_done : GoodIn wsX9_errorPosition wsX9_done := goodIn_r _ [12, 7, 13, 14, 15, 16, 17, 18, 19, 20, 21, 22, 23, 24, 25, 26, 27, 28, 29, 30, 31, 32] (by decide +kernel) (by decide +kernel)
set_option maxRecDepth 20000 in
theorem gX9_errorPosition_X9_done : GoodIn wsX9_errorPosition (wsV RX9 78 RX9 yX9_done wsX9_done) := goodIn_app (goodIn_of _ (by decide +kernel)) ggX9_errorPosition_X9_done
theorem dX9_errorPosition_0 : decode cX9_errorPosition 0 = .ok (.aload_n 0, 1) := by decide +kernel
theorem dX9_errorPosition_1 : decode cX9_errorPosition 1 = .ok (.getfield 26, 3) := by decide +kernel
theorem dX9_errorPosition_4 : decode cX9_errorPosition 4 = .ok (.iconst (-1), 1) := by decide +kernel
theorem dX9_errorPosition_5 : decode cX9_errorPosition 5 = .ok (.if_icmp .ne 11, 3) := by decide +kernel
theorem dX9_errorPosition_8 : decode cX9_errorPosition 8 = .ok (.aload_n 0, 1) := by decide +kernel
theorem dX9_errorPosition_9 : decode cX9_errorPosition 9 = .ok (.iconst 1, 1) := by decide +kernel
theorem dX9_errorPosition_10 : decode cX9_errorPosition 10 = .ok (.invokevirtual 70, 3) := by decide +kernel
theorem dX9_errorPosition_13 : decode cX9_errorPosition 13 = .ok (.goto 11, 3) := by decide +kernel
theorem dX9_errorPosition_16 : decode cX9_errorPosition 16 = .ok (.aload_n 0, 1) := by decide +kernel
theorem dX9_errorPosition_17 : decode cX9_errorPosition 17 = .ok (.aload_n 0, 1) := by decide +kernel
theorem dX9_errorPosition_18 : decode cX9_errorPosition 18 = .ok (.getfield 26, 3) := by decide +kernel
theorem dX9_errorPosition_21 : decode cX9_errorPosition 21 = .ok (.invokevirtual 78, 3) := by decide +kernel
theorem dX9_errorPosition_24 : decode cX9_errorPosition 24 = .ok (.ireturn, 1) := by decide +kernel
set_option maxRecDepth 20000 in
theorem ggX9_refusal_X9_fails : GoodIn wsX9_refusal wsX9_fails := goodIn_r _ [9, 10, 11, 16, 17, 18, 19, 20, 21, 22, 23, 24, 25, 26, 27, 28, 29, 30, 31, 32, 33, 34, 35] (by decide +kernel) (by decide +kernel)
set_option maxRecDepth 20000 in
theorem gX9_refusal_X9_fails : GoodIn wsX9_refusal (wsV RX9 70 RX9 yX9_fails wsX9_fails) := goodIn_app (goodIn_of _ (by decide +kernel)) ggX9_refusal_X9_fails
set_option maxRecDepth 20000 in
theorem ggX9_refusal_X9_done : GoodIn wsX9_refusal wsX9_done := goodIn_r _ [15, 10, 16, 17, 18, 19, 20, 21, 22, 23, 24, 25, 26, 27, 28, 29, 30, 31, 32, 33, 34, 35] (by decide +kernel) (by decide +kernel)
set_option maxRecDepth 20000 in
theorem gX9_refusal_X9_done : GoodIn wsX9_refusal (wsV RX9 78 RX9 yX9_done wsX9_done) := goodIn_app (goodIn_of _ (by decide +kernel)) ggX9_refusal_X9_done
theorem dX9_refusal_0 : decode cX9_refusal 0 = .ok (.iload_n 1, 1) := by decide +kernel
theorem dX9_refusal_1 : decode cX9_refusal 1 = .ok (.ifCond .eq 10, 3) := by decide +kernel
theorem dX9_refusal_4 : decode cX9_refusal 4 = .ok (.aload_n 0, 1) := by decide +kernel
theorem dX9_refusal_5 : decode cX9_refusal 5 = .ok (.getfield 49, 3) := by decide +kernel
theorem dX9_refusal_8 : decode cX9_refusal 8 = .ok (.goto 7, 3) := by decide +kernel
theorem dX9_refusal_11 : decode cX9_refusal 11 = .ok (.aload_n 0, 1) := by decide +kernel
theorem dX9_refusal_12 : decode cX9_refusal 12 = .ok (.getfield 43, 3) := by decide +kernel
theorem dX9_refusal_15 : decode cX9_refusal 15 = .ok (.istore_n 3, 1) := by decide +kernel
theorem dX9_refusal_16 : decode cX9_refusal 16 = .ok (.iload_n 3, 1) := by decide +kernel
theorem dX9_refusal_17 : decode cX9_refusal 17 = .ok (.ifCond .ne 9, 3) := by decide +kernel
theorem dX9_refusal_20 : decode cX9_refusal 20 = .ok (.aload_n 0, 1) := by decide +kernel
theorem dX9_refusal_21 : decode cX9_refusal 21 = .ok (.iconst 1, 1) := by decide +kernel
theorem dX9_refusal_22 : decode cX9_refusal 22 = .ok (.invokevirtual 70, 3) := by decide +kernel
theorem dX9_refusal_25 : decode cX9_refusal 25 = .ok (.ireturn, 1) := by decide +kernel
theorem dX9_refusal_26 : decode cX9_refusal 26 = .ok (.aload_n 0, 1) := by decide +kernel
theorem dX9_refusal_27 : decode cX9_refusal 27 = .ok (.iload_n 2, 1) := by decide +kernel
theorem dX9_refusal_28 : decode cX9_refusal 28 = .ok (.ifCond .ne 7, 3) := by decide +kernel
theorem dX9_refusal_31 : decode cX9_refusal 31 = .ok (.iload_n 3, 1) := by decide +kernel
theorem dX9_refusal_32 : decode cX9_refusal 32 = .ok (.goto 18, 3) := by decide +kernel
theorem dX9_refusal_35 : decode cX9_refusal 35 = .ok (.iload_n 1, 1) := by decide +kernel
theorem dX9_refusal_36 : decode cX9_refusal 36 = .ok (.ifCond .eq 10, 3) := by decide +kernel
theorem dX9_refusal_39 : decode cX9_refusal 39 = .ok (.aload_n 0, 1) := by decide +kernel
theorem dX9_refusal_40 : decode cX9_refusal 40 = .ok (.getfield 52, 3) := by decide +kernel
theorem dX9_refusal_43 : decode cX9_refusal 43 = .ok (.goto 7, 3) := by decide +kernel
theorem dX9_refusal_46 : decode cX9_refusal 46 = .ok (.aload_n 0, 1) := by decide +kernel
theorem dX9_refusal_47 : decode cX9_refusal 47 = .ok (.getfield 46, 3) := by decide +kernel
theorem dX9_refusal_50 : decode cX9_refusal 50 = .ok (.invokevirtual 78, 3) := by decide +kernel
theorem dX9_refusal_53 : decode cX9_refusal 53 = .ok (.ireturn, 1) := by decide +kernel
theorem dX9_writes_0 : decode cX9_writes 0 = .ok (.aload_n 0, 1) := by decide +kernel
theorem dX9_writes_1 : decode cX9_writes 1 = .ok (.getfield 30, 3) := by decide +kernel
theorem dX9_writes_4 : decode cX9_writes 4 = .ok (.aload_n 0, 1) := by decide +kernel
theorem dX9_writes_5 : decode cX9_writes 5 = .ok (.getfield 237, 3) := by decide +kernel
theorem dX9_writes_8 : decode cX9_writes 8 = .ok (.iload_n 1, 1) := by decide +kernel
theorem dX9_writes_9 : decode cX9_writes 9 = .ok (.i2c, 1) := by decide +kernel
theorem dX9_writes_10 : decode cX9_writes 10 = .ok (.castore, 1) := by decide +kernel
theorem dX9_writes_11 : decode cX9_writes 11 = .ok (.aload_n 0, 1) := by decide +kernel
theorem dX9_writes_12 : decode cX9_writes 12 = .ok (.dup, 1) := by decide +kernel
theorem dX9_writes_13 : decode cX9_writes 13 = .ok (.getfield 237, 3) := by decide +kernel
theorem dX9_writes_16 : decode cX9_writes 16 = .ok (.iconst 1, 1) := by decide +kernel
theorem dX9_writes_17 : decode cX9_writes 17 = .ok (.iadd, 1) := by decide +kernel
theorem dX9_writes_18 : decode cX9_writes 18 = .ok (.putfield 237, 3) := by decide +kernel
theorem dX9_writes_21 : decode cX9_writes 21 = .ok (.return_, 1) := by decide +kernel
set_option maxRecDepth 20000 in
theorem ggX9_show_X9_isTable : GoodIn wsX9_show wsX9_isTable := goodIn_r _ [6, 7, 8, 5, 9] (by decide +kernel) (by decide +kernel)
set_option maxRecDepth 20000 in
theorem gX9_show_X9_isTable : GoodIn wsX9_show (va_wsS RX9 100 yX9_isTable wsX9_isTable) := goodIn_app (goodIn_of _ (by decide +kernel)) ggX9_show_X9_isTable
set_option maxRecDepth 20000 in
theorem ggX9_show_X9_fails : GoodIn wsX9_show wsX9_fails := goodIn_r _ [13, 14, 15, 29, 30, 31, 32, 33, 34, 35, 36, 37, 38, 39, 40, 41, 42, 43, 44, 45, 46, 47, 48] (by decide +kernel) (by decide +kernel)
set_option maxRecDepth 20000 in
theorem gX9_show_X9_fails : GoodIn wsX9_show (wsV RX9 70 RX9 yX9_fails wsX9_fails) := goodIn_app (goodIn_of _ (by decide +kernel)) ggX9_show_X9_fails
set_option maxRecDepth 20000 in
theorem ggX9_show_X9_at : GoodIn wsX9_show wsX9_at := goodIn_ca (goodIn_r _ [19, 2, 29, 30, 31, 32, 33, 34, 35, 36, 37, 38, 39, 40, 41, 42, 43, 44, 45, 46, 47, 48] (by decide +kernel) (by decide +kernel)) (goodIn_sub (fun _ h => List.mem_cons_of_mem _ (List.mem_append_right _ h)) (by decide +kernel))
set_option maxRecDepth 20000 in
theorem gX9_show_X9_at : GoodIn wsX9_show (wsV RX9 66 RX9 yX9_at wsX9_at) := goodIn_app (goodIn_of _ (by decide +kernel)) ggX9_show_X9_at
set_option maxRecDepth 20000 in
theorem ggX9_show_X9_writes : GoodIn wsX9_show wsX9_writes := goodIn_ca (goodIn_r _ [23, 24, 1, 29, 30, 31, 32, 33, 34, 35, 36, 37, 38, 39, 40, 41, 42, 43, 44, 45, 46, 47, 48] (by decide +kernel) (by decide +kernel)) (goodIn_sub (fun _ h => List.mem_cons_of_mem _ (List.mem_append_right _ h)) (by decide +kernel))
set_option maxRecDepth 20000 in
theorem gX9_show_X9_writes : GoodIn wsX9_show (wsV RX9 240 RX9 yX9_writes wsX9_writes) := goodIn_app (goodIn_of _ (by decide +kernel)) ggX9_show_X9_writes
set_option maxRecDepth 20000 in
theorem ggX9_show_X9_done : GoodIn wsX9_show wsX9_done := goodIn_r _ [28, 14, 29, 30, 31, 32, 33, 34, 35, 36, 37, 38, 39, 40, 41, 42, 43, 44, 45, 46, 47, 48] (by decide +kernel) (by decide +kernel)
set_option maxRecDepth 20000 in
theorem gX9_show_X9_done : GoodIn wsX9_show (wsV RX9 78 RX9 yX9_done wsX9_done) := goodIn_app (goodIn_of _ (by decide +kernel)) ggX9_show_X9_done
theorem dX9_show_0 : decode cX9_show 0 = .ok (.iload_n 1, 1) := by decide +kernel
theorem dX9_show_1 : decode cX9_show 1 = .ok (.invokestatic 100, 3) := by decide +kernel
theorem dX9_show_4 : decode cX9_show 4 = .ok (.ifCond .ne 9, 3) := by decide +kernel
theorem dX9_show_7 : decode cX9_show 7 = .ok (.aload_n 0, 1) := by decide +kernel
theorem dX9_show_8 : decode cX9_show 8 = .ok (.iconst 1, 1) := by decide +kernel
theorem dX9_show_9 : decode cX9_show 9 = .ok (.invokevirtual 70, 3) := by decide +kernel
theorem dX9_show_12 : decode cX9_show 12 = .ok (.ireturn, 1) := by decide +kernel
theorem dX9_show_13 : decode cX9_show 13 = .ok (.aload_n 0, 1) := by decide +kernel
theorem dX9_show_14 : decode cX9_show 14 = .ok (.iconst 0, 1) := by decide +kernel
theorem dX9_show_15 : decode cX9_show 15 = .ok (.putfield 237, 3) := by decide +kernel
theorem dX9_show_18 : decode cX9_show 18 = .ok (.iconst 0, 1) := by decide +kernel
theorem dX9_show_19 : decode cX9_show 19 = .ok (.istore_n 2, 1) := by decide +kernel
theorem dX9_show_20 : decode cX9_show 20 = .ok (.iload_n 2, 1) := by decide +kernel
theorem dX9_show_21 : decode cX9_show 21 = .ok (.aload_n 0, 1) := by decide +kernel
theorem dX9_show_22 : decode cX9_show 22 = .ok (.getfield 7, 3) := by decide +kernel
theorem dX9_show_25 : decode cX9_show 25 = .ok (.bipush 55, 2) := by decide +kernel
theorem dX9_show_27 : decode cX9_show 27 = .ok (.iload_n 1, 1) := by decide +kernel
theorem dX9_show_28 : decode cX9_show 28 = .ok (.iadd, 1) := by decide +kernel
theorem dX9_show_29 : decode cX9_show 29 = .ok (.iaload, 1) := by decide +kernel
theorem dX9_show_30 : decode cX9_show 30 = .ok (.if_icmp .ge 103, 3) := by decide +kernel
theorem dX9_show_33 : decode cX9_show 33 = .ok (.aload_n 0, 1) := by decide +kernel
theorem dX9_show_34 : decode cX9_show 34 = .ok (.iload_n 1, 1) := by decide +kernel
theorem dX9_show_35 : decode cX9_show 35 = .ok (.iload_n 2, 1) := by decide +kernel
theorem dX9_show_36 : decode cX9_show 36 = .ok (.invokevirtual 66, 3) := by decide +kernel
theorem dX9_show_39 : decode cX9_show 39 = .ok (.istore_n 3, 1) := by decide +kernel
theorem dX9_show_40 : decode cX9_show 40 = .ok (.aload_n 0, 1) := by decide +kernel
theorem dX9_show_41 : decode cX9_show 41 = .ok (.getfield 7, 3) := by decide +kernel
theorem dX9_show_44 : decode cX9_show 44 = .ok (.bipush 15, 2) := by decide +kernel
theorem dX9_show_46 : decode cX9_show 46 = .ok (.iload_n 3, 1) := by decide +kernel
theorem dX9_show_47 : decode cX9_show 47 = .ok (.iadd, 1) := by decide +kernel
theorem dX9_show_48 : decode cX9_show 48 = .ok (.iaload, 1) := by decide +kernel
theorem dX9_show_49 : decode cX9_show 49 = .ok (.istore 4, 2) := by decide +kernel
theorem dX9_show_51 : decode cX9_show 51 = .ok (.aload_n 0, 1) := by decide +kernel
theorem dX9_show_52 : decode cX9_show 52 = .ok (.bipush 48, 2) := by decide +kernel
theorem dX9_show_54 : decode cX9_show 54 = .ok (.iload_n 3, 1) := by decide +kernel
theorem dX9_show_55 : decode cX9_show 55 = .ok (.iadd, 1) := by decide +kernel
theorem dX9_show_56 : decode cX9_show 56 = .ok (.invokevirtual 240, 3) := by decide +kernel
theorem dX9_show_59 : decode cX9_show 59 = .ok (.aload_n 0, 1) := by decide +kernel
theorem dX9_show_60 : decode cX9_show 60 = .ok (.iload 4, 2) := by decide +kernel
theorem dX9_show_62 : decode cX9_show 62 = .ok (.iconst 1, 1) := by decide +kernel
theorem dX9_show_63 : decode cX9_show 63 = .ok (.if_icmp .ne 8, 3) := by decide +kernel
theorem dX9_show_66 : decode cX9_show 66 = .ok (.bipush 115, 2) := by decide +kernel
theorem dX9_show_68 : decode cX9_show 68 = .ok (.goto 38, 3) := by decide +kernel
theorem dX9_show_71 : decode cX9_show 71 = .ok (.iload 4, 2) := by decide +kernel
theorem dX9_show_73 : decode cX9_show 73 = .ok (.iconst 2, 1) := by decide +kernel
theorem dX9_show_74 : decode cX9_show 74 = .ok (.if_icmp .ne 8, 3) := by decide +kernel
theorem dX9_show_77 : decode cX9_show 77 = .ok (.bipush 102, 2) := by decide +kernel
theorem dX9_show_79 : decode cX9_show 79 = .ok (.goto 27, 3) := by decide +kernel
theorem dX9_show_82 : decode cX9_show 82 = .ok (.iload 4, 2) := by decide +kernel
theorem dX9_show_84 : decode cX9_show 84 = .ok (.iconst 3, 1) := by decide +kernel
theorem dX9_show_85 : decode cX9_show 85 = .ok (.if_icmp .ne 8, 3) := by decide +kernel
theorem dX9_show_88 : decode cX9_show 88 = .ok (.bipush 98, 2) := by decide +kernel
theorem dX9_show_90 : decode cX9_show 90 = .ok (.goto 16, 3) := by decide +kernel
theorem dX9_show_93 : decode cX9_show 93 = .ok (.iload 4, 2) := by decide +kernel
theorem dX9_show_95 : decode cX9_show 95 = .ok (.iconst 4, 1) := by decide +kernel
theorem dX9_show_96 : decode cX9_show 96 = .ok (.if_icmp .ne 8, 3) := by decide +kernel
theorem dX9_show_99 : decode cX9_show 99 = .ok (.bipush 99, 2) := by decide +kernel
theorem dX9_show_101 : decode cX9_show 101 = .ok (.goto 5, 3) := by decide +kernel
theorem dX9_show_104 : decode cX9_show 104 = .ok (.bipush 46, 2) := by decide +kernel
theorem dX9_show_106 : decode cX9_show 106 = .ok (.invokevirtual 240, 3) := by decide +kernel
theorem dX9_show_109 : decode cX9_show 109 = .ok (.aload_n 0, 1) := by decide +kernel
theorem dX9_show_110 : decode cX9_show 110 = .ok (.getfield 7, 3) := by decide +kernel
theorem dX9_show_113 : decode cX9_show 113 = .ok (.bipush 35, 2) := by decide +kernel
theorem dX9_show_115 : decode cX9_show 115 = .ok (.iload_n 3, 1) := by decide +kernel
theorem dX9_show_116 : decode cX9_show 116 = .ok (.iadd, 1) := by decide +kernel
theorem dX9_show_117 : decode cX9_show 117 = .ok (.iaload, 1) := by decide +kernel
theorem dX9_show_118 : decode cX9_show 118 = .ok (.ifCond .le 9, 3) := by decide +kernel
theorem dX9_show_121 : decode cX9_show 121 = .ok (.aload_n 0, 1) := by decide +kernel
theorem dX9_show_122 : decode cX9_show 122 = .ok (.bipush 42, 2) := by decide +kernel
theorem dX9_show_124 : decode cX9_show 124 = .ok (.invokevirtual 240, 3) := by decide +kernel
theorem dX9_show_127 : decode cX9_show 127 = .ok (.iinc 2 1, 3) := by decide +kernel
theorem dX9_show_130 : decode cX9_show 130 = .ok (.goto (-110), 3) := by decide +kernel
theorem dX9_show_133 : decode cX9_show 133 = .ok (.aload_n 0, 1) := by decide +kernel
theorem dX9_show_134 : decode cX9_show 134 = .ok (.aload_n 0, 1) := by decide +kernel
theorem dX9_show_135 : decode cX9_show 135 = .ok (.getfield 237, 3) := by decide +kernel
theorem dX9_show_138 : decode cX9_show 138 = .ok (.invokevirtual 78, 3) := by decide +kernel
theorem dX9_show_141 : decode cX9_show 141 = .ok (.ireturn, 1) := by decide +kernel
set_option maxRecDepth 20000 in
theorem ggX9_tellsOne_X9_writes : GoodIn wsX9_tellsOne wsX9_writes := goodIn_ca (goodIn_r _ [6, 7, 8, 9, 10, 11, 12, 13, 14, 15, 16, 17, 18, 19, 20, 21, 22, 23, 24, 25, 26, 27, 28] (by decide +kernel) (by decide +kernel)) (goodIn_sub (fun _ h => List.mem_cons_of_mem _ (List.mem_append_right _ h)) (by decide +kernel))
set_option maxRecDepth 20000 in
theorem gX9_tellsOne_X9_writes : GoodIn wsX9_tellsOne (wsV RX9 240 RX9 yX9_writes wsX9_writes) := goodIn_app (goodIn_of _ (by decide +kernel)) ggX9_tellsOne_X9_writes
theorem dX9_tellsOne_0 : decode cX9_tellsOne 0 = .ok (.aload_n 0, 1) := by decide +kernel
theorem dX9_tellsOne_1 : decode cX9_tellsOne 1 = .ok (.getfield 7, 3) := by decide +kernel
theorem dX9_tellsOne_4 : decode cX9_tellsOne 4 = .ok (.bipush 15, 2) := by decide +kernel
theorem dX9_tellsOne_6 : decode cX9_tellsOne 6 = .ok (.iload_n 1, 1) := by decide +kernel
theorem dX9_tellsOne_7 : decode cX9_tellsOne 7 = .ok (.iadd, 1) := by decide +kernel
theorem dX9_tellsOne_8 : decode cX9_tellsOne 8 = .ok (.iaload, 1) := by decide +kernel
theorem dX9_tellsOne_9 : decode cX9_tellsOne 9 = .ok (.istore_n 2, 1) := by decide +kernel
theorem dX9_tellsOne_10 : decode cX9_tellsOne 10 = .ok (.iload_n 2, 1) := by decide +kernel
theorem dX9_tellsOne_11 : decode cX9_tellsOne 11 = .ok (.iconst 4, 1) := by decide +kernel
theorem dX9_tellsOne_12 : decode cX9_tellsOne 12 = .ok (.if_icmp .ne 12, 3) := by decide +kernel
theorem dX9_tellsOne_15 : decode cX9_tellsOne 15 = .ok (.aload_n 0, 1) := by decide +kernel
theorem dX9_tellsOne_16 : decode cX9_tellsOne 16 = .ok (.bipush 43, 2) := by decide +kernel
theorem dX9_tellsOne_18 : decode cX9_tellsOne 18 = .ok (.invokevirtual 240, 3) := by decide +kernel
theorem dX9_tellsOne_21 : decode cX9_tellsOne 21 = .ok (.goto 44, 3) := by decide +kernel
theorem dX9_tellsOne_24 : decode cX9_tellsOne 24 = .ok (.aload_n 0, 1) := by decide +kernel
theorem dX9_tellsOne_25 : decode cX9_tellsOne 25 = .ok (.iload_n 2, 1) := by decide +kernel
theorem dX9_tellsOne_26 : decode cX9_tellsOne 26 = .ok (.iconst 1, 1) := by decide +kernel
theorem dX9_tellsOne_27 : decode cX9_tellsOne 27 = .ok (.if_icmp .ne 8, 3) := by decide +kernel
theorem dX9_tellsOne_30 : decode cX9_tellsOne 30 = .ok (.bipush 83, 2) := by decide +kernel
theorem dX9_tellsOne_32 : decode cX9_tellsOne 32 = .ok (.goto 15, 3) := by decide +kernel
theorem dX9_tellsOne_35 : decode cX9_tellsOne 35 = .ok (.iload_n 2, 1) := by decide +kernel
theorem dX9_tellsOne_36 : decode cX9_tellsOne 36 = .ok (.iconst 2, 1) := by decide +kernel
theorem dX9_tellsOne_37 : decode cX9_tellsOne 37 = .ok (.if_icmp .ne 8, 3) := by decide +kernel
theorem dX9_tellsOne_40 : decode cX9_tellsOne 40 = .ok (.bipush 70, 2) := by decide +kernel
theorem dX9_tellsOne_42 : decode cX9_tellsOne 42 = .ok (.goto 5, 3) := by decide +kernel
theorem dX9_tellsOne_45 : decode cX9_tellsOne 45 = .ok (.bipush 66, 2) := by decide +kernel
theorem dX9_tellsOne_47 : decode cX9_tellsOne 47 = .ok (.invokevirtual 240, 3) := by decide +kernel
theorem dX9_tellsOne_50 : decode cX9_tellsOne 50 = .ok (.aload_n 0, 1) := by decide +kernel
theorem dX9_tellsOne_51 : decode cX9_tellsOne 51 = .ok (.bipush 48, 2) := by decide +kernel
theorem dX9_tellsOne_53 : decode cX9_tellsOne 53 = .ok (.aload_n 0, 1) := by decide +kernel
theorem dX9_tellsOne_54 : decode cX9_tellsOne 54 = .ok (.getfield 7, 3) := by decide +kernel
theorem dX9_tellsOne_57 : decode cX9_tellsOne 57 = .ok (.iconst 5, 1) := by decide +kernel
theorem dX9_tellsOne_58 : decode cX9_tellsOne 58 = .ok (.iload_n 1, 1) := by decide +kernel
theorem dX9_tellsOne_59 : decode cX9_tellsOne 59 = .ok (.iadd, 1) := by decide +kernel
theorem dX9_tellsOne_60 : decode cX9_tellsOne 60 = .ok (.iaload, 1) := by decide +kernel
theorem dX9_tellsOne_61 : decode cX9_tellsOne 61 = .ok (.iadd, 1) := by decide +kernel
theorem dX9_tellsOne_62 : decode cX9_tellsOne 62 = .ok (.invokevirtual 240, 3) := by decide +kernel
theorem dX9_tellsOne_65 : decode cX9_tellsOne 65 = .ok (.aload_n 0, 1) := by decide +kernel
theorem dX9_tellsOne_66 : decode cX9_tellsOne 66 = .ok (.getfield 7, 3) := by decide +kernel
theorem dX9_tellsOne_69 : decode cX9_tellsOne 69 = .ok (.bipush 35, 2) := by decide +kernel
theorem dX9_tellsOne_71 : decode cX9_tellsOne 71 = .ok (.iload_n 1, 1) := by decide +kernel
theorem dX9_tellsOne_72 : decode cX9_tellsOne 72 = .ok (.iadd, 1) := by decide +kernel
theorem dX9_tellsOne_73 : decode cX9_tellsOne 73 = .ok (.iaload, 1) := by decide +kernel
theorem dX9_tellsOne_74 : decode cX9_tellsOne 74 = .ok (.ifCond .le 9, 3) := by decide +kernel
theorem dX9_tellsOne_77 : decode cX9_tellsOne 77 = .ok (.aload_n 0, 1) := by decide +kernel
theorem dX9_tellsOne_78 : decode cX9_tellsOne 78 = .ok (.bipush 63, 2) := by decide +kernel
theorem dX9_tellsOne_80 : decode cX9_tellsOne 80 = .ok (.invokevirtual 240, 3) := by decide +kernel
theorem dX9_tellsOne_83 : decode cX9_tellsOne 83 = .ok (.return_, 1) := by decide +kernel
set_option maxRecDepth 20000 in
theorem ggX9_tell_X9_isTable : GoodIn wsX9_tell wsX9_isTable := goodIn_r _ [5, 6, 7, 4, 8] (by decide +kernel) (by decide +kernel)
set_option maxRecDepth 20000 in
theorem gX9_tell_X9_isTable : GoodIn wsX9_tell (va_wsS RX9 100 yX9_isTable wsX9_isTable) := goodIn_app (goodIn_of _ (by decide +kernel)) ggX9_tell_X9_isTable
set_option maxRecDepth 20000 in
theorem ggX9_tell_X9_fails : GoodIn wsX9_tell wsX9_fails := goodIn_r _ [12, 13, 14, 41, 42, 43, 44, 45, 46, 47, 48, 49, 50, 51, 52, 53, 54, 55, 56, 57, 58, 59, 60] (by decide +kernel) (by decide +kernel)
set_option maxRecDepth 20000 in
theorem gX9_tell_X9_fails : GoodIn wsX9_tell (wsV RX9 70 RX9 yX9_fails wsX9_fails) := goodIn_app (goodIn_of _ (by decide +kernel)) ggX9_tell_X9_fails
set_option maxRecDepth 20000 in
theorem ggX9_tell_X9_countOf : GoodIn wsX9_tell wsX9_countOf := goodIn_ca (goodIn_r _ [18, 19, 20, 21, 22, 4, 23, 41, 42, 43, 44, 45, 46, 47, 48, 49, 50, 51, 52, 53, 54, 55, 56, 57, 58, 59, 60] (by decide +kernel) (by decide +kernel)) (goodIn_sub (fun _ h => List.mem_cons_of_mem _ (List.mem_append_right _ h)) (by decide +kernel))
set_option maxRecDepth 20000 in
theorem gX9_tell_X9_countOf : GoodIn wsX9_tell (wsV RX9 132 RX9 yX9_countOf wsX9_countOf) := goodIn_app (goodIn_of _ (by decide +kernel)) ggX9_tell_X9_countOf
set_option maxRecDepth 20000 in
theorem ggX9_tell_X9_writes : GoodIn wsX9_tell wsX9_writes := goodIn_ca (goodIn_r _ [27, 28, 1, 41, 42, 43, 44, 45, 46, 47, 48, 49, 50, 51, 52, 53, 54, 55, 56, 57, 58, 59, 60] (by decide +kernel) (by decide +kernel)) (goodIn_sub (fun _ h => List.mem_cons_of_mem _ (List.mem_append_right _ h)) (by decide +kernel))
set_option maxRecDepth 20000 in
theorem gX9_tell_X9_writes : GoodIn wsX9_tell (wsV RX9 240 RX9 yX9_writes wsX9_writes) := goodIn_app (goodIn_of _ (by decide +kernel)) ggX9_tell_X9_writes
set_option maxRecDepth 20000 in
theorem ggX9_tell_X9_saidAt : GoodIn wsX9_tell wsX9_saidAt := goodIn_ca (goodIn_r _ [32, 19, 20, 21, 22, 4, 23, 41, 42, 43, 44, 45, 46, 47, 48, 49, 50, 51, 52, 53, 54, 55, 56, 57, 58, 59, 60] (by decide +kernel) (by decide +kernel)) (goodIn_sub (fun _ h => List.mem_cons_of_mem _ (List.mem_append_right _ h)) (by decide +kernel))
set_option maxRecDepth 20000 in
theorem gX9_tell_X9_saidAt : GoodIn wsX9_tell (wsV RX9 129 RX9 yX9_saidAt wsX9_saidAt) := goodIn_app (goodIn_of _ (by decide +kernel)) ggX9_tell_X9_saidAt
set_option maxRecDepth 20000 in
theorem ggX9_tell_X9_tellsOne : GoodIn wsX9_tell wsX9_tellsOne := goodIn_ca (goodIn_r _ [36, 19, 24, 25, 26, 4, 27, 28, 1, 41, 42, 43, 44, 45, 46, 47, 48, 49, 50, 51, 52, 53, 54, 55, 56, 57, 58, 59, 60] (by decide +kernel) (by decide +kernel)) (goodIn_sub (fun _ h => List.mem_cons_of_mem _ (List.mem_append_right _ h)) (by decide +kernel))
set_option maxRecDepth 20000 in
theorem gX9_tell_X9_tellsOne : GoodIn wsX9_tell (wsV RX9 243 RX9 yX9_tellsOne wsX9_tellsOne) := goodIn_app (goodIn_of _ (by decide +kernel)) ggX9_tell_X9_tellsOne
set_option maxRecDepth 20000 in
theorem ggX9_tell_X9_done : GoodIn wsX9_tell wsX9_done := goodIn_r _ [40, 13, 41, 42, 43, 44, 45, 46, 47, 48, 49, 50, 51, 52, 53, 54, 55, 56, 57, 58, 59, 60] (by decide +kernel) (by decide +kernel)
set_option maxRecDepth 20000 in
theorem gX9_tell_X9_done : GoodIn wsX9_tell (wsV RX9 78 RX9 yX9_done wsX9_done) := goodIn_app (goodIn_of _ (by decide +kernel)) ggX9_tell_X9_done
theorem dX9_tell_0 : decode cX9_tell 0 = .ok (.iload_n 1, 1) := by decide +kernel
theorem dX9_tell_1 : decode cX9_tell 1 = .ok (.invokestatic 100, 3) := by decide +kernel
theorem dX9_tell_4 : decode cX9_tell 4 = .ok (.ifCond .ne 9, 3) := by decide +kernel
theorem dX9_tell_7 : decode cX9_tell 7 = .ok (.aload_n 0, 1) := by decide +kernel
theorem dX9_tell_8 : decode cX9_tell 8 = .ok (.iconst 1, 1) := by decide +kernel
theorem dX9_tell_9 : decode cX9_tell 9 = .ok (.invokevirtual 70, 3) := by decide +kernel
theorem dX9_tell_12 : decode cX9_tell 12 = .ok (.ireturn, 1) := by decide +kernel
theorem dX9_tell_13 : decode cX9_tell 13 = .ok (.aload_n 0, 1) := by decide +kernel
theorem dX9_tell_14 : decode cX9_tell 14 = .ok (.iconst 0, 1) := by decide +kernel
theorem dX9_tell_15 : decode cX9_tell 15 = .ok (.putfield 237, 3) := by decide +kernel
theorem dX9_tell_18 : decode cX9_tell 18 = .ok (.iconst 0, 1) := by decide +kernel
theorem dX9_tell_19 : decode cX9_tell 19 = .ok (.istore_n 2, 1) := by decide +kernel
theorem dX9_tell_20 : decode cX9_tell 20 = .ok (.iload_n 2, 1) := by decide +kernel
theorem dX9_tell_21 : decode cX9_tell 21 = .ok (.aload_n 0, 1) := by decide +kernel
theorem dX9_tell_22 : decode cX9_tell 22 = .ok (.iload_n 1, 1) := by decide +kernel
theorem dX9_tell_23 : decode cX9_tell 23 = .ok (.iconst 0, 1) := by decide +kernel
theorem dX9_tell_24 : decode cX9_tell 24 = .ok (.invokevirtual 132, 3) := by decide +kernel
theorem dX9_tell_27 : decode cX9_tell 27 = .ok (.if_icmp .ge 29, 3) := by decide +kernel
theorem dX9_tell_30 : decode cX9_tell 30 = .ok (.iload_n 2, 1) := by decide +kernel
theorem dX9_tell_31 : decode cX9_tell 31 = .ok (.ifCond .le 9, 3) := by decide +kernel
theorem dX9_tell_34 : decode cX9_tell 34 = .ok (.aload_n 0, 1) := by decide +kernel
theorem dX9_tell_35 : decode cX9_tell 35 = .ok (.bipush 32, 2) := by decide +kernel
theorem dX9_tell_37 : decode cX9_tell 37 = .ok (.invokevirtual 240, 3) := by decide +kernel
theorem dX9_tell_40 : decode cX9_tell 40 = .ok (.aload_n 0, 1) := by decide +kernel
theorem dX9_tell_41 : decode cX9_tell 41 = .ok (.aload_n 0, 1) := by decide +kernel
theorem dX9_tell_42 : decode cX9_tell 42 = .ok (.iload_n 1, 1) := by decide +kernel
theorem dX9_tell_43 : decode cX9_tell 43 = .ok (.iload_n 2, 1) := by decide +kernel
theorem dX9_tell_44 : decode cX9_tell 44 = .ok (.invokevirtual 129, 3) := by decide +kernel
theorem dX9_tell_47 : decode cX9_tell 47 = .ok (.invokevirtual 243, 3) := by decide +kernel
theorem dX9_tell_50 : decode cX9_tell 50 = .ok (.iinc 2 1, 3) := by decide +kernel
theorem dX9_tell_53 : decode cX9_tell 53 = .ok (.goto (-33), 3) := by decide +kernel
theorem dX9_tell_56 : decode cX9_tell 56 = .ok (.aload_n 0, 1) := by decide +kernel
theorem dX9_tell_57 : decode cX9_tell 57 = .ok (.aload_n 0, 1) := by decide +kernel
theorem dX9_tell_58 : decode cX9_tell 58 = .ok (.getfield 237, 3) := by decide +kernel
theorem dX9_tell_61 : decode cX9_tell 61 = .ok (.invokevirtual 78, 3) := by decide +kernel
theorem dX9_tell_64 : decode cX9_tell 64 = .ok (.ireturn, 1) := by decide +kernel
set_option maxRecDepth 20000 in
theorem ggX9_written_X9_in : GoodIn wsX9_written wsX9_in := goodIn_r _ [7] (by decide +kernel) (by decide +kernel)
set_option maxRecDepth 20000 in
theorem gX9_written_X9_in : GoodIn wsX9_written (va_wsS RX9 62 yX9_in wsX9_in) := goodIn_app (goodIn_of _ (by decide +kernel)) ggX9_written_X9_in
theorem dX9_written_0 : decode cX9_written 0 = .ok (.aload_n 0, 1) := by decide +kernel
theorem dX9_written_1 : decode cX9_written 1 = .ok (.iload_n 1, 1) := by decide +kernel
theorem dX9_written_2 : decode cX9_written 2 = .ok (.iconst 0, 1) := by decide +kernel
theorem dX9_written_3 : decode cX9_written 3 = .ok (.aload_n 0, 1) := by decide +kernel
theorem dX9_written_4 : decode cX9_written 4 = .ok (.getfield 237, 3) := by decide +kernel
theorem dX9_written_7 : decode cX9_written 7 = .ok (.iconst 1, 1) := by decide +kernel
theorem dX9_written_8 : decode cX9_written 8 = .ok (.isub, 1) := by decide +kernel
theorem dX9_written_9 : decode cX9_written 9 = .ok (.invokestatic 62, 3) := by decide +kernel
theorem dX9_written_12 : decode cX9_written 12 = .ok (.ifCond .eq 7, 3) := by decide +kernel
theorem dX9_written_15 : decode cX9_written 15 = .ok (.iconst 0, 1) := by decide +kernel
theorem dX9_written_16 : decode cX9_written 16 = .ok (.goto 4, 3) := by decide +kernel
theorem dX9_written_19 : decode cX9_written 19 = .ok (.iconst 1, 1) := by decide +kernel
theorem dX9_written_20 : decode cX9_written 20 = .ok (.putfield 36, 3) := by decide +kernel
theorem dX9_written_23 : decode cX9_written 23 = .ok (.aload_n 0, 1) := by decide +kernel
theorem dX9_written_24 : decode cX9_written 24 = .ok (.getfield 36, 3) := by decide +kernel
theorem dX9_written_27 : decode cX9_written 27 = .ok (.ifCond .ne 12, 3) := by decide +kernel
theorem dX9_written_30 : decode cX9_written 30 = .ok (.aload_n 0, 1) := by decide +kernel
theorem dX9_written_31 : decode cX9_written 31 = .ok (.getfield 30, 3) := by decide +kernel
theorem dX9_written_34 : decode cX9_written 34 = .ok (.iload_n 1, 1) := by decide +kernel
theorem dX9_written_35 : decode cX9_written 35 = .ok (.caload, 1) := by decide +kernel
theorem dX9_written_36 : decode cX9_written 36 = .ok (.goto 4, 3) := by decide +kernel
theorem dX9_written_39 : decode cX9_written 39 = .ok (.iconst 0, 1) := by decide +kernel
theorem dX9_written_40 : decode cX9_written 40 = .ok (.ireturn, 1) := by decide +kernel
theorem dX9_sumOf_0 : decode cX9_sumOf 0 = .ok (.iconst 0, 1) := by decide +kernel
theorem dX9_sumOf_1 : decode cX9_sumOf 1 = .ok (.istore_n 2, 1) := by decide +kernel
theorem dX9_sumOf_2 : decode cX9_sumOf 2 = .ok (.iconst 0, 1) := by decide +kernel
theorem dX9_sumOf_3 : decode cX9_sumOf 3 = .ok (.istore_n 3, 1) := by decide +kernel
theorem dX9_sumOf_4 : decode cX9_sumOf 4 = .ok (.iload_n 3, 1) := by decide +kernel
theorem dX9_sumOf_5 : decode cX9_sumOf 5 = .ok (.aload_n 0, 1) := by decide +kernel
theorem dX9_sumOf_6 : decode cX9_sumOf 6 = .ok (.getfield 7, 3) := by decide +kernel
theorem dX9_sumOf_9 : decode cX9_sumOf 9 = .ok (.iconst 0, 1) := by decide +kernel
theorem dX9_sumOf_10 : decode cX9_sumOf 10 = .ok (.iaload, 1) := by decide +kernel
theorem dX9_sumOf_11 : decode cX9_sumOf 11 = .ok (.if_icmp .ge 20, 3) := by decide +kernel
theorem dX9_sumOf_14 : decode cX9_sumOf 14 = .ok (.iload_n 2, 1) := by decide +kernel
theorem dX9_sumOf_15 : decode cX9_sumOf 15 = .ok (.aload_n 0, 1) := by decide +kernel
theorem dX9_sumOf_16 : decode cX9_sumOf 16 = .ok (.getfield 7, 3) := by decide +kernel
theorem dX9_sumOf_19 : decode cX9_sumOf 19 = .ok (.iload_n 1, 1) := by decide +kernel
theorem dX9_sumOf_20 : decode cX9_sumOf 20 = .ok (.iload_n 3, 1) := by decide +kernel
theorem dX9_sumOf_21 : decode cX9_sumOf 21 = .ok (.iadd, 1) := by decide +kernel
theorem dX9_sumOf_22 : decode cX9_sumOf 22 = .ok (.iaload, 1) := by decide +kernel
theorem dX9_sumOf_23 : decode cX9_sumOf 23 = .ok (.iadd, 1) := by decide +kernel
theorem dX9_sumOf_24 : decode cX9_sumOf 24 = .ok (.istore_n 2, 1) := by decide +kernel
theorem dX9_sumOf_25 : decode cX9_sumOf 25 = .ok (.iinc 3 1, 3) := by decide +kernel
theorem dX9_sumOf_28 : decode cX9_sumOf 28 = .ok (.goto (-24), 3) := by decide +kernel
theorem dX9_sumOf_31 : decode cX9_sumOf 31 = .ok (.iload_n 2, 1) := by decide +kernel
theorem dX9_sumOf_32 : decode cX9_sumOf 32 = .ok (.ireturn, 1) := by decide +kernel
theorem dX9_folded_0 : decode cX9_folded 0 = .ok (.iconst 0, 1) := by decide +kernel
theorem dX9_folded_1 : decode cX9_folded 1 = .ok (.istore_n 1, 1) := by decide +kernel
theorem dX9_folded_2 : decode cX9_folded 2 = .ok (.iconst 0, 1) := by decide +kernel
theorem dX9_folded_3 : decode cX9_folded 3 = .ok (.istore_n 2, 1) := by decide +kernel
theorem dX9_folded_4 : decode cX9_folded 4 = .ok (.iload_n 2, 1) := by decide +kernel
theorem dX9_folded_5 : decode cX9_folded 5 = .ok (.aload_n 0, 1) := by decide +kernel
theorem dX9_folded_6 : decode cX9_folded 6 = .ok (.getfield 7, 3) := by decide +kernel
theorem dX9_folded_9 : decode cX9_folded 9 = .ok (.iconst 0, 1) := by decide +kernel
theorem dX9_folded_10 : decode cX9_folded 10 = .ok (.iaload, 1) := by decide +kernel
theorem dX9_folded_11 : decode cX9_folded 11 = .ok (.if_icmp .ge 29, 3) := by decide +kernel
theorem dX9_folded_14 : decode cX9_folded 14 = .ok (.iload_n 1, 1) := by decide +kernel
theorem dX9_folded_15 : decode cX9_folded 15 = .ok (.aload_n 0, 1) := by decide +kernel
theorem dX9_folded_16 : decode cX9_folded 16 = .ok (.getfield 7, 3) := by decide +kernel
theorem dX9_folded_19 : decode cX9_folded 19 = .ok (.bipush 15, 2) := by decide +kernel
theorem dX9_folded_21 : decode cX9_folded 21 = .ok (.iload_n 2, 1) := by decide +kernel
theorem dX9_folded_22 : decode cX9_folded 22 = .ok (.iadd, 1) := by decide +kernel
theorem dX9_folded_23 : decode cX9_folded 23 = .ok (.iaload, 1) := by decide +kernel
theorem dX9_folded_24 : decode cX9_folded 24 = .ok (.ifCond .le 7, 3) := by decide +kernel
theorem dX9_folded_27 : decode cX9_folded 27 = .ok (.iconst 1, 1) := by decide +kernel
theorem dX9_folded_28 : decode cX9_folded 28 = .ok (.goto 4, 3) := by decide +kernel
theorem dX9_folded_31 : decode cX9_folded 31 = .ok (.iconst 0, 1) := by decide +kernel
theorem dX9_folded_32 : decode cX9_folded 32 = .ok (.iadd, 1) := by decide +kernel
theorem dX9_folded_33 : decode cX9_folded 33 = .ok (.istore_n 1, 1) := by decide +kernel
theorem dX9_folded_34 : decode cX9_folded 34 = .ok (.iinc 2 1, 3) := by decide +kernel
theorem dX9_folded_37 : decode cX9_folded 37 = .ok (.goto (-33), 3) := by decide +kernel
theorem dX9_folded_40 : decode cX9_folded 40 = .ok (.iload_n 1, 1) := by decide +kernel
theorem dX9_folded_41 : decode cX9_folded 41 = .ok (.ireturn, 1) := by decide +kernel
set_option maxRecDepth 20000 in
theorem ggX9_rightTables_X9_rightly : GoodIn wsX9_rightTables wsX9_rightly := goodIn_ca (goodIn_r _ [5, 6, 7, 8, 4, 9, 10, 11, 12, 13, 14, 15, 16, 17, 18, 19, 20, 21, 22, 23, 24, 25, 26, 27, 28, 29, 30, 31, 32, 33, 34, 35, 36, 37, 38, 39, 40, 41, 42, 43, 44, 45, 46, 47, 48, 49, 50, 51, 52] (by decide +kernel) (by decide +kernel)) (goodIn_sub (fun _ h => List.mem_cons_of_mem _ (List.mem_append_right _ h)) (by decide +kernel))
set_option maxRecDepth 20000 in
theorem gX9_rightTables_X9_rightly : GoodIn wsX9_rightTables (wsV RX9 147 RX9 yX9_rightly wsX9_rightly) := goodIn_app (goodIn_of _ (by decide +kernel)) ggX9_rightTables_X9_rightly
theorem dX9_rightTables_0 : decode cX9_rightTables 0 = .ok (.iconst 0, 1) := by decide +kernel
theorem dX9_rightTables_1 : decode cX9_rightTables 1 = .ok (.istore_n 1, 1) := by decide +kernel
theorem dX9_rightTables_2 : decode cX9_rightTables 2 = .ok (.iconst 0, 1) := by decide +kernel
theorem dX9_rightTables_3 : decode cX9_rightTables 3 = .ok (.istore_n 2, 1) := by decide +kernel
theorem dX9_rightTables_4 : decode cX9_rightTables 4 = .ok (.iload_n 2, 1) := by decide +kernel
theorem dX9_rightTables_5 : decode cX9_rightTables 5 = .ok (.iconst 3, 1) := by decide +kernel
theorem dX9_rightTables_6 : decode cX9_rightTables 6 = .ok (.if_icmp .ge 25, 3) := by decide +kernel
theorem dX9_rightTables_9 : decode cX9_rightTables 9 = .ok (.iload_n 1, 1) := by decide +kernel
theorem dX9_rightTables_10 : decode cX9_rightTables 10 = .ok (.aload_n 0, 1) := by decide +kernel
theorem dX9_rightTables_11 : decode cX9_rightTables 11 = .ok (.iload_n 2, 1) := by decide +kernel
theorem dX9_rightTables_12 : decode cX9_rightTables 12 = .ok (.invokevirtual 147, 3) := by decide +kernel
theorem dX9_rightTables_15 : decode cX9_rightTables 15 = .ok (.ifCond .eq 7, 3) := by decide +kernel
theorem dX9_rightTables_18 : decode cX9_rightTables 18 = .ok (.iconst 1, 1) := by decide +kernel
theorem dX9_rightTables_19 : decode cX9_rightTables 19 = .ok (.goto 4, 3) := by decide +kernel
theorem dX9_rightTables_22 : decode cX9_rightTables 22 = .ok (.iconst 0, 1) := by decide +kernel
theorem dX9_rightTables_23 : decode cX9_rightTables 23 = .ok (.iadd, 1) := by decide +kernel
theorem dX9_rightTables_24 : decode cX9_rightTables 24 = .ok (.istore_n 1, 1) := by decide +kernel
theorem dX9_rightTables_25 : decode cX9_rightTables 25 = .ok (.iinc 2 1, 3) := by decide +kernel
theorem dX9_rightTables_28 : decode cX9_rightTables 28 = .ok (.goto (-24), 3) := by decide +kernel
theorem dX9_rightTables_31 : decode cX9_rightTables 31 = .ok (.iload_n 1, 1) := by decide +kernel
theorem dX9_rightTables_32 : decode cX9_rightTables 32 = .ok (.ireturn, 1) := by decide +kernel
set_option maxRecDepth 20000 in
theorem ggX9_account_X9_done : GoodIn wsX9_account wsX9_done := goodIn_r _ [8, 9, 57, 58, 59, 60, 61, 62, 63, 64, 65, 66, 67, 68, 69, 70, 71, 72, 73, 74, 75, 76] (by decide +kernel) (by decide +kernel)
set_option maxRecDepth 20000 in
theorem gX9_account_X9_done : GoodIn wsX9_account (wsV RX9 78 RX9 yX9_done wsX9_done) := goodIn_app (goodIn_of _ (by decide +kernel)) ggX9_account_X9_done
set_option maxRecDepth 20000 in
theorem ggX9_account_X9_folded : GoodIn wsX9_account wsX9_folded := goodIn_ca (goodIn_r _ [13, 1, 57, 58, 59, 60, 61, 62, 63, 64, 65, 66, 67, 68, 69, 70, 71, 72, 73, 74, 75, 76] (by decide +kernel) (by decide +kernel)) (goodIn_sub (fun _ h => List.mem_cons_of_mem _ (List.mem_append_right _ h)) (by decide +kernel))
set_option maxRecDepth 20000 in
theorem gX9_account_X9_folded : GoodIn wsX9_account (wsV RX9 246 RX9 yX9_folded wsX9_folded) := goodIn_app (goodIn_of _ (by decide +kernel)) ggX9_account_X9_folded
set_option maxRecDepth 20000 in
theorem ggX9_account_X9_sumOf : GoodIn wsX9_account wsX9_sumOf := goodIn_ca (goodIn_r _ [17, 1, 57, 58, 59, 60, 61, 62, 63, 64, 65, 66, 67, 68, 69, 70, 71, 72, 73, 74, 75, 76] (by decide +kernel) (by decide +kernel)) (goodIn_sub (fun _ h => List.mem_cons_of_mem _ (List.mem_append_right _ h)) (by decide +kernel))
set_option maxRecDepth 20000 in
theorem gX9_account_X9_sumOf : GoodIn wsX9_account (wsV RX9 249 RX9 yX9_sumOf wsX9_sumOf) := goodIn_app (goodIn_of _ (by decide +kernel)) ggX9_account_X9_sumOf
set_option maxRecDepth 20000 in
theorem ggX9_account_X9_rightTables : GoodIn wsX9_account wsX9_rightTables := goodIn_ca (goodIn_r _ [21, 22, 23, 24, 7, 25, 26, 27, 28, 29, 30, 31, 32, 33, 1, 34, 35, 36, 37, 38, 39, 40, 41, 42, 43, 44, 45, 46, 47, 48, 49, 50, 51, 57, 58, 59, 60, 61, 62, 63, 64, 65, 66, 67, 68, 69, 70, 71, 72, 73, 74, 75, 76] (by decide +kernel) (by decide +kernel)) (goodIn_sub (fun _ h => List.mem_cons_of_mem _ (List.mem_append_right _ h)) (by decide +kernel))
set_option maxRecDepth 20000 in
theorem gX9_account_X9_rightTables : GoodIn wsX9_account (wsV RX9 252 RX9 yX9_rightTables wsX9_rightTables) := goodIn_app (goodIn_of _ (by decide +kernel)) ggX9_account_X9_rightTables
set_option maxRecDepth 20000 in
theorem ggX9_account_X9_fails : GoodIn wsX9_account wsX9_fails := goodIn_r _ [55, 9, 56, 57, 58, 59, 60, 61, 62, 63, 64, 65, 66, 67, 68, 69, 70, 71, 72, 73, 74, 75, 76] (by decide +kernel) (by decide +kernel)
set_option maxRecDepth 20000 in
theorem gX9_account_X9_fails : GoodIn wsX9_account (wsV RX9 70 RX9 yX9_fails wsX9_fails) := goodIn_app (goodIn_of _ (by decide +kernel)) ggX9_account_X9_fails
theorem dX9_account_0 : decode cX9_account 0 = .ok (.iload_n 1, 1) := by decide +kernel
theorem dX9_account_1 : decode cX9_account 1 = .ok (.tableswitch 176 0 11 #[63, 74, 83, 111, 122, 133, 142, 142, 142, 142, 158, 167], 63) := by decide +kernel
theorem dX9_account_64 : decode cX9_account 64 = .ok (.aload_n 0, 1) := by decide +kernel
theorem dX9_account_65 : decode cX9_account 65 = .ok (.aload_n 0, 1) := by decide +kernel
theorem dX9_account_66 : decode cX9_account 66 = .ok (.getfield 7, 3) := by decide +kernel
theorem dX9_account_69 : decode cX9_account 69 = .ok (.iconst 0, 1) := by decide +kernel
theorem dX9_account_70 : decode cX9_account 70 = .ok (.iaload, 1) := by decide +kernel
theorem dX9_account_71 : decode cX9_account 71 = .ok (.invokevirtual 78, 3) := by decide +kernel
theorem dX9_account_74 : decode cX9_account 74 = .ok (.ireturn, 1) := by decide +kernel
theorem dX9_account_75 : decode cX9_account 75 = .ok (.aload_n 0, 1) := by decide +kernel
theorem dX9_account_76 : decode cX9_account 76 = .ok (.aload_n 0, 1) := by decide +kernel
theorem dX9_account_77 : decode cX9_account 77 = .ok (.invokevirtual 246, 3) := by decide +kernel
theorem dX9_account_80 : decode cX9_account 80 = .ok (.invokevirtual 78, 3) := by decide +kernel
theorem dX9_account_83 : decode cX9_account 83 = .ok (.ireturn, 1) := by decide +kernel
theorem dX9_account_84 : decode cX9_account 84 = .ok (.aload_n 0, 1) := by decide +kernel
theorem dX9_account_85 : decode cX9_account 85 = .ok (.aload_n 0, 1) := by decide +kernel
theorem dX9_account_86 : decode cX9_account 86 = .ok (.getfield 7, 3) := by decide +kernel
theorem dX9_account_89 : decode cX9_account 89 = .ok (.bipush 55, 2) := by decide +kernel
theorem dX9_account_91 : decode cX9_account 91 = .ok (.iaload, 1) := by decide +kernel
theorem dX9_account_92 : decode cX9_account 92 = .ok (.aload_n 0, 1) := by decide +kernel
theorem dX9_account_93 : decode cX9_account 93 = .ok (.getfield 7, 3) := by decide +kernel
theorem dX9_account_96 : decode cX9_account 96 = .ok (.bipush 56, 2) := by decide +kernel
theorem dX9_account_98 : decode cX9_account 98 = .ok (.iaload, 1) := by decide +kernel
theorem dX9_account_99 : decode cX9_account 99 = .ok (.iadd, 1) := by decide +kernel
theorem dX9_account_100 : decode cX9_account 100 = .ok (.aload_n 0, 1) := by decide +kernel
theorem dX9_account_101 : decode cX9_account 101 = .ok (.getfield 7, 3) := by decide +kernel
theorem dX9_account_104 : decode cX9_account 104 = .ok (.bipush 57, 2) := by decide +kernel
theorem dX9_account_106 : decode cX9_account 106 = .ok (.iaload, 1) := by decide +kernel
theorem dX9_account_107 : decode cX9_account 107 = .ok (.iadd, 1) := by decide +kernel
theorem dX9_account_108 : decode cX9_account 108 = .ok (.invokevirtual 78, 3) := by decide +kernel
theorem dX9_account_111 : decode cX9_account 111 = .ok (.ireturn, 1) := by decide +kernel
theorem dX9_account_112 : decode cX9_account 112 = .ok (.aload_n 0, 1) := by decide +kernel
theorem dX9_account_113 : decode cX9_account 113 = .ok (.aload_n 0, 1) := by decide +kernel
theorem dX9_account_114 : decode cX9_account 114 = .ok (.bipush 25, 2) := by decide +kernel
theorem dX9_account_116 : decode cX9_account 116 = .ok (.invokevirtual 249, 3) := by decide +kernel
theorem dX9_account_119 : decode cX9_account 119 = .ok (.invokevirtual 78, 3) := by decide +kernel
theorem dX9_account_122 : decode cX9_account 122 = .ok (.ireturn, 1) := by decide +kernel
theorem dX9_account_123 : decode cX9_account 123 = .ok (.aload_n 0, 1) := by decide +kernel
theorem dX9_account_124 : decode cX9_account 124 = .ok (.aload_n 0, 1) := by decide +kernel
theorem dX9_account_125 : decode cX9_account 125 = .ok (.bipush 35, 2) := by decide +kernel
theorem dX9_account_127 : decode cX9_account 127 = .ok (.invokevirtual 249, 3) := by decide +kernel
theorem dX9_account_130 : decode cX9_account 130 = .ok (.invokevirtual 78, 3) := by decide +kernel
theorem dX9_account_133 : decode cX9_account 133 = .ok (.ireturn, 1) := by decide +kernel
theorem dX9_account_134 : decode cX9_account 134 = .ok (.aload_n 0, 1) := by decide +kernel
theorem dX9_account_135 : decode cX9_account 135 = .ok (.aload_n 0, 1) := by decide +kernel
theorem dX9_account_136 : decode cX9_account 136 = .ok (.invokevirtual 252, 3) := by decide +kernel
theorem dX9_account_139 : decode cX9_account 139 = .ok (.invokevirtual 78, 3) := by decide +kernel
theorem dX9_account_142 : decode cX9_account 142 = .ok (.ireturn, 1) := by decide +kernel
theorem dX9_account_143 : decode cX9_account 143 = .ok (.aload_n 0, 1) := by decide +kernel
theorem dX9_account_144 : decode cX9_account 144 = .ok (.aload_n 0, 1) := by decide +kernel
theorem dX9_account_145 : decode cX9_account 145 = .ok (.getfield 7, 3) := by decide +kernel
theorem dX9_account_148 : decode cX9_account 148 = .ok (.iconst 1, 1) := by decide +kernel
theorem dX9_account_149 : decode cX9_account 149 = .ok (.iload_n 1, 1) := by decide +kernel
theorem dX9_account_150 : decode cX9_account 150 = .ok (.iadd, 1) := by decide +kernel
theorem dX9_account_151 : decode cX9_account 151 = .ok (.bipush 6, 2) := by decide +kernel
theorem dX9_account_153 : decode cX9_account 153 = .ok (.isub, 1) := by decide +kernel
theorem dX9_account_154 : decode cX9_account 154 = .ok (.iaload, 1) := by decide +kernel
theorem dX9_account_155 : decode cX9_account 155 = .ok (.invokevirtual 78, 3) := by decide +kernel
theorem dX9_account_158 : decode cX9_account 158 = .ok (.ireturn, 1) := by decide +kernel
theorem dX9_account_159 : decode cX9_account 159 = .ok (.aload_n 0, 1) := by decide +kernel
theorem dX9_account_160 : decode cX9_account 160 = .ok (.aload_n 0, 1) := by decide +kernel
theorem dX9_account_161 : decode cX9_account 161 = .ok (.getfield 196, 3) := by decide +kernel
theorem dX9_account_164 : decode cX9_account 164 = .ok (.invokevirtual 78, 3) := by decide +kernel
theorem dX9_account_167 : decode cX9_account 167 = .ok (.ireturn, 1) := by decide +kernel
theorem dX9_account_168 : decode cX9_account 168 = .ok (.aload_n 0, 1) := by decide +kernel
theorem dX9_account_169 : decode cX9_account 169 = .ok (.aload_n 0, 1) := by decide +kernel
theorem dX9_account_170 : decode cX9_account 170 = .ok (.getfield 59, 3) := by decide +kernel
theorem dX9_account_173 : decode cX9_account 173 = .ok (.invokevirtual 78, 3) := by decide +kernel
theorem dX9_account_176 : decode cX9_account 176 = .ok (.ireturn, 1) := by decide +kernel
theorem dX9_account_177 : decode cX9_account 177 = .ok (.aload_n 0, 1) := by decide +kernel
theorem dX9_account_178 : decode cX9_account 178 = .ok (.iconst 1, 1) := by decide +kernel
theorem dX9_account_179 : decode cX9_account 179 = .ok (.invokevirtual 70, 3) := by decide +kernel
theorem dX9_account_182 : decode cX9_account 182 = .ok (.ireturn, 1) := by decide +kernel
set_option maxRecDepth 20000 in
theorem ggX9_meanStains_X9_sumOf : GoodIn wsX9_meanStains wsX9_sumOf := goodIn_ca (goodIn_r _ [7, 1, 8, 9, 10, 11, 12, 13, 14, 15, 16, 17, 18, 19, 20, 21, 22, 23, 24, 25, 26, 27] (by decide +kernel) (by decide +kernel)) (goodIn_sub (fun _ h => List.mem_cons_of_mem _ (List.mem_append_right _ h)) (by decide +kernel))
set_option maxRecDepth 20000 in
theorem gX9_meanStains_X9_sumOf : GoodIn wsX9_meanStains (wsV RX9 249 RX9 yX9_sumOf wsX9_sumOf) := goodIn_app (goodIn_of _ (by decide +kernel)) ggX9_meanStains_X9_sumOf
theorem dX9_meanStains_0 : decode cX9_meanStains 0 = .ok (.aload_n 0, 1) := by decide +kernel
theorem dX9_meanStains_1 : decode cX9_meanStains 1 = .ok (.aload_n 0, 1) := by decide +kernel
theorem dX9_meanStains_2 : decode cX9_meanStains 2 = .ok (.getfield 7, 3) := by decide +kernel
theorem dX9_meanStains_5 : decode cX9_meanStains 5 = .ok (.iconst 0, 1) := by decide +kernel
theorem dX9_meanStains_6 : decode cX9_meanStains 6 = .ok (.iaload, 1) := by decide +kernel
theorem dX9_meanStains_7 : decode cX9_meanStains 7 = .ok (.ifCond .ne 7, 3) := by decide +kernel
theorem dX9_meanStains_10 : decode cX9_meanStains 10 = .ok (.iconst 1, 1) := by decide +kernel
theorem dX9_meanStains_11 : decode cX9_meanStains 11 = .ok (.goto 4, 3) := by decide +kernel
theorem dX9_meanStains_14 : decode cX9_meanStains 14 = .ok (.iconst 0, 1) := by decide +kernel
theorem dX9_meanStains_15 : decode cX9_meanStains 15 = .ok (.putfield 36, 3) := by decide +kernel
theorem dX9_meanStains_18 : decode cX9_meanStains 18 = .ok (.aload_n 0, 1) := by decide +kernel
theorem dX9_meanStains_19 : decode cX9_meanStains 19 = .ok (.getfield 36, 3) := by decide +kernel
theorem dX9_meanStains_22 : decode cX9_meanStains 22 = .ok (.ifCond .ne 21, 3) := by decide +kernel
theorem dX9_meanStains_25 : decode cX9_meanStains 25 = .ok (.aload_n 0, 1) := by decide +kernel
theorem dX9_meanStains_26 : decode cX9_meanStains 26 = .ok (.bipush 35, 2) := by decide +kernel
theorem dX9_meanStains_28 : decode cX9_meanStains 28 = .ok (.invokevirtual 249, 3) := by decide +kernel
theorem dX9_meanStains_31 : decode cX9_meanStains 31 = .ok (.i2d, 1) := by decide +kernel
theorem dX9_meanStains_32 : decode cX9_meanStains 32 = .ok (.aload_n 0, 1) := by decide +kernel
theorem dX9_meanStains_33 : decode cX9_meanStains 33 = .ok (.getfield 7, 3) := by decide +kernel
theorem dX9_meanStains_36 : decode cX9_meanStains 36 = .ok (.iconst 0, 1) := by decide +kernel
theorem dX9_meanStains_37 : decode cX9_meanStains 37 = .ok (.iaload, 1) := by decide +kernel
theorem dX9_meanStains_38 : decode cX9_meanStains 38 = .ok (.i2d, 1) := by decide +kernel
theorem dX9_meanStains_39 : decode cX9_meanStains 39 = .ok (.ddiv, 1) := by decide +kernel
theorem dX9_meanStains_40 : decode cX9_meanStains 40 = .ok (.goto 4, 3) := by decide +kernel
theorem dX9_meanStains_43 : decode cX9_meanStains 43 = .ok (.dconst 0, 1) := by decide +kernel
theorem dX9_meanStains_44 : decode cX9_meanStains 44 = .ok (.dreturn, 1) := by decide +kernel
set_option maxRecDepth 20000 in
theorem ggX9_foldedShare_X9_folded : GoodIn wsX9_foldedShare wsX9_folded := goodIn_ca (goodIn_r _ [7, 1, 8, 9, 10, 11, 12, 13, 14, 15, 16, 17, 18, 19, 20, 21, 22, 23, 24, 25, 26, 27] (by decide +kernel) (by decide +kernel)) (goodIn_sub (fun _ h => List.mem_cons_of_mem _ (List.mem_append_right _ h)) (by decide +kernel))
set_option maxRecDepth 20000 in
theorem gX9_foldedShare_X9_folded : GoodIn wsX9_foldedShare (wsV RX9 246 RX9 yX9_folded wsX9_folded) := goodIn_app (goodIn_of _ (by decide +kernel)) ggX9_foldedShare_X9_folded
theorem dX9_foldedShare_0 : decode cX9_foldedShare 0 = .ok (.aload_n 0, 1) := by decide +kernel
theorem dX9_foldedShare_1 : decode cX9_foldedShare 1 = .ok (.aload_n 0, 1) := by decide +kernel
theorem dX9_foldedShare_2 : decode cX9_foldedShare 2 = .ok (.getfield 7, 3) := by decide +kernel
theorem dX9_foldedShare_5 : decode cX9_foldedShare 5 = .ok (.iconst 0, 1) := by decide +kernel
theorem dX9_foldedShare_6 : decode cX9_foldedShare 6 = .ok (.iaload, 1) := by decide +kernel
theorem dX9_foldedShare_7 : decode cX9_foldedShare 7 = .ok (.ifCond .ne 7, 3) := by decide +kernel
theorem dX9_foldedShare_10 : decode cX9_foldedShare 10 = .ok (.iconst 1, 1) := by decide +kernel
theorem dX9_foldedShare_11 : decode cX9_foldedShare 11 = .ok (.goto 4, 3) := by decide +kernel
theorem dX9_foldedShare_14 : decode cX9_foldedShare 14 = .ok (.iconst 0, 1) := by decide +kernel
theorem dX9_foldedShare_15 : decode cX9_foldedShare 15 = .ok (.putfield 36, 3) := by decide +kernel
theorem dX9_foldedShare_18 : decode cX9_foldedShare 18 = .ok (.aload_n 0, 1) := by decide +kernel
theorem dX9_foldedShare_19 : decode cX9_foldedShare 19 = .ok (.getfield 36, 3) := by decide +kernel
theorem dX9_foldedShare_22 : decode cX9_foldedShare 22 = .ok (.ifCond .ne 19, 3) := by decide +kernel
theorem dX9_foldedShare_25 : decode cX9_foldedShare 25 = .ok (.aload_n 0, 1) := by decide +kernel
theorem dX9_foldedShare_26 : decode cX9_foldedShare 26 = .ok (.invokevirtual 246, 3) := by decide +kernel
theorem dX9_foldedShare_29 : decode cX9_foldedShare 29 = .ok (.i2f, 1) := by decide +kernel
theorem dX9_foldedShare_30 : decode cX9_foldedShare 30 = .ok (.aload_n 0, 1) := by decide +kernel
theorem dX9_foldedShare_31 : decode cX9_foldedShare 31 = .ok (.getfield 7, 3) := by decide +kernel
theorem dX9_foldedShare_34 : decode cX9_foldedShare 34 = .ok (.iconst 0, 1) := by decide +kernel
theorem dX9_foldedShare_35 : decode cX9_foldedShare 35 = .ok (.iaload, 1) := by decide +kernel
theorem dX9_foldedShare_36 : decode cX9_foldedShare 36 = .ok (.i2f, 1) := by decide +kernel
theorem dX9_foldedShare_37 : decode cX9_foldedShare 37 = .ok (.fdiv, 1) := by decide +kernel
theorem dX9_foldedShare_38 : decode cX9_foldedShare 38 = .ok (.goto 4, 3) := by decide +kernel
theorem dX9_foldedShare_41 : decode cX9_foldedShare 41 = .ok (.fconst 0, 1) := by decide +kernel
theorem dX9_foldedShare_42 : decode cX9_foldedShare 42 = .ok (.freturn, 1) := by decide +kernel
set_option maxRecDepth 20000 in
theorem ggX9_undo_X9_fails : GoodIn wsX9_undo wsX9_fails := goodIn_r _ [8, 9, 10, 18, 19, 20, 21, 22, 23, 24, 25, 26, 27, 28, 29, 30, 31, 32, 33, 34, 35, 36, 37] (by decide +kernel) (by decide +kernel)
set_option maxRecDepth 20000 in
theorem gX9_undo_X9_fails : GoodIn wsX9_undo (wsV RX9 70 RX9 yX9_fails wsX9_fails) := goodIn_app (goodIn_of _ (by decide +kernel)) ggX9_undo_X9_fails
set_option maxRecDepth 20000 in
theorem ggX9_undo_X9_copy : GoodIn wsX9_undo wsX9_copy := goodIn_ca (goodIn_r _ [13] (by decide +kernel) (by decide +kernel)) (goodIn_sub (fun _ h => List.mem_cons_of_mem _ (List.mem_append_right _ h)) (by decide +kernel))
set_option maxRecDepth 20000 in
theorem gX9_undo_X9_copy : GoodIn wsX9_undo (va_wsS RX9 55 yX9_copy wsX9_copy) := goodIn_app (goodIn_of _ (by decide +kernel)) ggX9_undo_X9_copy
set_option maxRecDepth 20000 in
theorem ggX9_undo_X9_done : GoodIn wsX9_undo wsX9_done := goodIn_r _ [17, 9, 18, 19, 20, 21, 22, 23, 24, 25, 26, 27, 28, 29, 30, 31, 32, 33, 34, 35, 36, 37] (by decide +kernel) (by decide +kernel)
set_option maxRecDepth 20000 in
theorem gX9_undo_X9_done : GoodIn wsX9_undo (wsV RX9 78 RX9 yX9_done wsX9_done) := goodIn_app (goodIn_of _ (by decide +kernel)) ggX9_undo_X9_done
theorem dX9_undo_0 : decode cX9_undo 0 = .ok (.aload_n 0, 1) := by decide +kernel
theorem dX9_undo_1 : decode cX9_undo 1 = .ok (.getfield 59, 3) := by decide +kernel
theorem dX9_undo_4 : decode cX9_undo 4 = .ok (.ifCond .ne 9, 3) := by decide +kernel
theorem dX9_undo_7 : decode cX9_undo 7 = .ok (.aload_n 0, 1) := by decide +kernel
theorem dX9_undo_8 : decode cX9_undo 8 = .ok (.iconst 1, 1) := by decide +kernel
theorem dX9_undo_9 : decode cX9_undo 9 = .ok (.invokevirtual 70, 3) := by decide +kernel
theorem dX9_undo_12 : decode cX9_undo 12 = .ok (.ireturn, 1) := by decide +kernel
theorem dX9_undo_13 : decode cX9_undo 13 = .ok (.aload_n 0, 1) := by decide +kernel
theorem dX9_undo_14 : decode cX9_undo 14 = .ok (.dup, 1) := by decide +kernel
theorem dX9_undo_15 : decode cX9_undo 15 = .ok (.getfield 59, 3) := by decide +kernel
theorem dX9_undo_18 : decode cX9_undo 18 = .ok (.iconst 1, 1) := by decide +kernel
theorem dX9_undo_19 : decode cX9_undo 19 = .ok (.isub, 1) := by decide +kernel
theorem dX9_undo_20 : decode cX9_undo 20 = .ok (.putfield 59, 3) := by decide +kernel
theorem dX9_undo_23 : decode cX9_undo 23 = .ok (.aload_n 0, 1) := by decide +kernel
theorem dX9_undo_24 : decode cX9_undo 24 = .ok (.getfield 16, 3) := by decide +kernel
theorem dX9_undo_27 : decode cX9_undo 27 = .ok (.aload_n 0, 1) := by decide +kernel
theorem dX9_undo_28 : decode cX9_undo 28 = .ok (.getfield 59, 3) := by decide +kernel
theorem dX9_undo_31 : decode cX9_undo 31 = .ok (.bipush 82, 2) := by decide +kernel
theorem dX9_undo_33 : decode cX9_undo 33 = .ok (.imul, 1) := by decide +kernel
theorem dX9_undo_34 : decode cX9_undo 34 = .ok (.aload_n 0, 1) := by decide +kernel
theorem dX9_undo_35 : decode cX9_undo 35 = .ok (.getfield 7, 3) := by decide +kernel
theorem dX9_undo_38 : decode cX9_undo 38 = .ok (.iconst 0, 1) := by decide +kernel
theorem dX9_undo_39 : decode cX9_undo 39 = .ok (.invokestatic 55, 3) := by decide +kernel
theorem dX9_undo_42 : decode cX9_undo 42 = .ok (.aload_n 0, 1) := by decide +kernel
theorem dX9_undo_43 : decode cX9_undo 43 = .ok (.aload_n 0, 1) := by decide +kernel
theorem dX9_undo_44 : decode cX9_undo 44 = .ok (.getfield 59, 3) := by decide +kernel
theorem dX9_undo_47 : decode cX9_undo 47 = .ok (.invokevirtual 78, 3) := by decide +kernel
theorem dX9_undo_50 : decode cX9_undo 50 = .ok (.ireturn, 1) := by decide +kernel
set_option maxRecDepth 20000 in
theorem ggX9_save_X9_copy : GoodIn wsX9_save wsX9_copy := goodIn_ca (goodIn_r _ [7] (by decide +kernel) (by decide +kernel)) (goodIn_sub (fun _ h => List.mem_cons_of_mem _ (List.mem_append_right _ h)) (by decide +kernel))
set_option maxRecDepth 20000 in
theorem gX9_save_X9_copy : GoodIn wsX9_save (va_wsS RX9 55 yX9_copy wsX9_copy) := goodIn_app (goodIn_of _ (by decide +kernel)) ggX9_save_X9_copy
set_option maxRecDepth 20000 in
theorem ggX9_save_X9_done : GoodIn wsX9_save wsX9_done := goodIn_r _ [11, 12, 13, 14, 15, 16, 17, 18, 19, 20, 21, 22, 23, 24, 25, 26, 27, 28, 29, 30, 31, 32] (by decide +kernel) (by decide +kernel)
set_option maxRecDepth 20000 in
theorem gX9_save_X9_done : GoodIn wsX9_save (wsV RX9 78 RX9 yX9_done wsX9_done) := goodIn_app (goodIn_of _ (by decide +kernel)) ggX9_save_X9_done
theorem dX9_save_0 : decode cX9_save 0 = .ok (.aload_n 0, 1) := by decide +kernel
theorem dX9_save_1 : decode cX9_save 1 = .ok (.getfield 7, 3) := by decide +kernel
theorem dX9_save_4 : decode cX9_save 4 = .ok (.iconst 0, 1) := by decide +kernel
theorem dX9_save_5 : decode cX9_save 5 = .ok (.aload_n 0, 1) := by decide +kernel
theorem dX9_save_6 : decode cX9_save 6 = .ok (.getfield 19, 3) := by decide +kernel
theorem dX9_save_9 : decode cX9_save 9 = .ok (.iconst 0, 1) := by decide +kernel
theorem dX9_save_10 : decode cX9_save 10 = .ok (.invokestatic 55, 3) := by decide +kernel
theorem dX9_save_13 : decode cX9_save 13 = .ok (.aload_n 0, 1) := by decide +kernel
theorem dX9_save_14 : decode cX9_save 14 = .ok (.iconst 1, 1) := by decide +kernel
theorem dX9_save_15 : decode cX9_save 15 = .ok (.putfield 255, 3) := by decide +kernel
theorem dX9_save_18 : decode cX9_save 18 = .ok (.aload_n 0, 1) := by decide +kernel
theorem dX9_save_19 : decode cX9_save 19 = .ok (.aload_n 0, 1) := by decide +kernel
theorem dX9_save_20 : decode cX9_save 20 = .ok (.getfield 7, 3) := by decide +kernel
theorem dX9_save_23 : decode cX9_save 23 = .ok (.iconst 0, 1) := by decide +kernel
theorem dX9_save_24 : decode cX9_save 24 = .ok (.iaload, 1) := by decide +kernel
theorem dX9_save_25 : decode cX9_save 25 = .ok (.invokevirtual 78, 3) := by decide +kernel
theorem dX9_save_28 : decode cX9_save 28 = .ok (.ireturn, 1) := by decide +kernel
set_option maxRecDepth 20000 in
theorem ggX9_restore_X9_fails : GoodIn wsX9_restore wsX9_fails := goodIn_r _ [9, 10, 11, 19, 20, 21, 22, 23, 24, 25, 26, 27, 28, 29, 30, 31, 32, 33, 34, 35, 36, 37, 38] (by decide +kernel) (by decide +kernel)
set_option maxRecDepth 20000 in
theorem gX9_restore_X9_fails : GoodIn wsX9_restore (wsV RX9 70 RX9 yX9_fails wsX9_fails) := goodIn_app (goodIn_of _ (by decide +kernel)) ggX9_restore_X9_fails
set_option maxRecDepth 20000 in
theorem ggX9_restore_X9_copy : GoodIn wsX9_restore wsX9_copy := goodIn_ca (goodIn_r _ [14] (by decide +kernel) (by decide +kernel)) (goodIn_sub (fun _ h => List.mem_cons_of_mem _ (List.mem_append_right _ h)) (by decide +kernel))
set_option maxRecDepth 20000 in
theorem gX9_restore_X9_copy : GoodIn wsX9_restore (va_wsS RX9 55 yX9_copy wsX9_copy) := goodIn_app (goodIn_of _ (by decide +kernel)) ggX9_restore_X9_copy
set_option maxRecDepth 20000 in
theorem ggX9_restore_X9_done : GoodIn wsX9_restore wsX9_done := goodIn_r _ [18, 10, 19, 20, 21, 22, 23, 24, 25, 26, 27, 28, 29, 30, 31, 32, 33, 34, 35, 36, 37, 38] (by decide +kernel) (by decide +kernel)
set_option maxRecDepth 20000 in
theorem gX9_restore_X9_done : GoodIn wsX9_restore (wsV RX9 78 RX9 yX9_done wsX9_done) := goodIn_app (goodIn_of _ (by decide +kernel)) ggX9_restore_X9_done
theorem dX9_restore_0 : decode cX9_restore 0 = .ok (.aload_n 0, 1) := by decide +kernel
theorem dX9_restore_1 : decode cX9_restore 1 = .ok (.getfield 255, 3) := by decide +kernel
theorem dX9_restore_4 : decode cX9_restore 4 = .ok (.ifCond .ne 9, 3) := by decide +kernel
theorem dX9_restore_7 : decode cX9_restore 7 = .ok (.aload_n 0, 1) := by decide +kernel
theorem dX9_restore_8 : decode cX9_restore 8 = .ok (.iconst 1, 1) := by decide +kernel
theorem dX9_restore_9 : decode cX9_restore 9 = .ok (.invokevirtual 70, 3) := by decide +kernel
theorem dX9_restore_12 : decode cX9_restore 12 = .ok (.ireturn, 1) := by decide +kernel
theorem dX9_restore_13 : decode cX9_restore 13 = .ok (.aload_n 0, 1) := by decide +kernel
theorem dX9_restore_14 : decode cX9_restore 14 = .ok (.getfield 19, 3) := by decide +kernel
theorem dX9_restore_17 : decode cX9_restore 17 = .ok (.iconst 0, 1) := by decide +kernel
theorem dX9_restore_18 : decode cX9_restore 18 = .ok (.aload_n 0, 1) := by decide +kernel
theorem dX9_restore_19 : decode cX9_restore 19 = .ok (.getfield 7, 3) := by decide +kernel
theorem dX9_restore_22 : decode cX9_restore 22 = .ok (.iconst 0, 1) := by decide +kernel
theorem dX9_restore_23 : decode cX9_restore 23 = .ok (.invokestatic 55, 3) := by decide +kernel
theorem dX9_restore_26 : decode cX9_restore 26 = .ok (.aload_n 0, 1) := by decide +kernel
theorem dX9_restore_27 : decode cX9_restore 27 = .ok (.iconst 0, 1) := by decide +kernel
theorem dX9_restore_28 : decode cX9_restore 28 = .ok (.putfield 59, 3) := by decide +kernel
theorem dX9_restore_31 : decode cX9_restore 31 = .ok (.aload_n 0, 1) := by decide +kernel
theorem dX9_restore_32 : decode cX9_restore 32 = .ok (.aload_n 0, 1) := by decide +kernel
theorem dX9_restore_33 : decode cX9_restore 33 = .ok (.getfield 7, 3) := by decide +kernel
theorem dX9_restore_36 : decode cX9_restore 36 = .ok (.iconst 0, 1) := by decide +kernel
theorem dX9_restore_37 : decode cX9_restore 37 = .ok (.iaload, 1) := by decide +kernel
theorem dX9_restore_38 : decode cX9_restore 38 = .ok (.invokevirtual 78, 3) := by decide +kernel
theorem dX9_restore_41 : decode cX9_restore 41 = .ok (.ireturn, 1) := by decide +kernel
set_option maxRecDepth 20000 in
theorem ggL_napkin_X8_napkin : GoodIn wsL_napkin wsX8_napkin := goodIn_ca (goodIn_ca (goodIn_ca (goodIn_ca (goodIn_r _ [7, 8, 9, 10, 11, 6, 12, 13, 14, 15, 16, 17, 18, 19, 20, 21, 22, 23, 24, 25, 26, 27, 28, 29, 30, 31, 32, 33, 34, 35, 36, 37, 38, 39, 40, 41, 42, 43, 44, 45, 46, 47, 48, 49, 50, 51, 52, 53, 54, 55, 56, 57, 58, 59, 60, 61, 62, 63, 64, 65, 66, 67, 68, 69, 70, 71, 72, 73, 74, 75, 76, 77, 78, 79, 80, 81, 82, 83, 84, 85, 86, 87, 88, 89, 90, 91, 92, 93, 94, 95, 96, 97, 98, 99, 100, 101, 102, 103, 104, 105, 106, 107, 108, 109, 110, 111, 112, 113, 114, 115, 116, 117, 118, 119, 120, 121, 122, 123, 124, 125, 126, 127, 128, 129, 130, 131, 132, 133, 134, 135, 136, 137, 138, 139, 140, 141, 142, 143, 144, 145, 146, 147, 148, 149, 150, 151, 152, 153, 154, 155, 156, 157, 158, 159, 160, 161, 162, 163, 164, 165, 166, 167, 168, 169, 170, 171, 172, 173, 174, 175, 176, 177, 178, 179, 180, 181, 182, 183, 184, 185, 186, 187, 188, 189, 190, 191, 192, 193, 194, 195, 196, 197, 198, 199, 200, 201, 202, 203, 204, 205, 206, 207, 208, 209, 210, 211, 212, 213, 214, 215, 216, 217, 218, 219, 220, 221, 222, 223, 224, 225, 226, 227, 228, 229, 230, 231, 232, 233, 234, 235, 236, 237, 238, 239, 240, 241, 242, 243, 244, 245, 246, 247, 248, 249, 250, 251, 252, 253, 254, 255, 256, 257, 258, 259, 260, 261, 262, 263, 264, 265, 266, 267, 268, 269, 270, 271, 272, 273, 274, 275, 276, 277, 278, 279, 280, 281, 282, 283, 284, 285, 286, 287, 288, 289, 290, 291, 292, 293, 294, 295, 296, 297, 298, 299, 300, 301, 302, 303, 304, 305, 306, 307, 308, 309] (by decide +kernel) (by decide +kernel)) (goodIn_sub (fun _ h => List.mem_cons_of_mem _ (List.mem_append_left _ (List.mem_append_left _ (List.mem_append_right _ h)))) (by decide +kernel))) (goodIn_sub (fun _ h => List.mem_cons_of_mem _ (List.mem_append_left _ (List.mem_append_right _ h))) (by decide +kernel))) (goodIn_sub (fun _ h => List.mem_cons_of_mem _ (List.mem_append_right _ h)) (by decide +kernel))) (goodIn_sub (fun _ h => List.mem_cons_of_mem _ (List.mem_append_left _ (List.mem_append_left _ (List.mem_append_left _ (List.mem_append_right _ h))))) (by decide +kernel))
set_option maxRecDepth 20000 in
theorem gL_napkin_X8_napkin : GoodIn wsL_napkin (wsV RL 7 RX8 yX8_napkin wsX8_napkin) := goodIn_app (goodIn_of _ (by decide +kernel)) ggL_napkin_X8_napkin
theorem dL_napkin_0 : decode cL_napkin 0 = .ok (.aload_n 2, 1) := by decide +kernel
theorem dL_napkin_1 : decode cL_napkin 1 = .ok (.iconst 0, 1) := by decide +kernel
theorem dL_napkin_2 : decode cL_napkin 2 = .ok (.aload_n 0, 1) := by decide +kernel
theorem dL_napkin_3 : decode cL_napkin 3 = .ok (.iload_n 1, 1) := by decide +kernel
theorem dL_napkin_4 : decode cL_napkin 4 = .ok (.invokevirtual 7, 3) := by decide +kernel
theorem dL_napkin_7 : decode cL_napkin 7 = .ok (.i2l, 1) := by decide +kernel
theorem dL_napkin_8 : decode cL_napkin 8 = .ok (.lastore, 1) := by decide +kernel
theorem dL_napkin_9 : decode cL_napkin 9 = .ok (.goto 9, 3) := by decide +kernel
theorem dL_napkin_12 : decode cL_napkin 12 = .ok (.astore_n 3, 1) := by decide +kernel
theorem dL_napkin_13 : decode cL_napkin 13 = .ok (.iconst 1, 1) := by decide +kernel
theorem dL_napkin_14 : decode cL_napkin 14 = .ok (.ireturn, 1) := by decide +kernel
theorem dL_napkin_15 : decode cL_napkin 15 = .ok (.astore_n 3, 1) := by decide +kernel
theorem dL_napkin_16 : decode cL_napkin 16 = .ok (.iconst 2, 1) := by decide +kernel
theorem dL_napkin_17 : decode cL_napkin 17 = .ok (.ireturn, 1) := by decide +kernel
theorem dL_napkin_18 : decode cL_napkin 18 = .ok (.iconst 0, 1) := by decide +kernel
theorem dL_napkin_19 : decode cL_napkin 19 = .ok (.ireturn, 1) := by decide +kernel
set_option maxRecDepth 20000 in
theorem ggL_fold_X8_fold : GoodIn wsL_fold wsX8_fold := goodIn_ca (goodIn_ca (goodIn_ca (goodIn_ca (goodIn_r _ [8, 9, 10, 11, 12, 7, 13, 14, 15, 16, 17, 18, 19, 20, 21, 22, 23, 24, 25, 26, 27, 28, 29, 30, 31, 32, 33, 34, 35, 36, 37, 38, 39, 40, 41, 42, 43, 44, 45, 46, 47, 48, 49, 50, 51, 52, 53, 54, 55, 56, 57, 58, 59, 60, 61, 62, 63, 64, 65, 66, 67, 68, 69, 70, 71, 72, 73, 74, 75, 76, 77, 78, 79, 80, 81, 82, 83, 84, 85, 86, 87, 88, 89, 90, 91, 92, 93, 94, 95, 96, 97, 98, 99, 100, 101, 102, 103, 104, 105, 106, 107, 108, 109, 110, 111, 112, 113, 114, 115, 116, 117, 118, 119, 120, 121, 122, 123, 124, 125, 126, 127, 128, 129, 130, 131, 132, 133, 134, 135, 136, 137, 138, 139, 140, 141, 142, 143, 144, 145, 146, 147, 148, 149, 150, 151, 152, 153, 154, 155, 156, 157, 158, 159, 160, 161, 162, 163, 164, 165, 166, 167, 168, 169, 170, 171, 172, 173, 174, 175, 176, 177, 178, 179, 180, 181, 182, 183, 184, 185, 186, 187, 188, 189, 190, 191, 192, 193, 194, 195, 196, 197, 198, 199, 200, 201, 202, 203, 204, 205, 206, 207, 208, 209, 210, 211, 212, 213, 214, 215, 216, 217, 218, 219, 220, 221, 222, 223, 224, 225, 226, 227, 228, 229, 230, 231, 232, 233, 234, 235, 236, 237, 238, 239, 240, 241, 242, 243, 244, 245, 246, 247, 248, 249, 250, 251, 252, 253, 254, 255, 256, 257, 258, 259, 260, 261, 262, 263, 264, 265, 266, 267, 268, 269, 270, 271, 272, 273, 274, 275, 276, 277, 278, 279, 280, 281, 282, 283, 284, 285, 286, 287, 288, 289, 290, 291, 292, 293, 294, 295, 296, 297, 298, 299, 300, 301, 302, 303, 304, 305, 306, 307, 308, 309, 310] (by decide +kernel) (by decide +kernel)) (goodIn_sub (fun _ h => List.mem_cons_of_mem _ (List.mem_append_left _ (List.mem_append_left _ (List.mem_append_right _ h)))) (by decide +kernel))) (goodIn_sub (fun _ h => List.mem_cons_of_mem _ (List.mem_append_left _ (List.mem_append_right _ h))) (by decide +kernel))) (goodIn_sub (fun _ h => List.mem_cons_of_mem _ (List.mem_append_right _ h)) (by decide +kernel))) (goodIn_sub (fun _ h => List.mem_cons_of_mem _ (List.mem_append_left _ (List.mem_append_left _ (List.mem_append_left _ (List.mem_append_right _ h))))) (by decide +kernel))
set_option maxRecDepth 20000 in
theorem gL_fold_X8_fold : GoodIn wsL_fold (wsV RL 17 RX8 yX8_fold wsX8_fold) := goodIn_app (goodIn_of _ (by decide +kernel)) ggL_fold_X8_fold
theorem dL_fold_0 : decode cL_fold 0 = .ok (.aload_n 3, 1) := by decide +kernel
theorem dL_fold_1 : decode cL_fold 1 = .ok (.iconst 0, 1) := by decide +kernel
theorem dL_fold_2 : decode cL_fold 2 = .ok (.aload_n 0, 1) := by decide +kernel
theorem dL_fold_3 : decode cL_fold 3 = .ok (.iload_n 1, 1) := by decide +kernel
theorem dL_fold_4 : decode cL_fold 4 = .ok (.iload_n 2, 1) := by decide +kernel
theorem dL_fold_5 : decode cL_fold 5 = .ok (.invokevirtual 17, 3) := by decide +kernel
theorem dL_fold_8 : decode cL_fold 8 = .ok (.i2l, 1) := by decide +kernel
theorem dL_fold_9 : decode cL_fold 9 = .ok (.lastore, 1) := by decide +kernel
theorem dL_fold_10 : decode cL_fold 10 = .ok (.goto 15, 3) := by decide +kernel
theorem dL_fold_13 : decode cL_fold 13 = .ok (.astore 4, 2) := by decide +kernel
theorem dL_fold_15 : decode cL_fold 15 = .ok (.iconst 1, 1) := by decide +kernel
theorem dL_fold_16 : decode cL_fold 16 = .ok (.ireturn, 1) := by decide +kernel
theorem dL_fold_17 : decode cL_fold 17 = .ok (.astore 4, 2) := by decide +kernel
theorem dL_fold_19 : decode cL_fold 19 = .ok (.iconst 2, 1) := by decide +kernel
theorem dL_fold_20 : decode cL_fold 20 = .ok (.ireturn, 1) := by decide +kernel
theorem dL_fold_21 : decode cL_fold 21 = .ok (.astore 4, 2) := by decide +kernel
theorem dL_fold_23 : decode cL_fold 23 = .ok (.iconst 3, 1) := by decide +kernel
theorem dL_fold_24 : decode cL_fold 24 = .ok (.ireturn, 1) := by decide +kernel
theorem dL_fold_25 : decode cL_fold 25 = .ok (.iconst 0, 1) := by decide +kernel
theorem dL_fold_26 : decode cL_fold 26 = .ok (.ireturn, 1) := by decide +kernel
set_option maxRecDepth 20000 in
theorem ggL_unfold_X8_unfold : GoodIn wsL_unfold wsX8_unfold := goodIn_ca (goodIn_ca (goodIn_ca (goodIn_ca (goodIn_r _ [7, 8, 9, 10, 11, 6, 12, 13, 14, 15, 16, 17, 18, 19, 20, 21, 22, 23, 24, 25, 26, 27, 28, 29, 30, 31, 32, 33, 34, 35, 36, 37, 38, 39, 40, 41, 42, 43, 44, 45, 46, 47, 48, 49, 50, 51, 52, 53, 54, 55, 56, 57, 58, 59, 60, 61, 62, 63, 64, 65, 66, 67, 68, 69, 70, 71, 72, 73, 74, 75, 76, 77, 78, 79, 80, 81, 82, 83, 84, 85, 86, 87, 88, 89, 90, 91, 92, 93, 94, 95, 96, 97, 98, 99, 100, 101, 102, 103, 104, 105, 106, 107, 108, 109, 110, 111, 112, 113, 114, 115, 116, 117, 118, 119, 120, 121, 122, 123, 124, 125, 126, 127, 128, 129, 130, 131, 132, 133, 134, 135, 136, 137, 138, 139, 140, 141, 142, 143, 144, 145, 146, 147, 148, 149, 150, 151, 152, 153, 154, 155, 156, 157, 158, 159, 160, 161, 162, 163, 164, 165, 166, 167, 168, 169, 170, 171, 172, 173, 174, 175, 176, 177, 178, 179, 180, 181, 182, 183, 184, 185, 186, 187, 188, 189, 190, 191, 192, 193, 194, 195, 196, 197, 198, 199, 200, 201, 202, 203, 204, 205, 206, 207, 208, 209, 210, 211, 212, 213, 214, 215, 216, 217, 218, 219, 220, 221, 222, 223, 224, 225, 226, 227, 228, 229, 230, 231, 232, 233, 234, 235, 236, 237, 238, 239, 240, 241, 242, 243, 244, 245, 246, 247, 248, 249, 250, 251, 252, 253, 254, 255, 256, 257, 258, 259, 260, 261, 262, 263, 264, 265, 266, 267, 268, 269, 270, 271, 272, 273, 274, 275, 276, 277, 278, 279, 280, 281, 282, 283, 284, 285, 286, 287, 288, 289, 290, 291, 292, 293, 294, 295, 296, 297, 298, 299, 300, 301, 302, 303, 304, 305, 306, 307, 308, 309] (by decide +kernel) (by decide +kernel)) (goodIn_sub (fun _ h => List.mem_cons_of_mem _ (List.mem_append_left _ (List.mem_append_left _ (List.mem_append_right _ h)))) (by decide +kernel))) (goodIn_sub (fun _ h => List.mem_cons_of_mem _ (List.mem_append_left _ (List.mem_append_right _ h))) (by decide +kernel))) (goodIn_sub (fun _ h => List.mem_cons_of_mem _ (List.mem_append_right _ h)) (by decide +kernel))) (goodIn_sub (fun _ h => List.mem_cons_of_mem _ (List.mem_append_left _ (List.mem_append_left _ (List.mem_append_left _ (List.mem_append_right _ h))))) (by decide +kernel))
set_option maxRecDepth 20000 in
theorem gL_unfold_X8_unfold : GoodIn wsL_unfold (wsV RL 23 RX8 yX8_unfold wsX8_unfold) := goodIn_app (goodIn_of _ (by decide +kernel)) ggL_unfold_X8_unfold
theorem dL_unfold_0 : decode cL_unfold 0 = .ok (.aload_n 2, 1) := by decide +kernel
theorem dL_unfold_1 : decode cL_unfold 1 = .ok (.iconst 0, 1) := by decide +kernel
theorem dL_unfold_2 : decode cL_unfold 2 = .ok (.aload_n 0, 1) := by decide +kernel
theorem dL_unfold_3 : decode cL_unfold 3 = .ok (.iload_n 1, 1) := by decide +kernel
theorem dL_unfold_4 : decode cL_unfold 4 = .ok (.invokevirtual 23, 3) := by decide +kernel
theorem dL_unfold_7 : decode cL_unfold 7 = .ok (.i2l, 1) := by decide +kernel
theorem dL_unfold_8 : decode cL_unfold 8 = .ok (.lastore, 1) := by decide +kernel
theorem dL_unfold_9 : decode cL_unfold 9 = .ok (.goto 9, 3) := by decide +kernel
theorem dL_unfold_12 : decode cL_unfold 12 = .ok (.astore_n 3, 1) := by decide +kernel
theorem dL_unfold_13 : decode cL_unfold 13 = .ok (.iconst 1, 1) := by decide +kernel
theorem dL_unfold_14 : decode cL_unfold 14 = .ok (.ireturn, 1) := by decide +kernel
theorem dL_unfold_15 : decode cL_unfold 15 = .ok (.astore_n 3, 1) := by decide +kernel
theorem dL_unfold_16 : decode cL_unfold 16 = .ok (.iconst 2, 1) := by decide +kernel
theorem dL_unfold_17 : decode cL_unfold 17 = .ok (.ireturn, 1) := by decide +kernel
theorem dL_unfold_18 : decode cL_unfold 18 = .ok (.iconst 0, 1) := by decide +kernel
theorem dL_unfold_19 : decode cL_unfold 19 = .ok (.ireturn, 1) := by decide +kernel
set_option maxRecDepth 20000 in
theorem ggL_lay_X8_lay : GoodIn wsL_lay wsX8_lay := goodIn_ca (goodIn_ca (goodIn_ca (goodIn_ca (goodIn_r _ [7, 8, 9, 10, 11, 6, 12, 13, 14, 15, 16, 17, 18, 19, 20, 21, 22, 23, 24, 25, 26, 27, 28, 29, 30, 31, 32, 33, 34, 35, 36, 37, 38, 39, 40, 41, 42, 43, 44, 45, 46, 47, 48, 49, 50, 51, 52, 53, 54, 55, 56, 57, 58, 59, 60, 61, 62, 63, 64, 65, 66, 67, 68, 69, 70, 71, 72, 73, 74, 75, 76, 77, 78, 79, 80, 81, 82, 83, 84, 85, 86, 87, 88, 89, 90, 91, 92, 93, 94, 95, 96, 97, 98, 99, 100, 101, 102, 103, 104, 105, 106, 107, 108, 109, 110, 111, 112, 113, 114, 115, 116, 117, 118, 119, 120, 121, 122, 123, 124, 125, 126, 127, 128, 129, 130, 131, 132, 133, 134, 135, 136, 137, 138, 139, 140, 141, 142, 143, 144, 145, 146, 147, 148, 149, 150, 151, 152, 153, 154, 155, 156, 157, 158, 159, 160, 161, 162, 163, 164, 165, 166, 167, 168, 169, 170, 171, 172, 173, 174, 175, 176, 177, 178, 179, 180, 181, 182, 183, 184, 185, 186, 187, 188, 189, 190, 191, 192, 193, 194, 195, 196, 197, 198, 199, 200, 201, 202, 203, 204, 205, 206, 207, 208, 209, 210, 211, 212, 213, 214, 215, 216, 217, 218, 219, 220, 221, 222, 223, 224, 225, 226, 227, 228, 229, 230, 231, 232, 233, 234, 235, 236, 237, 238, 239, 240, 241, 242, 243, 244, 245, 246, 247, 248, 249, 250, 251, 252, 253, 254, 255, 256, 257, 258, 259, 260, 261, 262, 263, 264, 265, 266, 267, 268, 269, 270, 271, 272, 273, 274, 275, 276, 277, 278, 279, 280, 281, 282, 283, 284, 285, 286, 287, 288, 289, 290, 291, 292, 293, 294, 295, 296, 297, 298, 299, 300, 301, 302, 303, 304, 305, 306, 307, 308, 309] (by decide +kernel) (by decide +kernel)) (goodIn_sub (fun _ h => List.mem_cons_of_mem _ (List.mem_append_left _ (List.mem_append_left _ (List.mem_append_right _ h)))) (by decide +kernel))) (goodIn_sub (fun _ h => List.mem_cons_of_mem _ (List.mem_append_left _ (List.mem_append_right _ h))) (by decide +kernel))) (goodIn_sub (fun _ h => List.mem_cons_of_mem _ (List.mem_append_right _ h)) (by decide +kernel))) (goodIn_sub (fun _ h => List.mem_cons_of_mem _ (List.mem_append_left _ (List.mem_append_left _ (List.mem_append_left _ (List.mem_append_right _ h))))) (by decide +kernel))
set_option maxRecDepth 20000 in
theorem gL_lay_X8_lay : GoodIn wsL_lay (wsV RL 26 RX8 yX8_lay wsX8_lay) := goodIn_app (goodIn_of _ (by decide +kernel)) ggL_lay_X8_lay
theorem dL_lay_0 : decode cL_lay 0 = .ok (.aload_n 3, 1) := by decide +kernel
theorem dL_lay_1 : decode cL_lay 1 = .ok (.iconst 0, 1) := by decide +kernel
theorem dL_lay_2 : decode cL_lay 2 = .ok (.aload_n 0, 1) := by decide +kernel
theorem dL_lay_3 : decode cL_lay 3 = .ok (.iload_n 1, 1) := by decide +kernel
theorem dL_lay_4 : decode cL_lay 4 = .ok (.iload_n 2, 1) := by decide +kernel
theorem dL_lay_5 : decode cL_lay 5 = .ok (.invokevirtual 26, 3) := by decide +kernel
theorem dL_lay_8 : decode cL_lay 8 = .ok (.i2l, 1) := by decide +kernel
theorem dL_lay_9 : decode cL_lay 9 = .ok (.lastore, 1) := by decide +kernel
theorem dL_lay_10 : decode cL_lay 10 = .ok (.goto 11, 3) := by decide +kernel
theorem dL_lay_13 : decode cL_lay 13 = .ok (.astore 4, 2) := by decide +kernel
theorem dL_lay_15 : decode cL_lay 15 = .ok (.iconst 1, 1) := by decide +kernel
theorem dL_lay_16 : decode cL_lay 16 = .ok (.ireturn, 1) := by decide +kernel
theorem dL_lay_17 : decode cL_lay 17 = .ok (.astore 4, 2) := by decide +kernel
theorem dL_lay_19 : decode cL_lay 19 = .ok (.iconst 2, 1) := by decide +kernel
theorem dL_lay_20 : decode cL_lay 20 = .ok (.ireturn, 1) := by decide +kernel
theorem dL_lay_21 : decode cL_lay 21 = .ok (.iconst 0, 1) := by decide +kernel
theorem dL_lay_22 : decode cL_lay 22 = .ok (.ireturn, 1) := by decide +kernel
set_option maxRecDepth 20000 in
theorem ggL_take_X8_take : GoodIn wsL_take wsX8_take := goodIn_ca (goodIn_ca (goodIn_ca (goodIn_ca (goodIn_r _ [7, 8, 9, 10, 11, 6, 12, 13, 14, 15, 16, 17, 18, 19, 20, 21, 22, 23, 24, 25, 26, 27, 28, 29, 30, 31, 32, 33, 34, 35, 36, 37, 38, 39, 40, 41, 42, 43, 44, 45, 46, 47, 48, 49, 50, 51, 52, 53, 54, 55, 56, 57, 58, 59, 60, 61, 62, 63, 64, 65, 66, 67, 68, 69, 70, 71, 72, 73, 74, 75, 76, 77, 78, 79, 80, 81, 82, 83, 84, 85, 86, 87, 88, 89, 90, 91, 92, 93, 94, 95, 96, 97, 98, 99, 100, 101, 102, 103, 104, 105, 106, 107, 108, 109, 110, 111, 112, 113, 114, 115, 116, 117, 118, 119, 120, 121, 122, 123, 124, 125, 126, 127, 128, 129, 130, 131, 132, 133, 134, 135, 136, 137, 138, 139, 140, 141, 142, 143, 144, 145, 146, 147, 148, 149, 150, 151, 152, 153, 154, 155, 156, 157, 158, 159, 160, 161, 162, 163, 164, 165, 166, 167, 168, 169, 170, 171, 172, 173, 174, 175, 176, 177, 178, 179, 180, 181, 182, 183, 184, 185, 186, 187, 188, 189, 190, 191, 192, 193, 194, 195, 196, 197, 198, 199, 200, 201, 202, 203, 204, 205, 206, 207, 208, 209, 210, 211, 212, 213, 214, 215, 216, 217, 218, 219, 220, 221, 222, 223, 224, 225, 226, 227, 228, 229, 230, 231, 232, 233, 234, 235, 236, 237, 238, 239, 240, 241, 242, 243, 244, 245, 246, 247, 248, 249, 250, 251, 252, 253, 254, 255, 256, 257, 258, 259, 260, 261, 262, 263, 264, 265, 266, 267, 268, 269, 270, 271, 272, 273, 274, 275, 276, 277, 278, 279, 280, 281, 282, 283, 284, 285, 286, 287, 288, 289, 290, 291, 292, 293, 294, 295, 296, 297, 298, 299, 300, 301, 302, 303, 304, 305, 306, 307, 308, 309] (by decide +kernel) (by decide +kernel)) (goodIn_sub (fun _ h => List.mem_cons_of_mem _ (List.mem_append_left _ (List.mem_append_left _ (List.mem_append_right _ h)))) (by decide +kernel))) (goodIn_sub (fun _ h => List.mem_cons_of_mem _ (List.mem_append_left _ (List.mem_append_right _ h))) (by decide +kernel))) (goodIn_sub (fun _ h => List.mem_cons_of_mem _ (List.mem_append_right _ h)) (by decide +kernel))) (goodIn_sub (fun _ h => List.mem_cons_of_mem _ (List.mem_append_left _ (List.mem_append_left _ (List.mem_append_left _ (List.mem_append_right _ h))))) (by decide +kernel))
set_option maxRecDepth 20000 in
theorem gL_take_X8_take : GoodIn wsL_take (wsV RL 29 RX8 yX8_take wsX8_take) := goodIn_app (goodIn_of _ (by decide +kernel)) ggL_take_X8_take
theorem dL_take_0 : decode cL_take 0 = .ok (.aload_n 2, 1) := by decide +kernel
theorem dL_take_1 : decode cL_take 1 = .ok (.iconst 0, 1) := by decide +kernel
theorem dL_take_2 : decode cL_take 2 = .ok (.aload_n 0, 1) := by decide +kernel
theorem dL_take_3 : decode cL_take 3 = .ok (.iload_n 1, 1) := by decide +kernel
theorem dL_take_4 : decode cL_take 4 = .ok (.invokevirtual 29, 3) := by decide +kernel
theorem dL_take_7 : decode cL_take 7 = .ok (.i2l, 1) := by decide +kernel
theorem dL_take_8 : decode cL_take 8 = .ok (.lastore, 1) := by decide +kernel
theorem dL_take_9 : decode cL_take 9 = .ok (.goto 9, 3) := by decide +kernel
theorem dL_take_12 : decode cL_take 12 = .ok (.astore_n 3, 1) := by decide +kernel
theorem dL_take_13 : decode cL_take 13 = .ok (.iconst 1, 1) := by decide +kernel
theorem dL_take_14 : decode cL_take 14 = .ok (.ireturn, 1) := by decide +kernel
theorem dL_take_15 : decode cL_take 15 = .ok (.astore_n 3, 1) := by decide +kernel
theorem dL_take_16 : decode cL_take 16 = .ok (.iconst 2, 1) := by decide +kernel
theorem dL_take_17 : decode cL_take 17 = .ok (.ireturn, 1) := by decide +kernel
theorem dL_take_18 : decode cL_take 18 = .ok (.iconst 0, 1) := by decide +kernel
theorem dL_take_19 : decode cL_take 19 = .ok (.ireturn, 1) := by decide +kernel
set_option maxRecDepth 20000 in
theorem ggL_move_X8_move : GoodIn wsL_move wsX8_move := goodIn_ca (goodIn_ca (goodIn_ca (goodIn_ca (goodIn_r _ [7, 8, 9, 10, 11, 6, 12, 13, 14, 15, 16, 17, 18, 19, 20, 21, 22, 23, 24, 25, 26, 27, 28, 29, 30, 31, 32, 33, 34, 35, 36, 37, 38, 39, 40, 41, 42, 43, 44, 45, 46, 47, 48, 49, 50, 51, 52, 53, 54, 55, 56, 57, 58, 59, 60, 61, 62, 63, 64, 65, 66, 67, 68, 69, 70, 71, 72, 73, 74, 75, 76, 77, 78, 79, 80, 81, 82, 83, 84, 85, 86, 87, 88, 89, 90, 91, 92, 93, 94, 95, 96, 97, 98, 99, 100, 101, 102, 103, 104, 105, 106, 107, 108, 109, 110, 111, 112, 113, 114, 115, 116, 117, 118, 119, 120, 121, 122, 123, 124, 125, 126, 127, 128, 129, 130, 131, 132, 133, 134, 135, 136, 137, 138, 139, 140, 141, 142, 143, 144, 145, 146, 147, 148, 149, 150, 151, 152, 153, 154, 155, 156, 157, 158, 159, 160, 161, 162, 163, 164, 165, 166, 167, 168, 169, 170, 171, 172, 173, 174, 175, 176, 177, 178, 179, 180, 181, 182, 183, 184, 185, 186, 187, 188, 189, 190, 191, 192, 193, 194, 195, 196, 197, 198, 199, 200, 201, 202, 203, 204, 205, 206, 207, 208, 209, 210, 211, 212, 213, 214, 215, 216, 217, 218, 219, 220, 221, 222, 223, 224, 225, 226, 227, 228, 229, 230, 231, 232, 233, 234, 235, 236, 237, 238, 239, 240, 241, 242, 243, 244, 245, 246, 247, 248, 249, 250, 251, 252, 253, 254, 255, 256, 257, 258, 259, 260, 261, 262, 263, 264, 265, 266, 267, 268, 269, 270, 271, 272, 273, 274, 275, 276, 277, 278, 279, 280, 281, 282, 283, 284, 285, 286, 287, 288, 289, 290, 291, 292, 293, 294, 295, 296, 297, 298, 299, 300, 301, 302, 303, 304, 305, 306, 307, 308, 309] (by decide +kernel) (by decide +kernel)) (goodIn_sub (fun _ h => List.mem_cons_of_mem _ (List.mem_append_left _ (List.mem_append_left _ (List.mem_append_right _ h)))) (by decide +kernel))) (goodIn_sub (fun _ h => List.mem_cons_of_mem _ (List.mem_append_left _ (List.mem_append_right _ h))) (by decide +kernel))) (goodIn_sub (fun _ h => List.mem_cons_of_mem _ (List.mem_append_right _ h)) (by decide +kernel))) (goodIn_sub (fun _ h => List.mem_cons_of_mem _ (List.mem_append_left _ (List.mem_append_left _ (List.mem_append_left _ (List.mem_append_right _ h))))) (by decide +kernel))
set_option maxRecDepth 20000 in
theorem gL_move_X8_move : GoodIn wsL_move (wsV RL 32 RX8 yX8_move wsX8_move) := goodIn_app (goodIn_of _ (by decide +kernel)) ggL_move_X8_move
theorem dL_move_0 : decode cL_move 0 = .ok (.aload 4, 2) := by decide +kernel
theorem dL_move_2 : decode cL_move 2 = .ok (.iconst 0, 1) := by decide +kernel
