set_option maxRecDepth 100000 in
theorem gL_sound_X7_piece : GoodIn wsL_sound (wsV RL 15 RX7 yX7_piece wsX7_piece) := goodIn_app (goodIn_of _ (by decide +kernel)) ggL_sound_X7_piece
set_option maxRecDepth 100000 in
theorem ggL_sound_X7_edge : GoodIn wsL_sound wsX7_edge := goodIn_r _ [202, 7, 6, 133, 134, 135, 24, 136, 26, 10, 11, 12, 13, 14, 15, 16, 17, 18, 19, 20, 21, 22, 23, 25, 27, 28, 29, 30, 31, 32, 4, 33, 34, 35, 36, 37, 38, 39, 40, 41, 42, 43, 44, 45, 46, 47, 48, 49, 50, 51, 52, 53, 54, 55, 56, 57, 58, 59, 60, 61, 62, 63, 203, 204, 205, 206, 105, 66, 67, 68, 101, 102, 103, 104, 110, 70, 71, 72, 207, 208, 209, 210, 225, 226, 227, 228, 229, 230, 231, 232, 237, 238, 239, 240, 241, 242, 233, 234, 235, 236] rfl (by decide +kernel)
set_option maxRecDepth 100000 in
theorem gL_sound_X7_edge : GoodIn wsL_sound (wsV RL 19 RX7 yX7_edge wsX7_edge) := goodIn_app (goodIn_of _ (by decide +kernel)) ggL_sound_X7_edge
set_option maxRecDepth 100000 in
theorem ggL_sound_X7_hides_h : GoodIn wsL_sound [.code yX7_hides cX7_hides 3 (some .int)] := goodIn_r _ [214] rfl (by decide +kernel)
set_option maxRecDepth 100000 in
theorem ggL_sound_X7_hides_r1 : GoodIn wsL_sound wsX7_hides_r1 := goodIn_r _ [7, 6, 133, 134, 135, 24, 136, 26, 10, 11, 12, 13, 14, 15, 16, 17, 18, 19, 20, 21, 22, 23, 25, 27] rfl (by decide +kernel)
set_option maxRecDepth 100000 in
theorem ggL_sound_X7_hides_r2 : GoodIn wsL_sound wsX7_hides_r2 := goodIn_r _ [28, 29, 30, 31, 32, 4, 33, 34, 35, 36, 37, 38, 39, 40, 41, 42, 43, 44, 45, 46, 47, 48, 49, 50] rfl (by decide +kernel)
set_option maxRecDepth 100000 in
theorem ggL_sound_X7_hides_r3 : GoodIn wsL_sound wsX7_hides_r3 := goodIn_r _ [51, 52, 53, 54, 55, 56, 57, 58, 59, 60, 61, 62, 63, 215, 216, 217, 218, 110, 70, 71, 72, 101, 102, 103] rfl (by decide +kernel)
set_option maxRecDepth 100000 in
theorem ggL_sound_X7_hides_r4 : GoodIn wsL_sound wsX7_hides_r4 := goodIn_r _ [104, 105, 66, 67, 68, 219, 188, 189, 190, 191, 192, 193] rfl (by decide +kernel)
set_option maxRecDepth 100000 in
theorem ggL_sound_X7_hides_X70 : GoodIn wsL_sound wsX70 := goodIn_r _ [225, 226, 227, 228, 229, 230, 231, 232] rfl (by decide +kernel)
set_option maxRecDepth 100000 in
theorem ggL_sound_X7_hides_X10 : GoodIn wsL_sound wsX10 := goodIn_r _ [237, 238, 239, 240, 241, 242] rfl (by decide +kernel)
set_option maxRecDepth 100000 in
theorem ggL_sound_X7_hides_X50 : GoodIn wsL_sound wsX50 := goodIn_r _ [233, 234, 235, 236] rfl (by decide +kernel)
set_option maxRecDepth 100000 in
theorem ggL_sound_X7_hides : GoodIn wsL_sound wsX7_hides := goodIn_app ggL_sound_X7_hides_h (goodIn_app (goodIn_app (goodIn_app (goodIn_app ggL_sound_X7_hides_r1 (goodIn_app ggL_sound_X7_hides_r2 (goodIn_app ggL_sound_X7_hides_r3 ggL_sound_X7_hides_r4))) ggL_sound_X7_hides_X70) ggL_sound_X7_hides_X10) ggL_sound_X7_hides_X50)
set_option maxRecDepth 100000 in
theorem gL_sound_X7_hides : GoodIn wsL_sound (wsV RL 22 RX7 yX7_hides wsX7_hides) := goodIn_app (goodIn_of _ (by decide +kernel)) ggL_sound_X7_hides
set_option maxRecDepth 100000 in
theorem ggL_sound_X7_inLayer : GoodIn wsL_sound wsX7_inLayer := goodIn_r _ [223, 7, 133, 134, 135, 24, 136, 26, 224, 28, 29, 30, 31, 32, 4, 33, 225, 226, 227, 228, 229, 230, 231, 232, 237, 238, 239, 240, 241, 242] rfl (by decide +kernel)
set_option maxRecDepth 100000 in
theorem gL_sound_X7_inLayer : GoodIn wsL_sound (wsV RL 25 RX7 yX7_inLayer wsX7_inLayer) := goodIn_app (goodIn_of _ (by decide +kernel)) ggL_sound_X7_inLayer
theorem dL_sound_0 : decode cL_sound 0 = .ok (.aload_n 0, 1) := by decide +kernel
theorem dL_sound_1 : decode cL_sound 1 = .ok (.iconst 0, 1) := by decide +kernel
theorem dL_sound_2 : decode cL_sound 2 = .ok (.invokevirtual 9, 3) := by decide +kernel
theorem dL_sound_5 : decode cL_sound 5 = .ok (.istore_n 1, 1) := by decide +kernel
theorem dL_sound_6 : decode cL_sound 6 = .ok (.aload_n 0, 1) := by decide +kernel
theorem dL_sound_7 : decode cL_sound 7 = .ok (.iconst 1, 1) := by decide +kernel
theorem dL_sound_8 : decode cL_sound 8 = .ok (.invokevirtual 9, 3) := by decide +kernel
theorem dL_sound_11 : decode cL_sound 11 = .ok (.istore_n 2, 1) := by decide +kernel
theorem dL_sound_12 : decode cL_sound 12 = .ok (.aload_n 0, 1) := by decide +kernel
theorem dL_sound_13 : decode cL_sound 13 = .ok (.iconst 2, 1) := by decide +kernel
theorem dL_sound_14 : decode cL_sound 14 = .ok (.invokevirtual 9, 3) := by decide +kernel
theorem dL_sound_17 : decode cL_sound 17 = .ok (.istore_n 3, 1) := by decide +kernel
theorem dL_sound_18 : decode cL_sound 18 = .ok (.aload_n 0, 1) := by decide +kernel
theorem dL_sound_19 : decode cL_sound 19 = .ok (.bipush 6, 2) := by decide +kernel
theorem dL_sound_21 : decode cL_sound 21 = .ok (.invokevirtual 9, 3) := by decide +kernel
theorem dL_sound_24 : decode cL_sound 24 = .ok (.istore 4, 2) := by decide +kernel
theorem dL_sound_26 : decode cL_sound 26 = .ok (.iconst 0, 1) := by decide +kernel
theorem dL_sound_27 : decode cL_sound 27 = .ok (.istore 5, 2) := by decide +kernel
theorem dL_sound_29 : decode cL_sound 29 = .ok (.iconst 0, 1) := by decide +kernel
theorem dL_sound_30 : decode cL_sound 30 = .ok (.istore 6, 2) := by decide +kernel
theorem dL_sound_32 : decode cL_sound 32 = .ok (.iconst 0, 1) := by decide +kernel
theorem dL_sound_33 : decode cL_sound 33 = .ok (.istore 7, 2) := by decide +kernel
theorem dL_sound_35 : decode cL_sound 35 = .ok (.iconst 0, 1) := by decide +kernel
theorem dL_sound_36 : decode cL_sound 36 = .ok (.istore 8, 2) := by decide +kernel
theorem dL_sound_38 : decode cL_sound 38 = .ok (.iconst 0, 1) := by decide +kernel
theorem dL_sound_39 : decode cL_sound 39 = .ok (.istore 9, 2) := by decide +kernel
theorem dL_sound_41 : decode cL_sound 41 = .ok (.iload 9, 2) := by decide +kernel
theorem dL_sound_43 : decode cL_sound 43 = .ok (.iload_n 1, 1) := by decide +kernel
theorem dL_sound_44 : decode cL_sound 44 = .ok (.if_icmp .ge 579, 3) := by decide +kernel
theorem dL_sound_47 : decode cL_sound 47 = .ok (.aload_n 0, 1) := by decide +kernel
theorem dL_sound_48 : decode cL_sound 48 = .ok (.iload 9, 2) := by decide +kernel
theorem dL_sound_50 : decode cL_sound 50 = .ok (.bipush 7, 2) := by decide +kernel
theorem dL_sound_52 : decode cL_sound 52 = .ok (.invokevirtual 15, 3) := by decide +kernel
theorem dL_sound_55 : decode cL_sound 55 = .ok (.istore 10, 2) := by decide +kernel
theorem dL_sound_57 : decode cL_sound 57 = .ok (.aload_n 0, 1) := by decide +kernel
theorem dL_sound_58 : decode cL_sound 58 = .ok (.iload 9, 2) := by decide +kernel
theorem dL_sound_60 : decode cL_sound 60 = .ok (.iconst 2, 1) := by decide +kernel
theorem dL_sound_61 : decode cL_sound 61 = .ok (.invokevirtual 15, 3) := by decide +kernel
theorem dL_sound_64 : decode cL_sound 64 = .ok (.aload_n 0, 1) := by decide +kernel
theorem dL_sound_65 : decode cL_sound 65 = .ok (.iload 9, 2) := by decide +kernel
theorem dL_sound_67 : decode cL_sound 67 = .ok (.iconst 3, 1) := by decide +kernel
theorem dL_sound_68 : decode cL_sound 68 = .ok (.invokevirtual 15, 3) := by decide +kernel
theorem dL_sound_71 : decode cL_sound 71 = .ok (.imul, 1) := by decide +kernel
theorem dL_sound_72 : decode cL_sound 72 = .ok (.istore 11, 2) := by decide +kernel
theorem dL_sound_74 : decode cL_sound 74 = .ok (.aload_n 0, 1) := by decide +kernel
theorem dL_sound_75 : decode cL_sound 75 = .ok (.iload 9, 2) := by decide +kernel
theorem dL_sound_77 : decode cL_sound 77 = .ok (.bipush 9, 2) := by decide +kernel
theorem dL_sound_79 : decode cL_sound 79 = .ok (.invokevirtual 15, 3) := by decide +kernel
theorem dL_sound_82 : decode cL_sound 82 = .ok (.istore 12, 2) := by decide +kernel
theorem dL_sound_84 : decode cL_sound 84 = .ok (.aload_n 0, 1) := by decide +kernel
theorem dL_sound_85 : decode cL_sound 85 = .ok (.iload 9, 2) := by decide +kernel
theorem dL_sound_87 : decode cL_sound 87 = .ok (.bipush 10, 2) := by decide +kernel
theorem dL_sound_89 : decode cL_sound 89 = .ok (.invokevirtual 15, 3) := by decide +kernel
theorem dL_sound_92 : decode cL_sound 92 = .ok (.istore 13, 2) := by decide +kernel
theorem dL_sound_94 : decode cL_sound 94 = .ok (.iconst 0, 1) := by decide +kernel
theorem dL_sound_95 : decode cL_sound 95 = .ok (.istore 14, 2) := by decide +kernel
theorem dL_sound_97 : decode cL_sound 97 = .ok (.aload_n 0, 1) := by decide +kernel
theorem dL_sound_98 : decode cL_sound 98 = .ok (.iload 9, 2) := by decide +kernel
theorem dL_sound_100 : decode cL_sound 100 = .ok (.iconst (-1), 1) := by decide +kernel
theorem dL_sound_101 : decode cL_sound 101 = .ok (.invokevirtual 19, 3) := by decide +kernel
theorem dL_sound_104 : decode cL_sound 104 = .ok (.aload_n 0, 1) := by decide +kernel
theorem dL_sound_105 : decode cL_sound 105 = .ok (.iload 9, 2) := by decide +kernel
theorem dL_sound_107 : decode cL_sound 107 = .ok (.bipush (-2), 2) := by decide +kernel
theorem dL_sound_109 : decode cL_sound 109 = .ok (.invokevirtual 19, 3) := by decide +kernel
theorem dL_sound_112 : decode cL_sound 112 = .ok (.iadd, 1) := by decide +kernel
theorem dL_sound_113 : decode cL_sound 113 = .ok (.istore 15, 2) := by decide +kernel
theorem dL_sound_115 : decode cL_sound 115 = .ok (.iconst 0, 1) := by decide +kernel
theorem dL_sound_116 : decode cL_sound 116 = .ok (.istore 16, 2) := by decide +kernel
theorem dL_sound_118 : decode cL_sound 118 = .ok (.iload 16, 2) := by decide +kernel
theorem dL_sound_120 : decode cL_sound 120 = .ok (.iload_n 1, 1) := by decide +kernel
theorem dL_sound_121 : decode cL_sound 121 = .ok (.if_icmp .ge 115, 3) := by decide +kernel
theorem dL_sound_124 : decode cL_sound 124 = .ok (.iload 14, 2) := by decide +kernel
theorem dL_sound_126 : decode cL_sound 126 = .ok (.iload 16, 2) := by decide +kernel
theorem dL_sound_128 : decode cL_sound 128 = .ok (.iload 9, 2) := by decide +kernel
theorem dL_sound_130 : decode cL_sound 130 = .ok (.if_icmp .ne 7, 3) := by decide +kernel
theorem dL_sound_133 : decode cL_sound 133 = .ok (.iconst 0, 1) := by decide +kernel
theorem dL_sound_134 : decode cL_sound 134 = .ok (.goto 11, 3) := by decide +kernel
theorem dL_sound_137 : decode cL_sound 137 = .ok (.aload_n 0, 1) := by decide +kernel
theorem dL_sound_138 : decode cL_sound 138 = .ok (.iload 16, 2) := by decide +kernel
theorem dL_sound_140 : decode cL_sound 140 = .ok (.iload 9, 2) := by decide +kernel
theorem dL_sound_142 : decode cL_sound 142 = .ok (.invokevirtual 22, 3) := by decide +kernel
theorem dL_sound_145 : decode cL_sound 145 = .ok (.iadd, 1) := by decide +kernel
theorem dL_sound_146 : decode cL_sound 146 = .ok (.istore 14, 2) := by decide +kernel
theorem dL_sound_148 : decode cL_sound 148 = .ok (.iload 15, 2) := by decide +kernel
theorem dL_sound_150 : decode cL_sound 150 = .ok (.iload 16, 2) := by decide +kernel
theorem dL_sound_152 : decode cL_sound 152 = .ok (.iload 9, 2) := by decide +kernel
theorem dL_sound_154 : decode cL_sound 154 = .ok (.if_icmp .ne 7, 3) := by decide +kernel
theorem dL_sound_157 : decode cL_sound 157 = .ok (.iconst 0, 1) := by decide +kernel
theorem dL_sound_158 : decode cL_sound 158 = .ok (.goto 11, 3) := by decide +kernel
theorem dL_sound_161 : decode cL_sound 161 = .ok (.aload_n 0, 1) := by decide +kernel
theorem dL_sound_162 : decode cL_sound 162 = .ok (.iload 9, 2) := by decide +kernel
theorem dL_sound_164 : decode cL_sound 164 = .ok (.iload 16, 2) := by decide +kernel
theorem dL_sound_166 : decode cL_sound 166 = .ok (.invokevirtual 19, 3) := by decide +kernel
theorem dL_sound_169 : decode cL_sound 169 = .ok (.iadd, 1) := by decide +kernel
theorem dL_sound_170 : decode cL_sound 170 = .ok (.istore 15, 2) := by decide +kernel
theorem dL_sound_172 : decode cL_sound 172 = .ok (.iload 16, 2) := by decide +kernel
theorem dL_sound_174 : decode cL_sound 174 = .ok (.iload 9, 2) := by decide +kernel
theorem dL_sound_176 : decode cL_sound 176 = .ok (.if_icmp .eq 54, 3) := by decide +kernel
theorem dL_sound_179 : decode cL_sound 179 = .ok (.aload_n 0, 1) := by decide +kernel
theorem dL_sound_180 : decode cL_sound 180 = .ok (.iload 9, 2) := by decide +kernel
theorem dL_sound_182 : decode cL_sound 182 = .ok (.iload 16, 2) := by decide +kernel
theorem dL_sound_184 : decode cL_sound 184 = .ok (.invokevirtual 19, 3) := by decide +kernel
theorem dL_sound_187 : decode cL_sound 187 = .ok (.aload_n 0, 1) := by decide +kernel
theorem dL_sound_188 : decode cL_sound 188 = .ok (.iload 16, 2) := by decide +kernel
theorem dL_sound_190 : decode cL_sound 190 = .ok (.iload 9, 2) := by decide +kernel
theorem dL_sound_192 : decode cL_sound 192 = .ok (.invokevirtual 19, 3) := by decide +kernel
theorem dL_sound_195 : decode cL_sound 195 = .ok (.if_icmp .ne 33, 3) := by decide +kernel
theorem dL_sound_198 : decode cL_sound 198 = .ok (.aload_n 0, 1) := by decide +kernel
theorem dL_sound_199 : decode cL_sound 199 = .ok (.iload 16, 2) := by decide +kernel
theorem dL_sound_201 : decode cL_sound 201 = .ok (.iload 9, 2) := by decide +kernel
theorem dL_sound_203 : decode cL_sound 203 = .ok (.invokevirtual 22, 3) := by decide +kernel
theorem dL_sound_206 : decode cL_sound 206 = .ok (.ifCond .le 24, 3) := by decide +kernel
theorem dL_sound_209 : decode cL_sound 209 = .ok (.aload_n 0, 1) := by decide +kernel
theorem dL_sound_210 : decode cL_sound 210 = .ok (.iload 16, 2) := by decide +kernel
theorem dL_sound_212 : decode cL_sound 212 = .ok (.bipush 6, 2) := by decide +kernel
theorem dL_sound_214 : decode cL_sound 214 = .ok (.invokevirtual 15, 3) := by decide +kernel
theorem dL_sound_217 : decode cL_sound 217 = .ok (.aload_n 0, 1) := by decide +kernel
theorem dL_sound_218 : decode cL_sound 218 = .ok (.iload 9, 2) := by decide +kernel
theorem dL_sound_220 : decode cL_sound 220 = .ok (.bipush 6, 2) := by decide +kernel
theorem dL_sound_222 : decode cL_sound 222 = .ok (.invokevirtual 15, 3) := by decide +kernel
theorem dL_sound_225 : decode cL_sound 225 = .ok (.if_icmp .ge 5, 3) := by decide +kernel
theorem dL_sound_228 : decode cL_sound 228 = .ok (.iconst 0, 1) := by decide +kernel
theorem dL_sound_229 : decode cL_sound 229 = .ok (.ireturn, 1) := by decide +kernel
theorem dL_sound_230 : decode cL_sound 230 = .ok (.iinc 16 1, 3) := by decide +kernel
theorem dL_sound_233 : decode cL_sound 233 = .ok (.goto (-115), 3) := by decide +kernel
theorem dL_sound_236 : decode cL_sound 236 = .ok (.iload 4, 2) := by decide +kernel
theorem dL_sound_238 : decode cL_sound 238 = .ok (.iload 10, 2) := by decide +kernel
theorem dL_sound_240 : decode cL_sound 240 = .ok (.iadd, 1) := by decide +kernel
theorem dL_sound_241 : decode cL_sound 241 = .ok (.istore 4, 2) := by decide +kernel
theorem dL_sound_243 : decode cL_sound 243 = .ok (.iload 5, 2) := by decide +kernel
theorem dL_sound_245 : decode cL_sound 245 = .ok (.aload_n 0, 1) := by decide +kernel
theorem dL_sound_246 : decode cL_sound 246 = .ok (.iload 9, 2) := by decide +kernel
theorem dL_sound_248 : decode cL_sound 248 = .ok (.bipush 8, 2) := by decide +kernel
theorem dL_sound_250 : decode cL_sound 250 = .ok (.invokevirtual 15, 3) := by decide +kernel
theorem dL_sound_253 : decode cL_sound 253 = .ok (.iadd, 1) := by decide +kernel
theorem dL_sound_254 : decode cL_sound 254 = .ok (.istore 5, 2) := by decide +kernel
theorem dL_sound_256 : decode cL_sound 256 = .ok (.iload 6, 2) := by decide +kernel
theorem dL_sound_258 : decode cL_sound 258 = .ok (.iload 10, 2) := by decide +kernel
theorem dL_sound_260 : decode cL_sound 260 = .ok (.ifCond .ne 7, 3) := by decide +kernel
theorem dL_sound_263 : decode cL_sound 263 = .ok (.iconst 1, 1) := by decide +kernel
theorem dL_sound_264 : decode cL_sound 264 = .ok (.goto 4, 3) := by decide +kernel
theorem dL_sound_267 : decode cL_sound 267 = .ok (.iconst 0, 1) := by decide +kernel
theorem dL_sound_268 : decode cL_sound 268 = .ok (.iadd, 1) := by decide +kernel
theorem dL_sound_269 : decode cL_sound 269 = .ok (.istore 6, 2) := by decide +kernel
theorem dL_sound_271 : decode cL_sound 271 = .ok (.iload 7, 2) := by decide +kernel
theorem dL_sound_273 : decode cL_sound 273 = .ok (.aload_n 0, 1) := by decide +kernel
theorem dL_sound_274 : decode cL_sound 274 = .ok (.iload 9, 2) := by decide +kernel
theorem dL_sound_276 : decode cL_sound 276 = .ok (.iconst 5, 1) := by decide +kernel
theorem dL_sound_277 : decode cL_sound 277 = .ok (.invokevirtual 15, 3) := by decide +kernel
theorem dL_sound_280 : decode cL_sound 280 = .ok (.ifCond .le 18, 3) := by decide +kernel
theorem dL_sound_283 : decode cL_sound 283 = .ok (.aload_n 0, 1) := by decide +kernel
theorem dL_sound_284 : decode cL_sound 284 = .ok (.iload 9, 2) := by decide +kernel
theorem dL_sound_286 : decode cL_sound 286 = .ok (.bipush 11, 2) := by decide +kernel
theorem dL_sound_288 : decode cL_sound 288 = .ok (.invokevirtual 15, 3) := by decide +kernel
theorem dL_sound_291 : decode cL_sound 291 = .ok (.ifCond .ne 7, 3) := by decide +kernel
theorem dL_sound_294 : decode cL_sound 294 = .ok (.iconst 1, 1) := by decide +kernel
theorem dL_sound_295 : decode cL_sound 295 = .ok (.goto 4, 3) := by decide +kernel
theorem dL_sound_298 : decode cL_sound 298 = .ok (.iconst 0, 1) := by decide +kernel
theorem dL_sound_299 : decode cL_sound 299 = .ok (.iadd, 1) := by decide +kernel
theorem dL_sound_300 : decode cL_sound 300 = .ok (.istore 7, 2) := by decide +kernel
theorem dL_sound_302 : decode cL_sound 302 = .ok (.iload 10, 2) := by decide +kernel
theorem dL_sound_304 : decode cL_sound 304 = .ok (.iload 14, 2) := by decide +kernel
theorem dL_sound_306 : decode cL_sound 306 = .ok (.iadd, 1) := by decide +kernel
theorem dL_sound_307 : decode cL_sound 307 = .ok (.aload_n 0, 1) := by decide +kernel
theorem dL_sound_308 : decode cL_sound 308 = .ok (.iload 9, 2) := by decide +kernel
theorem dL_sound_310 : decode cL_sound 310 = .ok (.bipush 12, 2) := by decide +kernel
theorem dL_sound_312 : decode cL_sound 312 = .ok (.invokevirtual 15, 3) := by decide +kernel
theorem dL_sound_315 : decode cL_sound 315 = .ok (.iadd, 1) := by decide +kernel
theorem dL_sound_316 : decode cL_sound 316 = .ok (.iload 11, 2) := by decide +kernel
theorem dL_sound_318 : decode cL_sound 318 = .ok (.if_icmp .ne 137, 3) := by decide +kernel
theorem dL_sound_321 : decode cL_sound 321 = .ok (.iconst 4, 1) := by decide +kernel
theorem dL_sound_322 : decode cL_sound 322 = .ok (.iload 10, 2) := by decide +kernel
theorem dL_sound_324 : decode cL_sound 324 = .ok (.imul, 1) := by decide +kernel
theorem dL_sound_325 : decode cL_sound 325 = .ok (.iload 15, 2) := by decide +kernel
theorem dL_sound_327 : decode cL_sound 327 = .ok (.isub, 1) := by decide +kernel
theorem dL_sound_328 : decode cL_sound 328 = .ok (.iconst 2, 1) := by decide +kernel
theorem dL_sound_329 : decode cL_sound 329 = .ok (.irem, 1) := by decide +kernel
theorem dL_sound_330 : decode cL_sound 330 = .ok (.ifCond .ne 125, 3) := by decide +kernel
theorem dL_sound_333 : decode cL_sound 333 = .ok (.iconst 4, 1) := by decide +kernel
theorem dL_sound_334 : decode cL_sound 334 = .ok (.iload 10, 2) := by decide +kernel
theorem dL_sound_336 : decode cL_sound 336 = .ok (.imul, 1) := by decide +kernel
theorem dL_sound_337 : decode cL_sound 337 = .ok (.iload 15, 2) := by decide +kernel
theorem dL_sound_339 : decode cL_sound 339 = .ok (.if_icmp .lt 116, 3) := by decide +kernel
theorem dL_sound_342 : decode cL_sound 342 = .ok (.aload_n 0, 1) := by decide +kernel
theorem dL_sound_343 : decode cL_sound 343 = .ok (.iload 9, 2) := by decide +kernel
theorem dL_sound_345 : decode cL_sound 345 = .ok (.bipush 8, 2) := by decide +kernel
theorem dL_sound_347 : decode cL_sound 347 = .ok (.invokevirtual 15, 3) := by decide +kernel
theorem dL_sound_350 : decode cL_sound 350 = .ok (.iconst 1, 1) := by decide +kernel
theorem dL_sound_351 : decode cL_sound 351 = .ok (.if_icmp .ne 7, 3) := by decide +kernel
theorem dL_sound_354 : decode cL_sound 354 = .ok (.iconst 1, 1) := by decide +kernel
theorem dL_sound_355 : decode cL_sound 355 = .ok (.goto 4, 3) := by decide +kernel
theorem dL_sound_358 : decode cL_sound 358 = .ok (.iconst 0, 1) := by decide +kernel
theorem dL_sound_359 : decode cL_sound 359 = .ok (.bipush 100, 2) := by decide +kernel
theorem dL_sound_361 : decode cL_sound 361 = .ok (.iload 10, 2) := by decide +kernel
theorem dL_sound_363 : decode cL_sound 363 = .ok (.imul, 1) := by decide +kernel
theorem dL_sound_364 : decode cL_sound 364 = .ok (.aload_n 0, 1) := by decide +kernel
theorem dL_sound_365 : decode cL_sound 365 = .ok (.iload 9, 2) := by decide +kernel
theorem dL_sound_367 : decode cL_sound 367 = .ok (.iconst 4, 1) := by decide +kernel
theorem dL_sound_368 : decode cL_sound 368 = .ok (.invokevirtual 15, 3) := by decide +kernel
theorem dL_sound_371 : decode cL_sound 371 = .ok (.iload 11, 2) := by decide +kernel
theorem dL_sound_373 : decode cL_sound 373 = .ok (.imul, 1) := by decide +kernel
theorem dL_sound_374 : decode cL_sound 374 = .ok (.if_icmp .lt 7, 3) := by decide +kernel
theorem dL_sound_377 : decode cL_sound 377 = .ok (.iconst 1, 1) := by decide +kernel
theorem dL_sound_378 : decode cL_sound 378 = .ok (.goto 4, 3) := by decide +kernel
theorem dL_sound_381 : decode cL_sound 381 = .ok (.iconst 0, 1) := by decide +kernel
theorem dL_sound_382 : decode cL_sound 382 = .ok (.if_icmp .ne 73, 3) := by decide +kernel
theorem dL_sound_385 : decode cL_sound 385 = .ok (.iload 12, 2) := by decide +kernel
theorem dL_sound_387 : decode cL_sound 387 = .ok (.ifCond .ne 7, 3) := by decide +kernel
theorem dL_sound_390 : decode cL_sound 390 = .ok (.iconst 1, 1) := by decide +kernel
theorem dL_sound_391 : decode cL_sound 391 = .ok (.goto 4, 3) := by decide +kernel
theorem dL_sound_394 : decode cL_sound 394 = .ok (.iconst 0, 1) := by decide +kernel
theorem dL_sound_395 : decode cL_sound 395 = .ok (.iload 10, 2) := by decide +kernel
theorem dL_sound_397 : decode cL_sound 397 = .ok (.ifCond .ne 7, 3) := by decide +kernel
theorem dL_sound_400 : decode cL_sound 400 = .ok (.iconst 1, 1) := by decide +kernel
theorem dL_sound_401 : decode cL_sound 401 = .ok (.goto 4, 3) := by decide +kernel
theorem dL_sound_404 : decode cL_sound 404 = .ok (.iconst 0, 1) := by decide +kernel
theorem dL_sound_405 : decode cL_sound 405 = .ok (.if_icmp .ne 50, 3) := by decide +kernel
theorem dL_sound_408 : decode cL_sound 408 = .ok (.iload 13, 2) := by decide +kernel
theorem dL_sound_410 : decode cL_sound 410 = .ok (.ifCond .ne 7, 3) := by decide +kernel
theorem dL_sound_413 : decode cL_sound 413 = .ok (.iconst 1, 1) := by decide +kernel
theorem dL_sound_414 : decode cL_sound 414 = .ok (.goto 4, 3) := by decide +kernel
theorem dL_sound_417 : decode cL_sound 417 = .ok (.iconst 0, 1) := by decide +kernel
theorem dL_sound_418 : decode cL_sound 418 = .ok (.iload 12, 2) := by decide +kernel
theorem dL_sound_420 : decode cL_sound 420 = .ok (.ifCond .ne 7, 3) := by decide +kernel
theorem dL_sound_423 : decode cL_sound 423 = .ok (.iconst 1, 1) := by decide +kernel
theorem dL_sound_424 : decode cL_sound 424 = .ok (.goto 4, 3) := by decide +kernel
theorem dL_sound_427 : decode cL_sound 427 = .ok (.iconst 0, 1) := by decide +kernel
theorem dL_sound_428 : decode cL_sound 428 = .ok (.if_icmp .ne 27, 3) := by decide +kernel
theorem dL_sound_431 : decode cL_sound 431 = .ok (.iload 13, 2) := by decide +kernel
theorem dL_sound_433 : decode cL_sound 433 = .ok (.iload 10, 2) := by decide +kernel
theorem dL_sound_435 : decode cL_sound 435 = .ok (.if_icmp .gt 20, 3) := by decide +kernel
theorem dL_sound_438 : decode cL_sound 438 = .ok (.iload 13, 2) := by decide +kernel
theorem dL_sound_440 : decode cL_sound 440 = .ok (.iload 12, 2) := by decide +kernel
theorem dL_sound_442 : decode cL_sound 442 = .ok (.imul, 1) := by decide +kernel
theorem dL_sound_443 : decode cL_sound 443 = .ok (.iload 10, 2) := by decide +kernel
theorem dL_sound_445 : decode cL_sound 445 = .ok (.if_icmp .lt 10, 3) := by decide +kernel
theorem dL_sound_448 : decode cL_sound 448 = .ok (.iload 12, 2) := by decide +kernel
theorem dL_sound_450 : decode cL_sound 450 = .ok (.iload 10, 2) := by decide +kernel
theorem dL_sound_452 : decode cL_sound 452 = .ok (.if_icmp .le 5, 3) := by decide +kernel
theorem dL_sound_455 : decode cL_sound 455 = .ok (.iconst 0, 1) := by decide +kernel
theorem dL_sound_456 : decode cL_sound 456 = .ok (.ireturn, 1) := by decide +kernel
theorem dL_sound_457 : decode cL_sound 457 = .ok (.aload_n 0, 1) := by decide +kernel
theorem dL_sound_458 : decode cL_sound 458 = .ok (.iload 9, 2) := by decide +kernel
theorem dL_sound_460 : decode cL_sound 460 = .ok (.bipush 6, 2) := by decide +kernel
theorem dL_sound_462 : decode cL_sound 462 = .ok (.invokevirtual 15, 3) := by decide +kernel
theorem dL_sound_465 : decode cL_sound 465 = .ok (.istore 16, 2) := by decide +kernel
theorem dL_sound_467 : decode cL_sound 467 = .ok (.iload 16, 2) := by decide +kernel
theorem dL_sound_469 : decode cL_sound 469 = .ok (.ifCond .lt 137, 3) := by decide +kernel
theorem dL_sound_472 : decode cL_sound 472 = .ok (.iload 16, 2) := by decide +kernel
theorem dL_sound_474 : decode cL_sound 474 = .ok (.iload_n 1, 1) := by decide +kernel
theorem dL_sound_475 : decode cL_sound 475 = .ok (.if_icmp .ge 131, 3) := by decide +kernel
theorem dL_sound_478 : decode cL_sound 478 = .ok (.iload 8, 2) := by decide +kernel
theorem dL_sound_480 : decode cL_sound 480 = .ok (.iload 16, 2) := by decide +kernel
theorem dL_sound_482 : decode cL_sound 482 = .ok (.ishr, 1) := by decide +kernel
theorem dL_sound_483 : decode cL_sound 483 = .ok (.iconst 1, 1) := by decide +kernel
theorem dL_sound_484 : decode cL_sound 484 = .ok (.iand, 1) := by decide +kernel
theorem dL_sound_485 : decode cL_sound 485 = .ok (.iconst 1, 1) := by decide +kernel
theorem dL_sound_486 : decode cL_sound 486 = .ok (.if_icmp .eq 120, 3) := by decide +kernel
theorem dL_sound_489 : decode cL_sound 489 = .ok (.aload_n 0, 1) := by decide +kernel
theorem dL_sound_490 : decode cL_sound 490 = .ok (.iload 16, 2) := by decide +kernel
theorem dL_sound_492 : decode cL_sound 492 = .ok (.invokevirtual 25, 3) := by decide +kernel
theorem dL_sound_495 : decode cL_sound 495 = .ok (.iload 9, 2) := by decide +kernel
theorem dL_sound_497 : decode cL_sound 497 = .ok (.if_icmp .ne 109, 3) := by decide +kernel
theorem dL_sound_500 : decode cL_sound 500 = .ok (.iload 16, 2) := by decide +kernel
theorem dL_sound_502 : decode cL_sound 502 = .ok (.iload_n 1, 1) := by decide +kernel
theorem dL_sound_503 : decode cL_sound 503 = .ok (.iconst 1, 1) := by decide +kernel
theorem dL_sound_504 : decode cL_sound 504 = .ok (.isub, 1) := by decide +kernel
theorem dL_sound_505 : decode cL_sound 505 = .ok (.if_icmp .ne 24, 3) := by decide +kernel
theorem dL_sound_508 : decode cL_sound 508 = .ok (.iload 14, 2) := by decide +kernel
theorem dL_sound_510 : decode cL_sound 510 = .ok (.ifCond .ne 96, 3) := by decide +kernel
theorem dL_sound_513 : decode cL_sound 513 = .ok (.iload 10, 2) := by decide +kernel
theorem dL_sound_515 : decode cL_sound 515 = .ok (.iload 11, 2) := by decide +kernel
theorem dL_sound_517 : decode cL_sound 517 = .ok (.aload_n 0, 1) := by decide +kernel
theorem dL_sound_518 : decode cL_sound 518 = .ok (.iload 9, 2) := by decide +kernel
theorem dL_sound_520 : decode cL_sound 520 = .ok (.bipush 12, 2) := by decide +kernel
theorem dL_sound_522 : decode cL_sound 522 = .ok (.invokevirtual 15, 3) := by decide +kernel
theorem dL_sound_525 : decode cL_sound 525 = .ok (.isub, 1) := by decide +kernel
theorem dL_sound_526 : decode cL_sound 526 = .ok (.if_icmp .ne 80, 3) := by decide +kernel
theorem dL_sound_529 : decode cL_sound 529 = .ok (.aload_n 0, 1) := by decide +kernel
theorem dL_sound_530 : decode cL_sound 530 = .ok (.iload 9, 2) := by decide +kernel
theorem dL_sound_532 : decode cL_sound 532 = .ok (.iconst 5, 1) := by decide +kernel
theorem dL_sound_533 : decode cL_sound 533 = .ok (.invokevirtual 15, 3) := by decide +kernel
theorem dL_sound_536 : decode cL_sound 536 = .ok (.ifCond .ne 14, 3) := by decide +kernel
theorem dL_sound_539 : decode cL_sound 539 = .ok (.aload_n 0, 1) := by decide +kernel
theorem dL_sound_540 : decode cL_sound 540 = .ok (.iload 9, 2) := by decide +kernel
theorem dL_sound_542 : decode cL_sound 542 = .ok (.bipush 11, 2) := by decide +kernel
theorem dL_sound_544 : decode cL_sound 544 = .ok (.invokevirtual 15, 3) := by decide +kernel
theorem dL_sound_547 : decode cL_sound 547 = .ok (.ifCond .ne 59, 3) := by decide +kernel
theorem dL_sound_550 : decode cL_sound 550 = .ok (.aload_n 0, 1) := by decide +kernel
theorem dL_sound_551 : decode cL_sound 551 = .ok (.iload 9, 2) := by decide +kernel
theorem dL_sound_553 : decode cL_sound 553 = .ok (.iconst 5, 1) := by decide +kernel
theorem dL_sound_554 : decode cL_sound 554 = .ok (.invokevirtual 15, 3) := by decide +kernel
theorem dL_sound_557 : decode cL_sound 557 = .ok (.ifCond .le 21, 3) := by decide +kernel
theorem dL_sound_560 : decode cL_sound 560 = .ok (.iload 10, 2) := by decide +kernel
theorem dL_sound_562 : decode cL_sound 562 = .ok (.iload 11, 2) := by decide +kernel
theorem dL_sound_564 : decode cL_sound 564 = .ok (.if_icmp .ne 14, 3) := by decide +kernel
theorem dL_sound_567 : decode cL_sound 567 = .ok (.aload_n 0, 1) := by decide +kernel
theorem dL_sound_568 : decode cL_sound 568 = .ok (.iload 9, 2) := by decide +kernel
theorem dL_sound_570 : decode cL_sound 570 = .ok (.bipush 11, 2) := by decide +kernel
theorem dL_sound_572 : decode cL_sound 572 = .ok (.invokevirtual 15, 3) := by decide +kernel
theorem dL_sound_575 : decode cL_sound 575 = .ok (.ifCond .ne 31, 3) := by decide +kernel
theorem dL_sound_578 : decode cL_sound 578 = .ok (.aload_n 0, 1) := by decide +kernel
theorem dL_sound_579 : decode cL_sound 579 = .ok (.iload 9, 2) := by decide +kernel
theorem dL_sound_581 : decode cL_sound 581 = .ok (.iconst 5, 1) := by decide +kernel
theorem dL_sound_582 : decode cL_sound 582 = .ok (.invokevirtual 15, 3) := by decide +kernel
theorem dL_sound_585 : decode cL_sound 585 = .ok (.ifCond .le 23, 3) := by decide +kernel
theorem dL_sound_588 : decode cL_sound 588 = .ok (.iload 10, 2) := by decide +kernel
theorem dL_sound_590 : decode cL_sound 590 = .ok (.ifCond .ne 18, 3) := by decide +kernel
theorem dL_sound_593 : decode cL_sound 593 = .ok (.aload_n 0, 1) := by decide +kernel
theorem dL_sound_594 : decode cL_sound 594 = .ok (.iload 9, 2) := by decide +kernel
theorem dL_sound_596 : decode cL_sound 596 = .ok (.bipush 11, 2) := by decide +kernel
theorem dL_sound_598 : decode cL_sound 598 = .ok (.invokevirtual 15, 3) := by decide +kernel
theorem dL_sound_601 : decode cL_sound 601 = .ok (.bipush 15, 2) := by decide +kernel
theorem dL_sound_603 : decode cL_sound 603 = .ok (.if_icmp .eq 5, 3) := by decide +kernel
theorem dL_sound_606 : decode cL_sound 606 = .ok (.iconst 0, 1) := by decide +kernel
theorem dL_sound_607 : decode cL_sound 607 = .ok (.ireturn, 1) := by decide +kernel
theorem dL_sound_608 : decode cL_sound 608 = .ok (.iload 8, 2) := by decide +kernel
theorem dL_sound_610 : decode cL_sound 610 = .ok (.iconst 1, 1) := by decide +kernel
theorem dL_sound_611 : decode cL_sound 611 = .ok (.iload 16, 2) := by decide +kernel
theorem dL_sound_613 : decode cL_sound 613 = .ok (.ishl, 1) := by decide +kernel
theorem dL_sound_614 : decode cL_sound 614 = .ok (.ior, 1) := by decide +kernel
theorem dL_sound_615 : decode cL_sound 615 = .ok (.istore 8, 2) := by decide +kernel
theorem dL_sound_617 : decode cL_sound 617 = .ok (.iinc 9 1, 3) := by decide +kernel
theorem dL_sound_620 : decode cL_sound 620 = .ok (.goto (-579), 3) := by decide +kernel
theorem dL_sound_623 : decode cL_sound 623 = .ok (.iload 4, 2) := by decide +kernel
theorem dL_sound_625 : decode cL_sound 625 = .ok (.iload_n 2, 1) := by decide +kernel
theorem dL_sound_626 : decode cL_sound 626 = .ok (.iload_n 3, 1) := by decide +kernel
theorem dL_sound_627 : decode cL_sound 627 = .ok (.imul, 1) := by decide +kernel
theorem dL_sound_628 : decode cL_sound 628 = .ok (.if_icmp .ne 58, 3) := by decide +kernel
theorem dL_sound_631 : decode cL_sound 631 = .ok (.aload_n 0, 1) := by decide +kernel
theorem dL_sound_632 : decode cL_sound 632 = .ok (.iconst 3, 1) := by decide +kernel
theorem dL_sound_633 : decode cL_sound 633 = .ok (.invokevirtual 9, 3) := by decide +kernel
theorem dL_sound_636 : decode cL_sound 636 = .ok (.iload 5, 2) := by decide +kernel
theorem dL_sound_638 : decode cL_sound 638 = .ok (.if_icmp .ne 48, 3) := by decide +kernel
theorem dL_sound_641 : decode cL_sound 641 = .ok (.aload_n 0, 1) := by decide +kernel
theorem dL_sound_642 : decode cL_sound 642 = .ok (.iconst 4, 1) := by decide +kernel
theorem dL_sound_643 : decode cL_sound 643 = .ok (.invokevirtual 9, 3) := by decide +kernel
theorem dL_sound_646 : decode cL_sound 646 = .ok (.iload 6, 2) := by decide +kernel
theorem dL_sound_648 : decode cL_sound 648 = .ok (.if_icmp .ne 38, 3) := by decide +kernel
theorem dL_sound_651 : decode cL_sound 651 = .ok (.aload_n 0, 1) := by decide +kernel
theorem dL_sound_652 : decode cL_sound 652 = .ok (.iconst 5, 1) := by decide +kernel
theorem dL_sound_653 : decode cL_sound 653 = .ok (.invokevirtual 9, 3) := by decide +kernel
theorem dL_sound_656 : decode cL_sound 656 = .ok (.iload 7, 2) := by decide +kernel
theorem dL_sound_658 : decode cL_sound 658 = .ok (.if_icmp .ne 28, 3) := by decide +kernel
theorem dL_sound_661 : decode cL_sound 661 = .ok (.aload_n 0, 1) := by decide +kernel
theorem dL_sound_662 : decode cL_sound 662 = .ok (.iload_n 1, 1) := by decide +kernel
theorem dL_sound_663 : decode cL_sound 663 = .ok (.invokevirtual 25, 3) := by decide +kernel
theorem dL_sound_666 : decode cL_sound 666 = .ok (.bipush (-101), 2) := by decide +kernel
theorem dL_sound_668 : decode cL_sound 668 = .ok (.if_icmp .ne 18, 3) := by decide +kernel
theorem dL_sound_671 : decode cL_sound 671 = .ok (.aload_n 0, 1) := by decide +kernel
theorem dL_sound_672 : decode cL_sound 672 = .ok (.iload_n 1, 1) := by decide +kernel
theorem dL_sound_673 : decode cL_sound 673 = .ok (.iconst 0, 1) := by decide +kernel
theorem dL_sound_674 : decode cL_sound 674 = .ok (.invokevirtual 15, 3) := by decide +kernel
theorem dL_sound_677 : decode cL_sound 677 = .ok (.bipush (-101), 2) := by decide +kernel
theorem dL_sound_679 : decode cL_sound 679 = .ok (.if_icmp .ne 7, 3) := by decide +kernel
theorem dL_sound_682 : decode cL_sound 682 = .ok (.iconst 1, 1) := by decide +kernel
theorem dL_sound_683 : decode cL_sound 683 = .ok (.goto 4, 3) := by decide +kernel
theorem dL_sound_686 : decode cL_sound 686 = .ok (.iconst 0, 1) := by decide +kernel
theorem dL_sound_687 : decode cL_sound 687 = .ok (.ireturn, 1) := by decide +kernel
