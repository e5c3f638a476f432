set_option maxRecDepth 100000 in
theorem ggL_refuses_X7_layerFor_r2 : GoodIn wsL_refuses wsX7_layerFor_r2 := goodIn_r _ [152, 31, 49, 54, 115, 335, 22, 23, 25, 366, 193, 194, 195, 196, 197, 198, 199, 32, 4, 33, 55, 56, 333, 11] rfl (by decide +kernel)
set_option maxRecDepth 100000 in
theorem ggL_refuses_X7_layerFor_r3 : GoodIn wsL_refuses wsX7_layerFor_r3 := goodIn_r _ [12, 13, 14, 15, 16, 17, 18, 19, 20, 21, 27, 28, 29, 30, 34, 35, 36, 37, 38, 39, 40, 41, 42, 43] rfl (by decide +kernel)
set_option maxRecDepth 100000 in
theorem ggL_refuses_X7_layerFor_r4 : GoodIn wsL_refuses wsX7_layerFor_r4 := goodIn_r _ [45, 46, 47, 48, 50, 51, 52, 53, 57, 58, 59, 60, 61, 62, 63, 345, 78, 79, 80] rfl (by decide +kernel)
set_option maxRecDepth 100000 in
theorem ggL_refuses_X7_layerFor_X70 : GoodIn wsL_refuses wsX70 := goodIn_r _ [380, 381, 382, 383, 384, 385, 386, 387] rfl (by decide +kernel)
set_option maxRecDepth 100000 in
theorem ggL_refuses_X7_layerFor_X10 : GoodIn wsL_refuses wsX10 := goodIn_r _ [392, 393, 394, 395, 396, 397] rfl (by decide +kernel)
set_option maxRecDepth 100000 in
theorem ggL_refuses_X7_layerFor_X30 : GoodIn wsL_refuses wsX30 := goodIn_r _ [408, 409, 410, 411, 412] rfl (by decide +kernel)
set_option maxRecDepth 100000 in
theorem ggL_refuses_X7_layerFor_X50 : GoodIn wsL_refuses wsX50 := goodIn_r _ [388, 389, 390, 391] rfl (by decide +kernel)
set_option maxRecDepth 100000 in
theorem ggL_refuses_X7_layerFor : GoodIn wsL_refuses wsX7_layerFor := goodIn_app ggL_refuses_X7_layerFor_h (goodIn_app (goodIn_app (goodIn_app (goodIn_app (goodIn_app ggL_refuses_X7_layerFor_r1 (goodIn_app ggL_refuses_X7_layerFor_r2 (goodIn_app ggL_refuses_X7_layerFor_r3 ggL_refuses_X7_layerFor_r4))) ggL_refuses_X7_layerFor_X70) ggL_refuses_X7_layerFor_X10) ggL_refuses_X7_layerFor_X30) ggL_refuses_X7_layerFor_X50)
set_option maxRecDepth 100000 in
theorem gL_refuses_X7_layerFor : GoodIn wsL_refuses (wsV RL 40 RX7 yX7_layerFor wsX7_layerFor) := goodIn_app (goodIn_of _ (by decide +kernel)) ggL_refuses_X7_layerFor
set_option maxRecDepth 100000 in
theorem ggL_refuses_X7_append : GoodIn wsL_refuses wsX7_append := goodIn_r _ [370, 9, 132, 133, 4, 134, 371, 372, 373, 125, 374, 127, 375, 376, 377, 378, 379, 55, 56, 122, 123, 124, 126, 380, 381, 382, 383, 384, 385, 386, 387, 401, 402] rfl (by decide +kernel)
set_option maxRecDepth 100000 in
theorem gL_refuses_X7_append : GoodIn wsL_refuses (wsV RL 79 RX7 yX7_append wsX7_append) := goodIn_app (goodIn_of _ (by decide +kernel)) ggL_refuses_X7_append
theorem dL_refuses_0 : decode cL_refuses 0 = .ok (.aload_n 0, 1) := by decide +kernel
theorem dL_refuses_1 : decode cL_refuses 1 = .ok (.iconst 0, 1) := by decide +kernel
theorem dL_refuses_2 : decode cL_refuses 2 = .ok (.invokevirtual 9, 3) := by decide +kernel
theorem dL_refuses_5 : decode cL_refuses 5 = .ok (.istore_n 1, 1) := by decide +kernel
theorem dL_refuses_6 : decode cL_refuses 6 = .ok (.aload_n 0, 1) := by decide +kernel
theorem dL_refuses_7 : decode cL_refuses 7 = .ok (.bipush 8, 2) := by decide +kernel
theorem dL_refuses_9 : decode cL_refuses 9 = .ok (.invokevirtual 9, 3) := by decide +kernel
theorem dL_refuses_12 : decode cL_refuses 12 = .ok (.istore_n 2, 1) := by decide +kernel
theorem dL_refuses_13 : decode cL_refuses 13 = .ok (.aload_n 0, 1) := by decide +kernel
theorem dL_refuses_14 : decode cL_refuses 14 = .ok (.bipush 7, 2) := by decide +kernel
theorem dL_refuses_16 : decode cL_refuses 16 = .ok (.invokevirtual 9, 3) := by decide +kernel
theorem dL_refuses_19 : decode cL_refuses 19 = .ok (.istore_n 3, 1) := by decide +kernel
theorem dL_refuses_20 : decode cL_refuses 20 = .ok (.aload_n 0, 1) := by decide +kernel
theorem dL_refuses_21 : decode cL_refuses 21 = .ok (.bipush 25, 2) := by decide +kernel
theorem dL_refuses_23 : decode cL_refuses 23 = .ok (.iconst 4, 1) := by decide +kernel
theorem dL_refuses_24 : decode cL_refuses 24 = .ok (.invokevirtual 63, 3) := by decide +kernel
theorem dL_refuses_27 : decode cL_refuses 27 = .ok (.bipush (-101), 2) := by decide +kernel
theorem dL_refuses_29 : decode cL_refuses 29 = .ok (.if_icmp .ne 156, 3) := by decide +kernel
theorem dL_refuses_32 : decode cL_refuses 32 = .ok (.aload_n 0, 1) := by decide +kernel
theorem dL_refuses_33 : decode cL_refuses 33 = .ok (.iconst 4, 1) := by decide +kernel
theorem dL_refuses_34 : decode cL_refuses 34 = .ok (.iconst 3, 1) := by decide +kernel
theorem dL_refuses_35 : decode cL_refuses 35 = .ok (.invokevirtual 63, 3) := by decide +kernel
theorem dL_refuses_38 : decode cL_refuses 38 = .ok (.bipush (-101), 2) := by decide +kernel
theorem dL_refuses_40 : decode cL_refuses 40 = .ok (.if_icmp .ne 145, 3) := by decide +kernel
theorem dL_refuses_43 : decode cL_refuses 43 = .ok (.aload_n 0, 1) := by decide +kernel
theorem dL_refuses_44 : decode cL_refuses 44 = .ok (.bipush (-21), 2) := by decide +kernel
theorem dL_refuses_46 : decode cL_refuses 46 = .ok (.iconst 0, 1) := by decide +kernel
theorem dL_refuses_47 : decode cL_refuses 47 = .ok (.iconst 1, 1) := by decide +kernel
theorem dL_refuses_48 : decode cL_refuses 48 = .ok (.iconst 1, 1) := by decide +kernel
theorem dL_refuses_49 : decode cL_refuses 49 = .ok (.iconst 0, 1) := by decide +kernel
theorem dL_refuses_50 : decode cL_refuses 50 = .ok (.invokevirtual 66, 3) := by decide +kernel
theorem dL_refuses_53 : decode cL_refuses 53 = .ok (.bipush (-101), 2) := by decide +kernel
theorem dL_refuses_55 : decode cL_refuses 55 = .ok (.if_icmp .ne 130, 3) := by decide +kernel
theorem dL_refuses_58 : decode cL_refuses 58 = .ok (.aload_n 0, 1) := by decide +kernel
theorem dL_refuses_59 : decode cL_refuses 59 = .ok (.iconst 0, 1) := by decide +kernel
theorem dL_refuses_60 : decode cL_refuses 60 = .ok (.bipush 41, 2) := by decide +kernel
theorem dL_refuses_62 : decode cL_refuses 62 = .ok (.iconst 1, 1) := by decide +kernel
theorem dL_refuses_63 : decode cL_refuses 63 = .ok (.iconst 1, 1) := by decide +kernel
theorem dL_refuses_64 : decode cL_refuses 64 = .ok (.iconst 0, 1) := by decide +kernel
theorem dL_refuses_65 : decode cL_refuses 65 = .ok (.invokevirtual 66, 3) := by decide +kernel
theorem dL_refuses_68 : decode cL_refuses 68 = .ok (.bipush (-101), 2) := by decide +kernel
theorem dL_refuses_70 : decode cL_refuses 70 = .ok (.if_icmp .ne 115, 3) := by decide +kernel
theorem dL_refuses_73 : decode cL_refuses 73 = .ok (.aload_n 0, 1) := by decide +kernel
theorem dL_refuses_74 : decode cL_refuses 74 = .ok (.iconst 0, 1) := by decide +kernel
theorem dL_refuses_75 : decode cL_refuses 75 = .ok (.iconst 0, 1) := by decide +kernel
theorem dL_refuses_76 : decode cL_refuses 76 = .ok (.iconst 1, 1) := by decide +kernel
theorem dL_refuses_77 : decode cL_refuses 77 = .ok (.bipush 13, 2) := by decide +kernel
theorem dL_refuses_79 : decode cL_refuses 79 = .ok (.iconst 0, 1) := by decide +kernel
theorem dL_refuses_80 : decode cL_refuses 80 = .ok (.invokevirtual 66, 3) := by decide +kernel
theorem dL_refuses_83 : decode cL_refuses 83 = .ok (.bipush (-101), 2) := by decide +kernel
theorem dL_refuses_85 : decode cL_refuses 85 = .ok (.if_icmp .ne 100, 3) := by decide +kernel
theorem dL_refuses_88 : decode cL_refuses 88 = .ok (.aload_n 0, 1) := by decide +kernel
theorem dL_refuses_89 : decode cL_refuses 89 = .ok (.iconst 0, 1) := by decide +kernel
theorem dL_refuses_90 : decode cL_refuses 90 = .ok (.iconst 0, 1) := by decide +kernel
theorem dL_refuses_91 : decode cL_refuses 91 = .ok (.iconst 1, 1) := by decide +kernel
theorem dL_refuses_92 : decode cL_refuses 92 = .ok (.iconst 1, 1) := by decide +kernel
theorem dL_refuses_93 : decode cL_refuses 93 = .ok (.iconst (-1), 1) := by decide +kernel
theorem dL_refuses_94 : decode cL_refuses 94 = .ok (.invokevirtual 66, 3) := by decide +kernel
theorem dL_refuses_97 : decode cL_refuses 97 = .ok (.bipush (-101), 2) := by decide +kernel
theorem dL_refuses_99 : decode cL_refuses 99 = .ok (.if_icmp .ne 86, 3) := by decide +kernel
theorem dL_refuses_102 : decode cL_refuses 102 = .ok (.aload_n 0, 1) := by decide +kernel
theorem dL_refuses_103 : decode cL_refuses 103 = .ok (.iload_n 1, 1) := by decide +kernel
theorem dL_refuses_104 : decode cL_refuses 104 = .ok (.invokevirtual 70, 3) := by decide +kernel
theorem dL_refuses_107 : decode cL_refuses 107 = .ok (.bipush (-101), 2) := by decide +kernel
theorem dL_refuses_109 : decode cL_refuses 109 = .ok (.if_icmp .ne 76, 3) := by decide +kernel
theorem dL_refuses_112 : decode cL_refuses 112 = .ok (.aload_n 0, 1) := by decide +kernel
theorem dL_refuses_113 : decode cL_refuses 113 = .ok (.iload_n 1, 1) := by decide +kernel
theorem dL_refuses_114 : decode cL_refuses 114 = .ok (.iconst 0, 1) := by decide +kernel
theorem dL_refuses_115 : decode cL_refuses 115 = .ok (.invokevirtual 73, 3) := by decide +kernel
theorem dL_refuses_118 : decode cL_refuses 118 = .ok (.bipush (-101), 2) := by decide +kernel
theorem dL_refuses_120 : decode cL_refuses 120 = .ok (.if_icmp .ne 65, 3) := by decide +kernel
theorem dL_refuses_123 : decode cL_refuses 123 = .ok (.aload_n 0, 1) := by decide +kernel
theorem dL_refuses_124 : decode cL_refuses 124 = .ok (.iconst (-1), 1) := by decide +kernel
theorem dL_refuses_125 : decode cL_refuses 125 = .ok (.iconst 0, 1) := by decide +kernel
theorem dL_refuses_126 : decode cL_refuses 126 = .ok (.invokevirtual 76, 3) := by decide +kernel
theorem dL_refuses_129 : decode cL_refuses 129 = .ok (.bipush (-101), 2) := by decide +kernel
theorem dL_refuses_131 : decode cL_refuses 131 = .ok (.if_icmp .ne 54, 3) := by decide +kernel
theorem dL_refuses_134 : decode cL_refuses 134 = .ok (.aload_n 0, 1) := by decide +kernel
theorem dL_refuses_135 : decode cL_refuses 135 = .ok (.iload_n 1, 1) := by decide +kernel
theorem dL_refuses_136 : decode cL_refuses 136 = .ok (.iconst 0, 1) := by decide +kernel
theorem dL_refuses_137 : decode cL_refuses 137 = .ok (.iconst 0, 1) := by decide +kernel
theorem dL_refuses_138 : decode cL_refuses 138 = .ok (.invokevirtual 46, 3) := by decide +kernel
theorem dL_refuses_141 : decode cL_refuses 141 = .ok (.bipush (-101), 2) := by decide +kernel
theorem dL_refuses_143 : decode cL_refuses 143 = .ok (.if_icmp .ne 42, 3) := by decide +kernel
theorem dL_refuses_146 : decode cL_refuses 146 = .ok (.aload_n 0, 1) := by decide +kernel
theorem dL_refuses_147 : decode cL_refuses 147 = .ok (.iconst 0, 1) := by decide +kernel
theorem dL_refuses_148 : decode cL_refuses 148 = .ok (.bipush 61, 2) := by decide +kernel
theorem dL_refuses_150 : decode cL_refuses 150 = .ok (.iconst 0, 1) := by decide +kernel
theorem dL_refuses_151 : decode cL_refuses 151 = .ok (.invokevirtual 46, 3) := by decide +kernel
theorem dL_refuses_154 : decode cL_refuses 154 = .ok (.bipush (-101), 2) := by decide +kernel
theorem dL_refuses_156 : decode cL_refuses 156 = .ok (.if_icmp .ne 29, 3) := by decide +kernel
theorem dL_refuses_159 : decode cL_refuses 159 = .ok (.aload_n 0, 1) := by decide +kernel
theorem dL_refuses_160 : decode cL_refuses 160 = .ok (.iconst 0, 1) := by decide +kernel
theorem dL_refuses_161 : decode cL_refuses 161 = .ok (.iload_n 1, 1) := by decide +kernel
theorem dL_refuses_162 : decode cL_refuses 162 = .ok (.invokevirtual 53, 3) := by decide +kernel
theorem dL_refuses_165 : decode cL_refuses 165 = .ok (.bipush (-101), 2) := by decide +kernel
theorem dL_refuses_167 : decode cL_refuses 167 = .ok (.if_icmp .ne 18, 3) := by decide +kernel
theorem dL_refuses_170 : decode cL_refuses 170 = .ok (.aload_n 0, 1) := by decide +kernel
theorem dL_refuses_171 : decode cL_refuses 171 = .ok (.iload_n 1, 1) := by decide +kernel
theorem dL_refuses_172 : decode cL_refuses 172 = .ok (.iconst 0, 1) := by decide +kernel
theorem dL_refuses_173 : decode cL_refuses 173 = .ok (.invokevirtual 53, 3) := by decide +kernel
theorem dL_refuses_176 : decode cL_refuses 176 = .ok (.bipush (-101), 2) := by decide +kernel
theorem dL_refuses_178 : decode cL_refuses 178 = .ok (.if_icmp .ne 7, 3) := by decide +kernel
theorem dL_refuses_181 : decode cL_refuses 181 = .ok (.iconst 1, 1) := by decide +kernel
theorem dL_refuses_182 : decode cL_refuses 182 = .ok (.goto 4, 3) := by decide +kernel
theorem dL_refuses_185 : decode cL_refuses 185 = .ok (.iconst 0, 1) := by decide +kernel
theorem dL_refuses_186 : decode cL_refuses 186 = .ok (.istore 4, 2) := by decide +kernel
theorem dL_refuses_188 : decode cL_refuses 188 = .ok (.iload 4, 2) := by decide +kernel
theorem dL_refuses_190 : decode cL_refuses 190 = .ok (.ifCond .eq 150, 3) := by decide +kernel
theorem dL_refuses_193 : decode cL_refuses 193 = .ok (.aload_n 0, 1) := by decide +kernel
theorem dL_refuses_194 : decode cL_refuses 194 = .ok (.iconst (-1), 1) := by decide +kernel
theorem dL_refuses_195 : decode cL_refuses 195 = .ok (.invokevirtual 9, 3) := by decide +kernel
theorem dL_refuses_198 : decode cL_refuses 198 = .ok (.bipush (-101), 2) := by decide +kernel
theorem dL_refuses_200 : decode cL_refuses 200 = .ok (.if_icmp .ne 140, 3) := by decide +kernel
theorem dL_refuses_203 : decode cL_refuses 203 = .ok (.aload_n 0, 1) := by decide +kernel
theorem dL_refuses_204 : decode cL_refuses 204 = .ok (.bipush 10, 2) := by decide +kernel
theorem dL_refuses_206 : decode cL_refuses 206 = .ok (.invokevirtual 9, 3) := by decide +kernel
theorem dL_refuses_209 : decode cL_refuses 209 = .ok (.bipush (-101), 2) := by decide +kernel
theorem dL_refuses_211 : decode cL_refuses 211 = .ok (.if_icmp .ne 129, 3) := by decide +kernel
theorem dL_refuses_214 : decode cL_refuses 214 = .ok (.aload_n 0, 1) := by decide +kernel
theorem dL_refuses_215 : decode cL_refuses 215 = .ok (.iload_n 1, 1) := by decide +kernel
theorem dL_refuses_216 : decode cL_refuses 216 = .ok (.iconst 0, 1) := by decide +kernel
theorem dL_refuses_217 : decode cL_refuses 217 = .ok (.invokevirtual 15, 3) := by decide +kernel
theorem dL_refuses_220 : decode cL_refuses 220 = .ok (.bipush (-101), 2) := by decide +kernel
theorem dL_refuses_222 : decode cL_refuses 222 = .ok (.if_icmp .ne 118, 3) := by decide +kernel
theorem dL_refuses_225 : decode cL_refuses 225 = .ok (.aload_n 0, 1) := by decide +kernel
theorem dL_refuses_226 : decode cL_refuses 226 = .ok (.iconst 0, 1) := by decide +kernel
theorem dL_refuses_227 : decode cL_refuses 227 = .ok (.bipush 13, 2) := by decide +kernel
theorem dL_refuses_229 : decode cL_refuses 229 = .ok (.invokevirtual 15, 3) := by decide +kernel
theorem dL_refuses_232 : decode cL_refuses 232 = .ok (.bipush (-101), 2) := by decide +kernel
theorem dL_refuses_234 : decode cL_refuses 234 = .ok (.if_icmp .ne 106, 3) := by decide +kernel
theorem dL_refuses_237 : decode cL_refuses 237 = .ok (.aload_n 0, 1) := by decide +kernel
theorem dL_refuses_238 : decode cL_refuses 238 = .ok (.iload_n 1, 1) := by decide +kernel
theorem dL_refuses_239 : decode cL_refuses 239 = .ok (.iconst (-1), 1) := by decide +kernel
theorem dL_refuses_240 : decode cL_refuses 240 = .ok (.invokevirtual 19, 3) := by decide +kernel
theorem dL_refuses_243 : decode cL_refuses 243 = .ok (.bipush (-101), 2) := by decide +kernel
theorem dL_refuses_245 : decode cL_refuses 245 = .ok (.if_icmp .ne 95, 3) := by decide +kernel
theorem dL_refuses_248 : decode cL_refuses 248 = .ok (.aload_n 0, 1) := by decide +kernel
theorem dL_refuses_249 : decode cL_refuses 249 = .ok (.iconst 0, 1) := by decide +kernel
theorem dL_refuses_250 : decode cL_refuses 250 = .ok (.iconst 0, 1) := by decide +kernel
theorem dL_refuses_251 : decode cL_refuses 251 = .ok (.invokevirtual 19, 3) := by decide +kernel
theorem dL_refuses_254 : decode cL_refuses 254 = .ok (.bipush (-101), 2) := by decide +kernel
theorem dL_refuses_256 : decode cL_refuses 256 = .ok (.if_icmp .ne 84, 3) := by decide +kernel
theorem dL_refuses_259 : decode cL_refuses 259 = .ok (.aload_n 0, 1) := by decide +kernel
theorem dL_refuses_260 : decode cL_refuses 260 = .ok (.iconst 0, 1) := by decide +kernel
theorem dL_refuses_261 : decode cL_refuses 261 = .ok (.iload_n 1, 1) := by decide +kernel
theorem dL_refuses_262 : decode cL_refuses 262 = .ok (.invokevirtual 19, 3) := by decide +kernel
theorem dL_refuses_265 : decode cL_refuses 265 = .ok (.bipush (-101), 2) := by decide +kernel
theorem dL_refuses_267 : decode cL_refuses 267 = .ok (.if_icmp .ne 73, 3) := by decide +kernel
theorem dL_refuses_270 : decode cL_refuses 270 = .ok (.aload_n 0, 1) := by decide +kernel
theorem dL_refuses_271 : decode cL_refuses 271 = .ok (.iconst 0, 1) := by decide +kernel
theorem dL_refuses_272 : decode cL_refuses 272 = .ok (.iconst 0, 1) := by decide +kernel
theorem dL_refuses_273 : decode cL_refuses 273 = .ok (.invokevirtual 22, 3) := by decide +kernel
theorem dL_refuses_276 : decode cL_refuses 276 = .ok (.bipush (-101), 2) := by decide +kernel
theorem dL_refuses_278 : decode cL_refuses 278 = .ok (.if_icmp .ne 62, 3) := by decide +kernel
theorem dL_refuses_281 : decode cL_refuses 281 = .ok (.aload_n 0, 1) := by decide +kernel
theorem dL_refuses_282 : decode cL_refuses 282 = .ok (.iload_n 1, 1) := by decide +kernel
theorem dL_refuses_283 : decode cL_refuses 283 = .ok (.iconst 0, 1) := by decide +kernel
theorem dL_refuses_284 : decode cL_refuses 284 = .ok (.invokevirtual 22, 3) := by decide +kernel
theorem dL_refuses_287 : decode cL_refuses 287 = .ok (.bipush (-101), 2) := by decide +kernel
theorem dL_refuses_289 : decode cL_refuses 289 = .ok (.if_icmp .ne 51, 3) := by decide +kernel
theorem dL_refuses_292 : decode cL_refuses 292 = .ok (.aload_n 0, 1) := by decide +kernel
theorem dL_refuses_293 : decode cL_refuses 293 = .ok (.iconst 0, 1) := by decide +kernel
theorem dL_refuses_294 : decode cL_refuses 294 = .ok (.iconst (-1), 1) := by decide +kernel
theorem dL_refuses_295 : decode cL_refuses 295 = .ok (.iconst 0, 1) := by decide +kernel
theorem dL_refuses_296 : decode cL_refuses 296 = .ok (.invokevirtual 43, 3) := by decide +kernel
theorem dL_refuses_299 : decode cL_refuses 299 = .ok (.bipush (-101), 2) := by decide +kernel
theorem dL_refuses_301 : decode cL_refuses 301 = .ok (.if_icmp .ne 39, 3) := by decide +kernel
theorem dL_refuses_304 : decode cL_refuses 304 = .ok (.aload_n 0, 1) := by decide +kernel
theorem dL_refuses_305 : decode cL_refuses 305 = .ok (.iload_n 1, 1) := by decide +kernel
theorem dL_refuses_306 : decode cL_refuses 306 = .ok (.iconst 0, 1) := by decide +kernel
theorem dL_refuses_307 : decode cL_refuses 307 = .ok (.iconst 0, 1) := by decide +kernel
theorem dL_refuses_308 : decode cL_refuses 308 = .ok (.invokevirtual 43, 3) := by decide +kernel
theorem dL_refuses_311 : decode cL_refuses 311 = .ok (.bipush (-101), 2) := by decide +kernel
theorem dL_refuses_313 : decode cL_refuses 313 = .ok (.if_icmp .ne 27, 3) := by decide +kernel
theorem dL_refuses_316 : decode cL_refuses 316 = .ok (.aload_n 0, 1) := by decide +kernel
theorem dL_refuses_317 : decode cL_refuses 317 = .ok (.iload_n 1, 1) := by decide +kernel
theorem dL_refuses_318 : decode cL_refuses 318 = .ok (.invokevirtual 40, 3) := by decide +kernel
theorem dL_refuses_321 : decode cL_refuses 321 = .ok (.bipush (-101), 2) := by decide +kernel
theorem dL_refuses_323 : decode cL_refuses 323 = .ok (.if_icmp .ne 17, 3) := by decide +kernel
theorem dL_refuses_326 : decode cL_refuses 326 = .ok (.aload_n 0, 1) := by decide +kernel
theorem dL_refuses_327 : decode cL_refuses 327 = .ok (.iconst 0, 1) := by decide +kernel
theorem dL_refuses_328 : decode cL_refuses 328 = .ok (.invokevirtual 79, 3) := by decide +kernel
theorem dL_refuses_331 : decode cL_refuses 331 = .ok (.bipush (-101), 2) := by decide +kernel
theorem dL_refuses_333 : decode cL_refuses 333 = .ok (.if_icmp .ne 7, 3) := by decide +kernel
theorem dL_refuses_336 : decode cL_refuses 336 = .ok (.iconst 1, 1) := by decide +kernel
theorem dL_refuses_337 : decode cL_refuses 337 = .ok (.goto 4, 3) := by decide +kernel
theorem dL_refuses_340 : decode cL_refuses 340 = .ok (.iconst 0, 1) := by decide +kernel
theorem dL_refuses_341 : decode cL_refuses 341 = .ok (.istore 4, 2) := by decide +kernel
theorem dL_refuses_343 : decode cL_refuses 343 = .ok (.iload 4, 2) := by decide +kernel
theorem dL_refuses_345 : decode cL_refuses 345 = .ok (.ifCond .eq 36, 3) := by decide +kernel
theorem dL_refuses_348 : decode cL_refuses 348 = .ok (.aload_n 0, 1) := by decide +kernel
theorem dL_refuses_349 : decode cL_refuses 349 = .ok (.bipush 8, 2) := by decide +kernel
theorem dL_refuses_351 : decode cL_refuses 351 = .ok (.invokevirtual 9, 3) := by decide +kernel
theorem dL_refuses_354 : decode cL_refuses 354 = .ok (.iload_n 2, 1) := by decide +kernel
theorem dL_refuses_355 : decode cL_refuses 355 = .ok (.if_icmp .ne 26, 3) := by decide +kernel
theorem dL_refuses_358 : decode cL_refuses 358 = .ok (.aload_n 0, 1) := by decide +kernel
theorem dL_refuses_359 : decode cL_refuses 359 = .ok (.bipush 7, 2) := by decide +kernel
theorem dL_refuses_361 : decode cL_refuses 361 = .ok (.invokevirtual 9, 3) := by decide +kernel
theorem dL_refuses_364 : decode cL_refuses 364 = .ok (.iload_n 3, 1) := by decide +kernel
theorem dL_refuses_365 : decode cL_refuses 365 = .ok (.if_icmp .ne 16, 3) := by decide +kernel
theorem dL_refuses_368 : decode cL_refuses 368 = .ok (.aload_n 0, 1) := by decide +kernel
theorem dL_refuses_369 : decode cL_refuses 369 = .ok (.iconst 0, 1) := by decide +kernel
theorem dL_refuses_370 : decode cL_refuses 370 = .ok (.invokevirtual 9, 3) := by decide +kernel
theorem dL_refuses_373 : decode cL_refuses 373 = .ok (.iload_n 1, 1) := by decide +kernel
theorem dL_refuses_374 : decode cL_refuses 374 = .ok (.if_icmp .ne 7, 3) := by decide +kernel
theorem dL_refuses_377 : decode cL_refuses 377 = .ok (.iconst 1, 1) := by decide +kernel
theorem dL_refuses_378 : decode cL_refuses 378 = .ok (.goto 4, 3) := by decide +kernel
theorem dL_refuses_381 : decode cL_refuses 381 = .ok (.iconst 0, 1) := by decide +kernel
theorem dL_refuses_382 : decode cL_refuses 382 = .ok (.ireturn, 1) := by decide +kernel
abbrev vwCl : List vw_C := [(RX0, TX0, 3), (RX1, TX1, 6), (RX2, TX2, 5), (RX3, TX3, 5), (RX4, TX4, 5), (RX5, TX5, 4), (RX6, TX6, 2), (RX7, TX7, 8)]

