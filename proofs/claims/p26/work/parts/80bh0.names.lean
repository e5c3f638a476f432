theorem dL_plans_99 : decode cL_plans 99 = .ok (.aload_n 0, 1) := by decide +kernel
theorem dL_plans_100 : decode cL_plans 100 = .ok (.iload_n 1, 1) := by decide +kernel
theorem dL_plans_101 : decode cL_plans 101 = .ok (.iload 7, 2) := by decide +kernel
theorem dL_plans_103 : decode cL_plans 103 = .ok (.iconst 1, 1) := by decide +kernel
theorem dL_plans_104 : decode cL_plans 104 = .ok (.iadd, 1) := by decide +kernel
theorem dL_plans_105 : decode cL_plans 105 = .ok (.iconst 0, 1) := by decide +kernel
theorem dL_plans_106 : decode cL_plans 106 = .ok (.invokevirtual 43, 3) := by decide +kernel
theorem dL_plans_109 : decode cL_plans 109 = .ok (.bipush (-109), 2) := by decide +kernel
theorem dL_plans_111 : decode cL_plans 111 = .ok (.if_icmp .eq 253, 3) := by decide +kernel
theorem dL_plans_114 : decode cL_plans 114 = .ok (.iconst 0, 1) := by decide +kernel
theorem dL_plans_115 : decode cL_plans 115 = .ok (.ireturn, 1) := by decide +kernel
theorem dL_plans_116 : decode cL_plans 116 = .ok (.iload 8, 2) := by decide +kernel
theorem dL_plans_118 : decode cL_plans 118 = .ok (.iload 6, 2) := by decide +kernel
theorem dL_plans_120 : decode cL_plans 120 = .ok (.if_icmp .lt 129, 3) := by decide +kernel
theorem dL_plans_123 : decode cL_plans 123 = .ok (.iload 8, 2) := by decide +kernel
theorem dL_plans_125 : decode cL_plans 125 = .ok (.bipush 8, 2) := by decide +kernel
theorem dL_plans_127 : decode cL_plans 127 = .ok (.if_icmp .gt 122, 3) := by decide +kernel
theorem dL_plans_130 : decode cL_plans 130 = .ok (.iload 8, 2) := by decide +kernel
theorem dL_plans_132 : decode cL_plans 132 = .ok (.iload 9, 2) := by decide +kernel
theorem dL_plans_134 : decode cL_plans 134 = .ok (.ifCond .ge 9, 3) := by decide +kernel
theorem dL_plans_137 : decode cL_plans 137 = .ok (.iload 9, 2) := by decide +kernel
theorem dL_plans_139 : decode cL_plans 139 = .ok (.ineg, 1) := by decide +kernel
theorem dL_plans_140 : decode cL_plans 140 = .ok (.goto 5, 3) := by decide +kernel
theorem dL_plans_143 : decode cL_plans 143 = .ok (.iload 9, 2) := by decide +kernel
theorem dL_plans_145 : decode cL_plans 145 = .ok (.iload 10, 2) := by decide +kernel
theorem dL_plans_147 : decode cL_plans 147 = .ok (.ifCond .ge 9, 3) := by decide +kernel
theorem dL_plans_150 : decode cL_plans 150 = .ok (.iload 10, 2) := by decide +kernel
theorem dL_plans_152 : decode cL_plans 152 = .ok (.ineg, 1) := by decide +kernel
theorem dL_plans_153 : decode cL_plans 153 = .ok (.goto 5, 3) := by decide +kernel
theorem dL_plans_156 : decode cL_plans 156 = .ok (.iload 10, 2) := by decide +kernel
theorem dL_plans_158 : decode cL_plans 158 = .ok (.iadd, 1) := by decide +kernel
theorem dL_plans_159 : decode cL_plans 159 = .ok (.if_icmp .ne 90, 3) := by decide +kernel
theorem dL_plans_162 : decode cL_plans 162 = .ok (.iload 7, 2) := by decide +kernel
theorem dL_plans_164 : decode cL_plans 164 = .ok (.ifCond .ne 32, 3) := by decide +kernel
theorem dL_plans_167 : decode cL_plans 167 = .ok (.iload 8, 2) := by decide +kernel
theorem dL_plans_169 : decode cL_plans 169 = .ok (.ifCond .ne 7, 3) := by decide +kernel
theorem dL_plans_172 : decode cL_plans 172 = .ok (.iconst 1, 1) := by decide +kernel
theorem dL_plans_173 : decode cL_plans 173 = .ok (.goto 4, 3) := by decide +kernel
theorem dL_plans_176 : decode cL_plans 176 = .ok (.iconst 0, 1) := by decide +kernel
theorem dL_plans_177 : decode cL_plans 177 = .ok (.aload_n 0, 1) := by decide +kernel
theorem dL_plans_178 : decode cL_plans 178 = .ok (.iload_n 1, 1) := by decide +kernel
theorem dL_plans_179 : decode cL_plans 179 = .ok (.bipush 8, 2) := by decide +kernel
theorem dL_plans_181 : decode cL_plans 181 = .ok (.invokevirtual 15, 3) := by decide +kernel
theorem dL_plans_184 : decode cL_plans 184 = .ok (.iconst 1, 1) := by decide +kernel
theorem dL_plans_185 : decode cL_plans 185 = .ok (.if_icmp .ne 7, 3) := by decide +kernel
theorem dL_plans_188 : decode cL_plans 188 = .ok (.iconst 1, 1) := by decide +kernel
theorem dL_plans_189 : decode cL_plans 189 = .ok (.goto 4, 3) := by decide +kernel
theorem dL_plans_192 : decode cL_plans 192 = .ok (.iconst 0, 1) := by decide +kernel
theorem dL_plans_193 : decode cL_plans 193 = .ok (.if_icmp .ne 56, 3) := by decide +kernel
theorem dL_plans_196 : decode cL_plans 196 = .ok (.iload 7, 2) := by decide +kernel
theorem dL_plans_198 : decode cL_plans 198 = .ok (.iconst 1, 1) := by decide +kernel
theorem dL_plans_199 : decode cL_plans 199 = .ok (.if_icmp .ne 19, 3) := by decide +kernel
theorem dL_plans_202 : decode cL_plans 202 = .ok (.aload_n 0, 1) := by decide +kernel
theorem dL_plans_203 : decode cL_plans 203 = .ok (.iload_n 1, 1) := by decide +kernel
theorem dL_plans_204 : decode cL_plans 204 = .ok (.bipush 8, 2) := by decide +kernel
theorem dL_plans_206 : decode cL_plans 206 = .ok (.invokevirtual 15, 3) := by decide +kernel
theorem dL_plans_209 : decode cL_plans 209 = .ok (.iconst 1, 1) := by decide +kernel
theorem dL_plans_210 : decode cL_plans 210 = .ok (.if_icmp .ne 8, 3) := by decide +kernel
theorem dL_plans_213 : decode cL_plans 213 = .ok (.iload 8, 2) := by decide +kernel
theorem dL_plans_215 : decode cL_plans 215 = .ok (.ifCond .ne 34, 3) := by decide +kernel
theorem dL_plans_218 : decode cL_plans 218 = .ok (.iload 7, 2) := by decide +kernel
theorem dL_plans_220 : decode cL_plans 220 = .ok (.iconst 2, 1) := by decide +kernel
theorem dL_plans_221 : decode cL_plans 221 = .ok (.if_icmp .ne 30, 3) := by decide +kernel
theorem dL_plans_224 : decode cL_plans 224 = .ok (.iload 8, 2) := by decide +kernel
theorem dL_plans_226 : decode cL_plans 226 = .ok (.ifCond .ne 7, 3) := by decide +kernel
theorem dL_plans_229 : decode cL_plans 229 = .ok (.iconst 1, 1) := by decide +kernel
theorem dL_plans_230 : decode cL_plans 230 = .ok (.goto 4, 3) := by decide +kernel
theorem dL_plans_233 : decode cL_plans 233 = .ok (.iconst 0, 1) := by decide +kernel
theorem dL_plans_234 : decode cL_plans 234 = .ok (.iload 4, 2) := by decide +kernel
theorem dL_plans_236 : decode cL_plans 236 = .ok (.iload 5, 2) := by decide +kernel
theorem dL_plans_238 : decode cL_plans 238 = .ok (.if_icmp .ne 7, 3) := by decide +kernel
theorem dL_plans_241 : decode cL_plans 241 = .ok (.iconst 1, 1) := by decide +kernel
theorem dL_plans_242 : decode cL_plans 242 = .ok (.goto 4, 3) := by decide +kernel
theorem dL_plans_245 : decode cL_plans 245 = .ok (.iconst 0, 1) := by decide +kernel
theorem dL_plans_246 : decode cL_plans 246 = .ok (.if_icmp .eq 5, 3) := by decide +kernel
theorem dL_plans_249 : decode cL_plans 249 = .ok (.iconst 0, 1) := by decide +kernel
theorem dL_plans_250 : decode cL_plans 250 = .ok (.ireturn, 1) := by decide +kernel
theorem dL_plans_251 : decode cL_plans 251 = .ok (.iload 8, 2) := by decide +kernel
theorem dL_plans_253 : decode cL_plans 253 = .ok (.istore 6, 2) := by decide +kernel
theorem dL_plans_255 : decode cL_plans 255 = .ok (.aload_n 0, 1) := by decide +kernel
theorem dL_plans_256 : decode cL_plans 256 = .ok (.bipush 7, 2) := by decide +kernel
theorem dL_plans_258 : decode cL_plans 258 = .ok (.invokevirtual 9, 3) := by decide +kernel
theorem dL_plans_261 : decode cL_plans 261 = .ok (.istore 11, 2) := by decide +kernel
theorem dL_plans_263 : decode cL_plans 263 = .ok (.aload_n 0, 1) := by decide +kernel
theorem dL_plans_264 : decode cL_plans 264 = .ok (.iload_n 1, 1) := by decide +kernel
theorem dL_plans_265 : decode cL_plans 265 = .ok (.iload 9, 2) := by decide +kernel
theorem dL_plans_267 : decode cL_plans 267 = .ok (.iload 10, 2) := by decide +kernel
theorem dL_plans_269 : decode cL_plans 269 = .ok (.invokevirtual 46, 3) := by decide +kernel
theorem dL_plans_272 : decode cL_plans 272 = .ok (.iload 8, 2) := by decide +kernel
theorem dL_plans_274 : decode cL_plans 274 = .ok (.if_icmp .ne 88, 3) := by decide +kernel
theorem dL_plans_277 : decode cL_plans 277 = .ok (.aload_n 0, 1) := by decide +kernel
theorem dL_plans_278 : decode cL_plans 278 = .ok (.iload_n 1, 1) := by decide +kernel
theorem dL_plans_279 : decode cL_plans 279 = .ok (.bipush 8, 2) := by decide +kernel
theorem dL_plans_281 : decode cL_plans 281 = .ok (.invokevirtual 15, 3) := by decide +kernel
theorem dL_plans_284 : decode cL_plans 284 = .ok (.iconst 1, 1) := by decide +kernel
theorem dL_plans_285 : decode cL_plans 285 = .ok (.if_icmp .ne 77, 3) := by decide +kernel
theorem dL_plans_288 : decode cL_plans 288 = .ok (.iload 7, 2) := by decide +kernel
theorem dL_plans_290 : decode cL_plans 290 = .ok (.iconst 1, 1) := by decide +kernel
theorem dL_plans_291 : decode cL_plans 291 = .ok (.if_icmp .ne 13, 3) := by decide +kernel
theorem dL_plans_294 : decode cL_plans 294 = .ok (.aload_n 0, 1) := by decide +kernel
theorem dL_plans_295 : decode cL_plans 295 = .ok (.iconst 3, 1) := by decide +kernel
theorem dL_plans_296 : decode cL_plans 296 = .ok (.invokevirtual 9, 3) := by decide +kernel
theorem dL_plans_299 : decode cL_plans 299 = .ok (.iload 4, 2) := by decide +kernel
theorem dL_plans_301 : decode cL_plans 301 = .ok (.if_icmp .lt 61, 3) := by decide +kernel
theorem dL_plans_304 : decode cL_plans 304 = .ok (.iload 7, 2) := by decide +kernel
theorem dL_plans_306 : decode cL_plans 306 = .ok (.iconst 2, 1) := by decide +kernel
theorem dL_plans_307 : decode cL_plans 307 = .ok (.if_icmp .ne 13, 3) := by decide +kernel
theorem dL_plans_310 : decode cL_plans 310 = .ok (.aload_n 0, 1) := by decide +kernel
theorem dL_plans_311 : decode cL_plans 311 = .ok (.iconst 3, 1) := by decide +kernel
theorem dL_plans_312 : decode cL_plans 312 = .ok (.invokevirtual 9, 3) := by decide +kernel
theorem dL_plans_315 : decode cL_plans 315 = .ok (.iload 5, 2) := by decide +kernel
theorem dL_plans_317 : decode cL_plans 317 = .ok (.if_icmp .ne 45, 3) := by decide +kernel
theorem dL_plans_320 : decode cL_plans 320 = .ok (.aload_n 0, 1) := by decide +kernel
theorem dL_plans_321 : decode cL_plans 321 = .ok (.bipush 7, 2) := by decide +kernel
theorem dL_plans_323 : decode cL_plans 323 = .ok (.invokevirtual 9, 3) := by decide +kernel
theorem dL_plans_326 : decode cL_plans 326 = .ok (.iload 11, 2) := by decide +kernel
theorem dL_plans_328 : decode cL_plans 328 = .ok (.iload 8, 2) := by decide +kernel
theorem dL_plans_330 : decode cL_plans 330 = .ok (.iadd, 1) := by decide +kernel
theorem dL_plans_331 : decode cL_plans 331 = .ok (.if_icmp .ne 31, 3) := by decide +kernel
theorem dL_plans_334 : decode cL_plans 334 = .ok (.aload_n 0, 1) := by decide +kernel
theorem dL_plans_335 : decode cL_plans 335 = .ok (.invokevirtual 49, 3) := by decide +kernel
theorem dL_plans_338 : decode cL_plans 338 = .ok (.ifCond .lt 24, 3) := by decide +kernel
theorem dL_plans_341 : decode cL_plans 341 = .ok (.aload_n 0, 1) := by decide +kernel
theorem dL_plans_342 : decode cL_plans 342 = .ok (.bipush 7, 2) := by decide +kernel
theorem dL_plans_344 : decode cL_plans 344 = .ok (.invokevirtual 9, 3) := by decide +kernel
theorem dL_plans_347 : decode cL_plans 347 = .ok (.iload 11, 2) := by decide +kernel
theorem dL_plans_349 : decode cL_plans 349 = .ok (.if_icmp .ne 13, 3) := by decide +kernel
theorem dL_plans_352 : decode cL_plans 352 = .ok (.aload_n 0, 1) := by decide +kernel
theorem dL_plans_353 : decode cL_plans 353 = .ok (.iconst 3, 1) := by decide +kernel
theorem dL_plans_354 : decode cL_plans 354 = .ok (.invokevirtual 9, 3) := by decide +kernel
theorem dL_plans_357 : decode cL_plans 357 = .ok (.iload 4, 2) := by decide +kernel
theorem dL_plans_359 : decode cL_plans 359 = .ok (.if_icmp .eq 5, 3) := by decide +kernel
theorem dL_plans_362 : decode cL_plans 362 = .ok (.iconst 0, 1) := by decide +kernel
theorem dL_plans_363 : decode cL_plans 363 = .ok (.ireturn, 1) := by decide +kernel
theorem dL_plans_364 : decode cL_plans 364 = .ok (.iinc 7 1, 3) := by decide +kernel
theorem dL_plans_367 : decode cL_plans 367 = .ok (.goto (-333), 3) := by decide +kernel
theorem dL_plans_370 : decode cL_plans 370 = .ok (.iload_n 2, 1) := by decide +kernel
theorem dL_plans_371 : decode cL_plans 371 = .ok (.bipush (-109), 2) := by decide +kernel
theorem dL_plans_373 : decode cL_plans 373 = .ok (.if_icmp .eq 44, 3) := by decide +kernel
theorem dL_plans_376 : decode cL_plans 376 = .ok (.aload_n 0, 1) := by decide +kernel
theorem dL_plans_377 : decode cL_plans 377 = .ok (.iload_n 1, 1) := by decide +kernel
theorem dL_plans_378 : decode cL_plans 378 = .ok (.iload_n 2, 1) := by decide +kernel
theorem dL_plans_379 : decode cL_plans 379 = .ok (.invokevirtual 53, 3) := by decide +kernel
theorem dL_plans_382 : decode cL_plans 382 = .ok (.iload_n 3, 1) := by decide +kernel
theorem dL_plans_383 : decode cL_plans 383 = .ok (.if_icmp .ne 32, 3) := by decide +kernel
theorem dL_plans_386 : decode cL_plans 386 = .ok (.aload_n 0, 1) := by decide +kernel
theorem dL_plans_387 : decode cL_plans 387 = .ok (.iload_n 1, 1) := by decide +kernel
theorem dL_plans_388 : decode cL_plans 388 = .ok (.bipush 8, 2) := by decide +kernel
theorem dL_plans_390 : decode cL_plans 390 = .ok (.invokevirtual 15, 3) := by decide +kernel
theorem dL_plans_393 : decode cL_plans 393 = .ok (.iconst 1, 1) := by decide +kernel
theorem dL_plans_394 : decode cL_plans 394 = .ok (.if_icmp .ne 21, 3) := by decide +kernel
theorem dL_plans_397 : decode cL_plans 397 = .ok (.aload_n 0, 1) := by decide +kernel
theorem dL_plans_398 : decode cL_plans 398 = .ok (.invokevirtual 49, 3) := by decide +kernel
theorem dL_plans_401 : decode cL_plans 401 = .ok (.ifCond .lt 14, 3) := by decide +kernel
theorem dL_plans_404 : decode cL_plans 404 = .ok (.aload_n 0, 1) := by decide +kernel
theorem dL_plans_405 : decode cL_plans 405 = .ok (.iload_n 1, 1) := by decide +kernel
theorem dL_plans_406 : decode cL_plans 406 = .ok (.bipush 6, 2) := by decide +kernel
theorem dL_plans_408 : decode cL_plans 408 = .ok (.invokevirtual 15, 3) := by decide +kernel
theorem dL_plans_411 : decode cL_plans 411 = .ok (.iload_n 3, 1) := by decide +kernel
theorem dL_plans_412 : decode cL_plans 412 = .ok (.if_icmp .eq 5, 3) := by decide +kernel
theorem dL_plans_415 : decode cL_plans 415 = .ok (.iconst 0, 1) := by decide +kernel
theorem dL_plans_416 : decode cL_plans 416 = .ok (.ireturn, 1) := by decide +kernel
theorem dL_plans_417 : decode cL_plans 417 = .ok (.aload_n 0, 1) := by decide +kernel
theorem dL_plans_418 : decode cL_plans 418 = .ok (.iload_n 1, 1) := by decide +kernel
theorem dL_plans_419 : decode cL_plans 419 = .ok (.bipush 8, 2) := by decide +kernel
theorem dL_plans_421 : decode cL_plans 421 = .ok (.invokevirtual 15, 3) := by decide +kernel
theorem dL_plans_424 : decode cL_plans 424 = .ok (.iconst 1, 1) := by decide +kernel
theorem dL_plans_425 : decode cL_plans 425 = .ok (.if_icmp .ne 14, 3) := by decide +kernel
theorem dL_plans_428 : decode cL_plans 428 = .ok (.iload_n 2, 1) := by decide +kernel
theorem dL_plans_429 : decode cL_plans 429 = .ok (.bipush (-109), 2) := by decide +kernel
theorem dL_plans_431 : decode cL_plans 431 = .ok (.if_icmp .eq 27, 3) := by decide +kernel
theorem dL_plans_434 : decode cL_plans 434 = .ok (.iload_n 2, 1) := by decide +kernel
theorem dL_plans_435 : decode cL_plans 435 = .ok (.iload_n 3, 1) := by decide +kernel
theorem dL_plans_436 : decode cL_plans 436 = .ok (.if_icmp .gt 22, 3) := by decide +kernel
theorem dL_plans_439 : decode cL_plans 439 = .ok (.iload_n 2, 1) := by decide +kernel
theorem dL_plans_440 : decode cL_plans 440 = .ok (.bipush (-109), 2) := by decide +kernel
theorem dL_plans_442 : decode cL_plans 442 = .ok (.if_icmp .ne 18, 3) := by decide +kernel
theorem dL_plans_445 : decode cL_plans 445 = .ok (.aload_n 0, 1) := by decide +kernel
theorem dL_plans_446 : decode cL_plans 446 = .ok (.iload_n 1, 1) := by decide +kernel
theorem dL_plans_447 : decode cL_plans 447 = .ok (.iload 5, 2) := by decide +kernel
theorem dL_plans_449 : decode cL_plans 449 = .ok (.iconst 1, 1) := by decide +kernel
theorem dL_plans_450 : decode cL_plans 450 = .ok (.isub, 1) := by decide +kernel
theorem dL_plans_451 : decode cL_plans 451 = .ok (.invokevirtual 53, 3) := by decide +kernel
theorem dL_plans_454 : decode cL_plans 454 = .ok (.iload_n 3, 1) := by decide +kernel
theorem dL_plans_455 : decode cL_plans 455 = .ok (.if_icmp .eq 5, 3) := by decide +kernel
theorem dL_plans_458 : decode cL_plans 458 = .ok (.iconst 0, 1) := by decide +kernel
theorem dL_plans_459 : decode cL_plans 459 = .ok (.ireturn, 1) := by decide +kernel
theorem dL_plans_460 : decode cL_plans 460 = .ok (.iload_n 2, 1) := by decide +kernel
theorem dL_plans_461 : decode cL_plans 461 = .ok (.bipush (-109), 2) := by decide +kernel
theorem dL_plans_463 : decode cL_plans 463 = .ok (.if_icmp .ne 20, 3) := by decide +kernel
theorem dL_plans_466 : decode cL_plans 466 = .ok (.aload_n 0, 1) := by decide +kernel
theorem dL_plans_467 : decode cL_plans 467 = .ok (.iload_n 1, 1) := by decide +kernel
theorem dL_plans_468 : decode cL_plans 468 = .ok (.bipush 8, 2) := by decide +kernel
theorem dL_plans_470 : decode cL_plans 470 = .ok (.invokevirtual 15, 3) := by decide +kernel
theorem dL_plans_473 : decode cL_plans 473 = .ok (.ifCond .ne 14, 3) := by decide +kernel
theorem dL_plans_476 : decode cL_plans 476 = .ok (.aload_n 0, 1) := by decide +kernel
theorem dL_plans_477 : decode cL_plans 477 = .ok (.invokevirtual 49, 3) := by decide +kernel
theorem dL_plans_480 : decode cL_plans 480 = .ok (.ifCond .lt 7, 3) := by decide +kernel
theorem dL_plans_483 : decode cL_plans 483 = .ok (.iconst 1, 1) := by decide +kernel
theorem dL_plans_484 : decode cL_plans 484 = .ok (.goto 4, 3) := by decide +kernel
theorem dL_plans_487 : decode cL_plans 487 = .ok (.iconst 0, 1) := by decide +kernel
theorem dL_plans_488 : decode cL_plans 488 = .ok (.ireturn, 1) := by decide +kernel
set_option maxRecDepth 100000 in
theorem ggL_arranges_X7_count_h : GoodIn wsL_arranges [.code yX7_count cX7_count 2 (some .int)] := goodIn_r _ [5] rfl (by decide +kernel)
set_option maxRecDepth 100000 in
theorem ggL_arranges_X7_count_r1 : GoodIn wsL_arranges wsX7_count_r1 := goodIn_r _ [6, 7, 8, 9, 10, 11, 12, 13, 14, 15, 16, 17, 18, 19, 20, 21, 22, 23, 24, 25, 26, 27, 28, 29] rfl (by decide +kernel)
set_option maxRecDepth 100000 in
theorem ggL_arranges_X7_count_r2 : GoodIn wsL_arranges wsX7_count_r2 := goodIn_r _ [30, 31, 32, 4, 33, 34, 35, 36, 37, 38, 39, 40, 41, 42, 43, 44, 45, 46, 47, 48, 49, 50, 51, 52] rfl (by decide +kernel)
set_option maxRecDepth 100000 in
theorem ggL_arranges_X7_count_r3 : GoodIn wsL_arranges wsX7_count_r3 := goodIn_r _ [53, 54, 55, 56, 57, 58, 59, 60, 61, 62, 63, 64, 65, 66, 67, 68, 69, 70, 71, 72, 73, 74, 75, 76] rfl (by decide +kernel)
set_option maxRecDepth 100000 in
theorem ggL_arranges_X7_count_r4 : GoodIn wsL_arranges wsX7_count_r4 := goodIn_r _ [77, 78, 79, 80, 81, 82, 83, 84, 85, 86, 87, 88, 89, 90, 91, 92, 93, 94, 95, 96, 97, 98, 99, 100] rfl (by decide +kernel)
set_option maxRecDepth 100000 in
theorem ggL_arranges_X7_count_r5 : GoodIn wsL_arranges wsX7_count_r5 := goodIn_r _ [101, 102, 103, 104, 105, 106, 107, 108, 109, 110, 111, 112, 113, 114, 115, 116, 117, 118, 119, 120, 121, 122, 123, 124] rfl (by decide +kernel)
set_option maxRecDepth 100000 in
theorem ggL_arranges_X7_count_r6 : GoodIn wsL_arranges wsX7_count_r6 := goodIn_r _ [125, 126, 127] rfl (by decide +kernel)
set_option maxRecDepth 100000 in
theorem ggL_arranges_X7_count_X70 : GoodIn wsL_arranges wsX70 := goodIn_r _ [326, 327, 328, 329, 330, 331, 332, 333] rfl (by decide +kernel)
set_option maxRecDepth 100000 in
theorem ggL_arranges_X7_count_X50 : GoodIn wsL_arranges wsX50 := goodIn_r _ [334, 335, 336, 337] rfl (by decide +kernel)
set_option maxRecDepth 100000 in
theorem ggL_arranges_X7_count_X10 : GoodIn wsL_arranges wsX10 := goodIn_r _ [338, 339, 340, 341, 342, 343] rfl (by decide +kernel)
set_option maxRecDepth 100000 in
theorem ggL_arranges_X7_count_X00 : GoodIn wsL_arranges wsX00 := goodIn_r _ [344, 345, 346] rfl (by decide +kernel)
set_option maxRecDepth 100000 in
theorem ggL_arranges_X7_count_X60 : GoodIn wsL_arranges wsX60 := goodIn_r _ [347, 348] rfl (by decide +kernel)
