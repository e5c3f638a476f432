set_option maxRecDepth 100000 in
theorem ggL_arranges_X7_count : GoodIn wsL_arranges wsX7_count := goodIn_app ggL_arranges_X7_count_h (goodIn_app (goodIn_app (goodIn_app (goodIn_app (goodIn_app (goodIn_app ggL_arranges_X7_count_r1 (goodIn_app ggL_arranges_X7_count_r2 (goodIn_app ggL_arranges_X7_count_r3 (goodIn_app ggL_arranges_X7_count_r4 (goodIn_app ggL_arranges_X7_count_r5 ggL_arranges_X7_count_r6))))) ggL_arranges_X7_count_X70) ggL_arranges_X7_count_X50) ggL_arranges_X7_count_X10) ggL_arranges_X7_count_X00) ggL_arranges_X7_count_X60)
set_option maxRecDepth 100000 in
theorem gL_arranges_X7_count : GoodIn wsL_arranges (wsV RL 9 RX7 yX7_count wsX7_count) := goodIn_app (goodIn_of _ (by decide +kernel)) ggL_arranges_X7_count
set_option maxRecDepth 100000 in
theorem ggL_arranges_X7_arrange_h : GoodIn wsL_arranges [.code yX7_arrange cX7_arrange 2 (some .int)] := goodIn_r _ [131] rfl (by decide +kernel)
set_option maxRecDepth 100000 in
theorem ggL_arranges_X7_arrange_r1 : GoodIn wsL_arranges wsX7_arrange_r1 := goodIn_r _ [6, 7, 8, 10, 11, 12, 13, 14, 15, 16, 17, 18, 19, 20, 21, 22, 23, 24, 25, 26, 27, 28, 29, 30] rfl (by decide +kernel)
set_option maxRecDepth 100000 in
theorem ggL_arranges_X7_arrange_r2 : GoodIn wsL_arranges wsX7_arrange_r2 := goodIn_r _ [31, 32, 4, 33, 34, 35, 36, 37, 38, 39, 40, 41, 42, 43, 44, 45, 46, 47, 48, 49, 50, 51, 52, 53] rfl (by decide +kernel)
set_option maxRecDepth 100000 in
theorem ggL_arranges_X7_arrange_r3 : GoodIn wsL_arranges wsX7_arrange_r3 := goodIn_r _ [54, 55, 56, 57, 58, 59, 60, 61, 62, 63, 73, 74, 75, 76, 77, 78, 79, 80, 64, 132, 133, 134, 119, 135] rfl (by decide +kernel)
set_option maxRecDepth 100000 in
theorem ggL_arranges_X7_arrange_r4 : GoodIn wsL_arranges wsX7_arrange_r4 := goodIn_r _ [121, 136, 137, 138, 139, 140, 141, 142, 143, 144, 145, 146, 147, 148, 149, 115, 150, 151, 152, 153, 154, 155, 156, 157] rfl (by decide +kernel)
set_option maxRecDepth 100000 in
theorem ggL_arranges_X7_arrange_r5 : GoodIn wsL_arranges wsX7_arrange_r5 := goodIn_r _ [158, 159, 160, 161, 162, 163, 164, 95, 165, 166, 167, 168, 169, 170, 171, 172, 173, 174, 175, 176, 177, 178, 179, 180] rfl (by decide +kernel)
set_option maxRecDepth 100000 in
theorem ggL_arranges_X7_arrange_r6 : GoodIn wsL_arranges wsX7_arrange_r6 := goodIn_r _ [181, 182, 183, 184, 185, 186, 187, 188, 189, 190, 191, 192, 193, 194, 195, 196, 197, 198, 199, 200, 201, 202, 203, 204] rfl (by decide +kernel)
set_option maxRecDepth 100000 in
theorem ggL_arranges_X7_arrange_r7 : GoodIn wsL_arranges wsX7_arrange_r7 := goodIn_r _ [205, 206, 207, 208, 209, 210, 211, 212, 213, 214, 215, 216, 217] rfl (by decide +kernel)
set_option maxRecDepth 100000 in
theorem ggL_arranges_X7_arrange_X70 : GoodIn wsL_arranges wsX70 := goodIn_r _ [326, 327, 328, 329, 330, 331, 332, 333] rfl (by decide +kernel)
set_option maxRecDepth 100000 in
theorem ggL_arranges_X7_arrange_X50 : GoodIn wsL_arranges wsX50 := goodIn_r _ [334, 335, 336, 337] rfl (by decide +kernel)
set_option maxRecDepth 100000 in
theorem ggL_arranges_X7_arrange_X10 : GoodIn wsL_arranges wsX10 := goodIn_r _ [338, 339, 340, 341, 342, 343] rfl (by decide +kernel)
set_option maxRecDepth 100000 in
theorem ggL_arranges_X7_arrange_X00 : GoodIn wsL_arranges wsX00 := goodIn_r _ [344, 345, 346] rfl (by decide +kernel)
set_option maxRecDepth 100000 in
theorem ggL_arranges_X7_arrange_X30 : GoodIn wsL_arranges wsX30 := goodIn_r _ [349, 350, 351, 352, 353] rfl (by decide +kernel)
set_option maxRecDepth 100000 in
theorem ggL_arranges_X7_arrange : GoodIn wsL_arranges wsX7_arrange := goodIn_app ggL_arranges_X7_arrange_h (goodIn_app (goodIn_app (goodIn_app (goodIn_app (goodIn_app (goodIn_app ggL_arranges_X7_arrange_r1 (goodIn_app ggL_arranges_X7_arrange_r2 (goodIn_app ggL_arranges_X7_arrange_r3 (goodIn_app ggL_arranges_X7_arrange_r4 (goodIn_app ggL_arranges_X7_arrange_r5 (goodIn_app ggL_arranges_X7_arrange_r6 ggL_arranges_X7_arrange_r7)))))) ggL_arranges_X7_arrange_X70) ggL_arranges_X7_arrange_X50) ggL_arranges_X7_arrange_X10) ggL_arranges_X7_arrange_X00) ggL_arranges_X7_arrange_X30)
set_option maxRecDepth 100000 in
theorem gL_arranges_X7_arrange : GoodIn wsL_arranges (wsV RL 56 RX7 yX7_arrange wsX7_arrange) := goodIn_app (goodIn_of _ (by decide +kernel)) ggL_arranges_X7_arrange
set_option maxRecDepth 100000 in
theorem ggL_arranges_X7_piece_h : GoodIn wsL_arranges [.code yX7_piece cX7_piece 3 (some .int)] := goodIn_r _ [221] rfl (by decide +kernel)
set_option maxRecDepth 100000 in
theorem ggL_arranges_X7_piece_r1 : GoodIn wsL_arranges wsX7_piece_r1 := goodIn_r _ [7, 6, 222, 223, 224, 225, 24, 226, 26, 191, 192, 4, 193, 227, 41, 42, 43, 44, 10, 11, 12, 13, 14, 15] rfl (by decide +kernel)
set_option maxRecDepth 100000 in
theorem ggL_arranges_X7_piece_r2 : GoodIn wsL_arranges wsX7_piece_r2 := goodIn_r _ [16, 17, 18, 19, 20, 21, 22, 23, 25, 27, 28, 29, 30, 31, 32, 33, 34, 35, 36, 37, 38, 39, 40, 45] rfl (by decide +kernel)
set_option maxRecDepth 100000 in
theorem ggL_arranges_X7_piece_r3 : GoodIn wsL_arranges wsX7_piece_r3 := goodIn_r _ [46, 47, 48, 49, 50, 51, 52, 53, 54, 55, 56, 57, 58, 59, 60, 61, 62, 63, 228, 229, 230, 231, 232, 233] rfl (by decide +kernel)
set_option maxRecDepth 100000 in
theorem ggL_arranges_X7_piece_r4 : GoodIn wsL_arranges wsX7_piece_r4 := goodIn_r _ [234, 235, 155, 78, 79, 80, 236, 237, 238, 239, 240, 241, 242, 243, 244, 245, 246, 95, 247, 248, 102, 103, 104, 105] rfl (by decide +kernel)
set_option maxRecDepth 100000 in
theorem ggL_arranges_X7_piece_r5 : GoodIn wsL_arranges wsX7_piece_r5 := goodIn_r _ [66, 67, 68, 249, 250, 251, 252, 253, 254, 255, 256, 257, 258, 259, 260, 261, 262, 263, 264, 265, 266, 267, 268, 90] rfl (by decide +kernel)
set_option maxRecDepth 100000 in
theorem ggL_arranges_X7_piece_r6 : GoodIn wsL_arranges wsX7_piece_r6 := goodIn_r _ [91, 92, 93, 94, 96, 97, 98, 99, 100, 101, 269, 270, 271, 272, 273, 274, 275, 276, 185, 277, 278, 279, 280, 281] rfl (by decide +kernel)
set_option maxRecDepth 100000 in
theorem ggL_arranges_X7_piece_r7 : GoodIn wsL_arranges wsX7_piece_r7 := goodIn_r _ [282, 283] rfl (by decide +kernel)
set_option maxRecDepth 100000 in
theorem ggL_arranges_X7_piece_X70 : GoodIn wsL_arranges wsX70 := goodIn_r _ [326, 327, 328, 329, 330, 331, 332, 333] rfl (by decide +kernel)
set_option maxRecDepth 100000 in
theorem ggL_arranges_X7_piece_X10 : GoodIn wsL_arranges wsX10 := goodIn_r _ [338, 339, 340, 341, 342, 343] rfl (by decide +kernel)
set_option maxRecDepth 100000 in
theorem ggL_arranges_X7_piece_X50 : GoodIn wsL_arranges wsX50 := goodIn_r _ [334, 335, 336, 337] rfl (by decide +kernel)
set_option maxRecDepth 100000 in
theorem ggL_arranges_X7_piece_X20 : GoodIn wsL_arranges wsX20 := goodIn_r _ [354, 355, 356, 357, 358] rfl (by decide +kernel)
set_option maxRecDepth 100000 in
theorem ggL_arranges_X7_piece : GoodIn wsL_arranges wsX7_piece := goodIn_app ggL_arranges_X7_piece_h (goodIn_app (goodIn_app (goodIn_app (goodIn_app (goodIn_app ggL_arranges_X7_piece_r1 (goodIn_app ggL_arranges_X7_piece_r2 (goodIn_app ggL_arranges_X7_piece_r3 (goodIn_app ggL_arranges_X7_piece_r4 (goodIn_app ggL_arranges_X7_piece_r5 (goodIn_app ggL_arranges_X7_piece_r6 ggL_arranges_X7_piece_r7)))))) ggL_arranges_X7_piece_X70) ggL_arranges_X7_piece_X10) ggL_arranges_X7_piece_X50) ggL_arranges_X7_piece_X20)
set_option maxRecDepth 100000 in
theorem gL_arranges_X7_piece : GoodIn wsL_arranges (wsV RL 15 RX7 yX7_piece wsX7_piece) := goodIn_app (goodIn_of _ (by decide +kernel)) ggL_arranges_X7_piece
set_option maxRecDepth 100000 in
theorem ggL_arranges_X7_leastShift_h : GoodIn wsL_arranges [.code yX7_leastShift cX7_leastShift 4 (some .int)] := goodIn_r _ [287] rfl (by decide +kernel)
set_option maxRecDepth 100000 in
theorem ggL_arranges_X7_leastShift_r1 : GoodIn wsL_arranges wsX7_leastShift_r1 := goodIn_r _ [7, 154, 223, 224, 225, 24, 226, 26, 191, 192, 4, 193, 156, 157, 158, 159, 160, 161, 162, 163, 164, 95, 165, 166] rfl (by decide +kernel)
set_option maxRecDepth 100000 in
theorem ggL_arranges_X7_leastShift_r2 : GoodIn wsL_arranges wsX7_leastShift_r2 := goodIn_r _ [143, 144, 145, 44, 146, 147, 148, 149, 31, 49, 54, 115, 167, 168, 169, 170, 171, 172, 11, 12, 13, 14, 15, 16] rfl (by decide +kernel)
set_option maxRecDepth 100000 in
theorem ggL_arranges_X7_leastShift_r3 : GoodIn wsL_arranges wsX7_leastShift_r3 := goodIn_r _ [17, 18, 19, 20, 21, 22, 23, 25, 27, 28, 29, 30, 32, 33, 34, 35, 36, 37, 38, 39, 40, 41, 42, 43] rfl (by decide +kernel)
set_option maxRecDepth 100000 in
theorem ggL_arranges_X7_leastShift_r4 : GoodIn wsL_arranges wsX7_leastShift_r4 := goodIn_r _ [45, 46, 47, 48, 50, 51, 52, 53, 55, 56, 57, 58, 59, 60, 61, 62, 63, 173, 74, 75, 76, 77, 78, 79] rfl (by decide +kernel)
set_option maxRecDepth 100000 in
theorem ggL_arranges_X7_leastShift_r5 : GoodIn wsL_arranges wsX7_leastShift_r5 := goodIn_r _ [80, 174, 175, 176, 177, 178, 179, 180, 181, 182, 183, 184, 185, 186, 187, 188, 189, 190, 194, 195, 196, 197, 198, 199] rfl (by decide +kernel)
set_option maxRecDepth 100000 in
theorem ggL_arranges_X7_leastShift_r6 : GoodIn wsL_arranges wsX7_leastShift_r6 := goodIn_r _ [208, 209, 210, 211, 200, 201, 202, 203, 204, 205, 206, 207] rfl (by decide +kernel)
set_option maxRecDepth 100000 in
theorem ggL_arranges_X7_leastShift_X70 : GoodIn wsL_arranges wsX70 := goodIn_r _ [326, 327, 328, 329, 330, 331, 332, 333] rfl (by decide +kernel)
set_option maxRecDepth 100000 in
theorem ggL_arranges_X7_leastShift_X10 : GoodIn wsL_arranges wsX10 := goodIn_r _ [338, 339, 340, 341, 342, 343] rfl (by decide +kernel)
set_option maxRecDepth 100000 in
theorem ggL_arranges_X7_leastShift_X30 : GoodIn wsL_arranges wsX30 := goodIn_r _ [349, 350, 351, 352, 353] rfl (by decide +kernel)
set_option maxRecDepth 100000 in
theorem ggL_arranges_X7_leastShift_X50 : GoodIn wsL_arranges wsX50 := goodIn_r _ [334, 335, 336, 337] rfl (by decide +kernel)
set_option maxRecDepth 100000 in
theorem ggL_arranges_X7_leastShift : GoodIn wsL_arranges wsX7_leastShift := goodIn_app ggL_arranges_X7_leastShift_h (goodIn_app (goodIn_app (goodIn_app (goodIn_app (goodIn_app ggL_arranges_X7_leastShift_r1 (goodIn_app ggL_arranges_X7_leastShift_r2 (goodIn_app ggL_arranges_X7_leastShift_r3 (goodIn_app ggL_arranges_X7_leastShift_r4 (goodIn_app ggL_arranges_X7_leastShift_r5 ggL_arranges_X7_leastShift_r6))))) ggL_arranges_X7_leastShift_X70) ggL_arranges_X7_leastShift_X10) ggL_arranges_X7_leastShift_X30) ggL_arranges_X7_leastShift_X50)
set_option maxRecDepth 100000 in
theorem gL_arranges_X7_leastShift : GoodIn wsL_arranges (wsV RL 43 RX7 yX7_leastShift wsX7_leastShift) := goodIn_app (goodIn_of _ (by decide +kernel)) ggL_arranges_X7_leastShift
set_option maxRecDepth 100000 in
theorem ggL_arranges_L_sound_h : GoodIn wsL_arranges [.code yL_sound cL_sound 17 (some .boolean)] := goodIn_r _ [291] rfl (by decide +kernel)
set_option maxRecDepth 100000 in
theorem ggL_arranges_L_sound_r1 : GoodIn wsL_arranges wsL_sound_r1 := goodIn_r _ [1, 2, 3, 4, 5, 6, 7, 8, 9, 10, 11, 12, 13, 14, 15, 16, 17, 18, 19, 20, 21, 22, 23, 24] rfl (by decide +kernel)
set_option maxRecDepth 100000 in
theorem ggL_arranges_L_sound_r2 : GoodIn wsL_arranges wsL_sound_r2 := goodIn_r _ [25, 26, 27, 28, 29, 30, 31, 32, 33, 34, 35, 36, 37, 38, 39, 40, 41, 42, 43, 44, 45, 46, 47, 48] rfl (by decide +kernel)
set_option maxRecDepth 100000 in
theorem ggL_arranges_L_sound_r3 : GoodIn wsL_arranges wsL_sound_r3 := goodIn_r _ [49, 50, 51, 52, 53, 54, 55, 56, 57, 58, 59, 60, 61, 62, 63, 64, 65, 66, 67, 68, 69, 70, 71, 72] rfl (by decide +kernel)
set_option maxRecDepth 100000 in
theorem ggL_arranges_L_sound_r4 : GoodIn wsL_arranges wsL_sound_r4 := goodIn_r _ [73, 74, 75, 76, 77, 78, 79, 80, 81, 82, 83, 84, 85, 86, 87, 88, 89, 90, 91, 92, 93, 94, 95, 96] rfl (by decide +kernel)
set_option maxRecDepth 100000 in
theorem ggL_arranges_L_sound_r5 : GoodIn wsL_arranges wsL_sound_r5 := goodIn_r _ [97, 98, 99, 100, 101, 102, 103, 104, 105, 106, 107, 108, 109, 110, 111, 112, 113, 114, 115, 116, 117, 118, 119, 120] rfl (by decide +kernel)
set_option maxRecDepth 100000 in
theorem ggL_arranges_L_sound_r6 : GoodIn wsL_arranges wsL_sound_r6 := goodIn_r _ [121, 122, 123, 124, 125, 126, 127, 218, 219, 220, 221, 222, 223, 224, 225, 226, 191, 192, 193, 227, 228, 229, 230, 231] rfl (by decide +kernel)
set_option maxRecDepth 100000 in
theorem ggL_arranges_L_sound_r7 : GoodIn wsL_arranges wsL_sound_r7 := goodIn_r _ [232, 233, 234, 235, 155, 236, 237, 238, 239, 240, 241, 242, 243, 244, 245, 246, 247, 248, 249, 250, 251, 252, 253, 254] rfl (by decide +kernel)
set_option maxRecDepth 100000 in
theorem ggL_arranges_L_sound_r8 : GoodIn wsL_arranges wsL_sound_r8 := goodIn_r _ [255, 256, 257, 258, 259, 260, 261, 262, 263, 264, 265, 266, 267, 268, 269, 270, 271, 272, 273, 274, 275, 276, 185, 277] rfl (by decide +kernel)
set_option maxRecDepth 100000 in
theorem ggL_arranges_L_sound_r9 : GoodIn wsL_arranges wsL_sound_r9 := goodIn_r _ [278, 279, 280, 281, 282, 283, 292, 293, 294, 295, 296, 297, 298, 299, 300, 301, 302, 303, 304, 305, 306, 307, 308, 309] rfl (by decide +kernel)
set_option maxRecDepth 100000 in
theorem ggL_arranges_L_sound_r10 : GoodIn wsL_arranges wsL_sound_r10 := goodIn_r _ [310, 311, 312, 313, 314, 315, 316, 317] rfl (by decide +kernel)
set_option maxRecDepth 100000 in
theorem ggL_arranges_L_sound_X70 : GoodIn wsL_arranges wsX70 := goodIn_r _ [326, 327, 328, 329, 330, 331, 332, 333] rfl (by decide +kernel)
set_option maxRecDepth 100000 in
theorem ggL_arranges_L_sound_X50 : GoodIn wsL_arranges wsX50 := goodIn_r _ [334, 335, 336, 337] rfl (by decide +kernel)
set_option maxRecDepth 100000 in
theorem ggL_arranges_L_sound_X10 : GoodIn wsL_arranges wsX10 := goodIn_r _ [338, 339, 340, 341, 342, 343] rfl (by decide +kernel)
set_option maxRecDepth 100000 in
theorem ggL_arranges_L_sound_X00 : GoodIn wsL_arranges wsX00 := goodIn_r _ [344, 345, 346] rfl (by decide +kernel)
set_option maxRecDepth 100000 in
theorem ggL_arranges_L_sound_X60 : GoodIn wsL_arranges wsX60 := goodIn_r _ [347, 348] rfl (by decide +kernel)
set_option maxRecDepth 100000 in
theorem ggL_arranges_L_sound_X20 : GoodIn wsL_arranges wsX20 := goodIn_r _ [354, 355, 356, 357, 358] rfl (by decide +kernel)
set_option maxRecDepth 100000 in
theorem ggL_arranges_L_sound : GoodIn wsL_arranges wsL_sound := goodIn_app ggL_arranges_L_sound_h (goodIn_app (goodIn_app (goodIn_app (goodIn_app (goodIn_app (goodIn_app (goodIn_app ggL_arranges_L_sound_r1 (goodIn_app ggL_arranges_L_sound_r2 (goodIn_app ggL_arranges_L_sound_r3 (goodIn_app ggL_arranges_L_sound_r4 (goodIn_app ggL_arranges_L_sound_r5 (goodIn_app ggL_arranges_L_sound_r6 (goodIn_app ggL_arranges_L_sound_r7 (goodIn_app ggL_arranges_L_sound_r8 (goodIn_app ggL_arranges_L_sound_r9 ggL_arranges_L_sound_r10))))))))) ggL_arranges_L_sound_X70) ggL_arranges_L_sound_X50) ggL_arranges_L_sound_X10) ggL_arranges_L_sound_X00) ggL_arranges_L_sound_X60) ggL_arranges_L_sound_X20)
set_option maxRecDepth 100000 in
theorem gL_arranges_L_sound : GoodIn wsL_arranges (va_wsS RL 59 yL_sound wsL_sound) := goodIn_app (goodIn_of _ (by decide +kernel)) ggL_arranges_L_sound
set_option maxRecDepth 100000 in
theorem ggL_arranges_X7_undo : GoodIn wsL_arranges wsX7_undo := goodIn_r _ [321, 8, 7, 116, 117, 118, 119, 120, 121, 322, 323, 324, 325, 137, 138, 139, 140, 136, 141, 142, 143, 144, 24, 145, 44, 146, 147, 148, 149, 31, 49, 54, 26, 115, 326, 327, 328, 329, 330, 331, 332, 333, 344, 345, 346, 338, 339, 340, 341, 342, 343] rfl (by decide +kernel)
set_option maxRecDepth 100000 in
theorem gL_arranges_X7_undo : GoodIn wsL_arranges (wsV RL 49 RX7 yX7_undo wsX7_undo) := goodIn_app (goodIn_of _ (by decide +kernel)) ggL_arranges_X7_undo
theorem dL_arranges_0 : decode cL_arranges 0 = .ok (.aload_n 0, 1) := by decide +kernel
theorem dL_arranges_1 : decode cL_arranges 1 = .ok (.iconst 3, 1) := by decide +kernel
theorem dL_arranges_2 : decode cL_arranges 2 = .ok (.invokevirtual 9, 3) := by decide +kernel
theorem dL_arranges_5 : decode cL_arranges 5 = .ok (.istore_n 1, 1) := by decide +kernel
theorem dL_arranges_6 : decode cL_arranges 6 = .ok (.aload_n 0, 1) := by decide +kernel
theorem dL_arranges_7 : decode cL_arranges 7 = .ok (.iconst 0, 1) := by decide +kernel
theorem dL_arranges_8 : decode cL_arranges 8 = .ok (.invokevirtual 9, 3) := by decide +kernel
theorem dL_arranges_11 : decode cL_arranges 11 = .ok (.istore_n 2, 1) := by decide +kernel
theorem dL_arranges_12 : decode cL_arranges 12 = .ok (.aload_n 0, 1) := by decide +kernel
theorem dL_arranges_13 : decode cL_arranges 13 = .ok (.bipush 7, 2) := by decide +kernel
theorem dL_arranges_15 : decode cL_arranges 15 = .ok (.invokevirtual 9, 3) := by decide +kernel
theorem dL_arranges_18 : decode cL_arranges 18 = .ok (.istore_n 3, 1) := by decide +kernel
theorem dL_arranges_19 : decode cL_arranges 19 = .ok (.aload_n 0, 1) := by decide +kernel
theorem dL_arranges_20 : decode cL_arranges 20 = .ok (.bipush 8, 2) := by decide +kernel
theorem dL_arranges_22 : decode cL_arranges 22 = .ok (.invokevirtual 9, 3) := by decide +kernel
theorem dL_arranges_25 : decode cL_arranges 25 = .ok (.istore 4, 2) := by decide +kernel
theorem dL_arranges_27 : decode cL_arranges 27 = .ok (.aload_n 0, 1) := by decide +kernel
theorem dL_arranges_28 : decode cL_arranges 28 = .ok (.invokevirtual 56, 3) := by decide +kernel
theorem dL_arranges_31 : decode cL_arranges 31 = .ok (.istore 5, 2) := by decide +kernel
theorem dL_arranges_33 : decode cL_arranges 33 = .ok (.iload_n 1, 1) := by decide +kernel
theorem dL_arranges_34 : decode cL_arranges 34 = .ok (.iload_n 2, 1) := by decide +kernel
theorem dL_arranges_35 : decode cL_arranges 35 = .ok (.if_icmp .ne 27, 3) := by decide +kernel
theorem dL_arranges_38 : decode cL_arranges 38 = .ok (.iload 5, 2) := by decide +kernel
theorem dL_arranges_40 : decode cL_arranges 40 = .ok (.bipush (-102), 2) := by decide +kernel
theorem dL_arranges_42 : decode cL_arranges 42 = .ok (.if_icmp .ne 18, 3) := by decide +kernel
theorem dL_arranges_45 : decode cL_arranges 45 = .ok (.aload_n 0, 1) := by decide +kernel
theorem dL_arranges_46 : decode cL_arranges 46 = .ok (.bipush 8, 2) := by decide +kernel
theorem dL_arranges_48 : decode cL_arranges 48 = .ok (.invokevirtual 9, 3) := by decide +kernel
theorem dL_arranges_51 : decode cL_arranges 51 = .ok (.iload 4, 2) := by decide +kernel
theorem dL_arranges_53 : decode cL_arranges 53 = .ok (.if_icmp .ne 7, 3) := by decide +kernel
theorem dL_arranges_56 : decode cL_arranges 56 = .ok (.iconst 1, 1) := by decide +kernel
theorem dL_arranges_57 : decode cL_arranges 57 = .ok (.goto 4, 3) := by decide +kernel
theorem dL_arranges_60 : decode cL_arranges 60 = .ok (.iconst 0, 1) := by decide +kernel
theorem dL_arranges_61 : decode cL_arranges 61 = .ok (.ireturn, 1) := by decide +kernel
theorem dL_arranges_62 : decode cL_arranges 62 = .ok (.iload 5, 2) := by decide +kernel
theorem dL_arranges_64 : decode cL_arranges 64 = .ok (.ifCond .lt 57, 3) := by decide +kernel
theorem dL_arranges_67 : decode cL_arranges 67 = .ok (.iload 5, 2) := by decide +kernel
theorem dL_arranges_69 : decode cL_arranges 69 = .ok (.bipush 12, 2) := by decide +kernel
theorem dL_arranges_71 : decode cL_arranges 71 = .ok (.if_icmp .gt 50, 3) := by decide +kernel
theorem dL_arranges_74 : decode cL_arranges 74 = .ok (.aload_n 0, 1) := by decide +kernel
theorem dL_arranges_75 : decode cL_arranges 75 = .ok (.iconst 3, 1) := by decide +kernel
theorem dL_arranges_76 : decode cL_arranges 76 = .ok (.invokevirtual 9, 3) := by decide +kernel
theorem dL_arranges_79 : decode cL_arranges 79 = .ok (.iload_n 1, 1) := by decide +kernel
theorem dL_arranges_80 : decode cL_arranges 80 = .ok (.if_icmp .lt 41, 3) := by decide +kernel
theorem dL_arranges_83 : decode cL_arranges 83 = .ok (.aload_n 0, 1) := by decide +kernel
theorem dL_arranges_84 : decode cL_arranges 84 = .ok (.bipush 7, 2) := by decide +kernel
theorem dL_arranges_86 : decode cL_arranges 86 = .ok (.invokevirtual 9, 3) := by decide +kernel
theorem dL_arranges_89 : decode cL_arranges 89 = .ok (.iload_n 3, 1) := by decide +kernel
theorem dL_arranges_90 : decode cL_arranges 90 = .ok (.iload 5, 2) := by decide +kernel
theorem dL_arranges_92 : decode cL_arranges 92 = .ok (.iadd, 1) := by decide +kernel
theorem dL_arranges_93 : decode cL_arranges 93 = .ok (.if_icmp .lt 28, 3) := by decide +kernel
theorem dL_arranges_96 : decode cL_arranges 96 = .ok (.aload_n 0, 1) := by decide +kernel
theorem dL_arranges_97 : decode cL_arranges 97 = .ok (.bipush 7, 2) := by decide +kernel
theorem dL_arranges_99 : decode cL_arranges 99 = .ok (.invokevirtual 9, 3) := by decide +kernel
theorem dL_arranges_102 : decode cL_arranges 102 = .ok (.iload_n 3, 1) := by decide +kernel
theorem dL_arranges_103 : decode cL_arranges 103 = .ok (.bipush 8, 2) := by decide +kernel
theorem dL_arranges_105 : decode cL_arranges 105 = .ok (.iload 5, 2) := by decide +kernel
theorem dL_arranges_107 : decode cL_arranges 107 = .ok (.imul, 1) := by decide +kernel
theorem dL_arranges_108 : decode cL_arranges 108 = .ok (.iadd, 1) := by decide +kernel
theorem dL_arranges_109 : decode cL_arranges 109 = .ok (.if_icmp .gt 12, 3) := by decide +kernel
theorem dL_arranges_112 : decode cL_arranges 112 = .ok (.aload_n 0, 1) := by decide +kernel
theorem dL_arranges_113 : decode cL_arranges 113 = .ok (.iconst 0, 1) := by decide +kernel
theorem dL_arranges_114 : decode cL_arranges 114 = .ok (.invokevirtual 9, 3) := by decide +kernel
theorem dL_arranges_117 : decode cL_arranges 117 = .ok (.iload_n 2, 1) := by decide +kernel
theorem dL_arranges_118 : decode cL_arranges 118 = .ok (.if_icmp .eq 5, 3) := by decide +kernel
theorem dL_arranges_121 : decode cL_arranges 121 = .ok (.iconst 0, 1) := by decide +kernel
theorem dL_arranges_122 : decode cL_arranges 122 = .ok (.ireturn, 1) := by decide +kernel
theorem dL_arranges_123 : decode cL_arranges 123 = .ok (.iconst 0, 1) := by decide +kernel
theorem dL_arranges_124 : decode cL_arranges 124 = .ok (.istore 6, 2) := by decide +kernel
theorem dL_arranges_126 : decode cL_arranges 126 = .ok (.iload 6, 2) := by decide +kernel
theorem dL_arranges_128 : decode cL_arranges 128 = .ok (.iload_n 2, 1) := by decide +kernel
theorem dL_arranges_129 : decode cL_arranges 129 = .ok (.if_icmp .ge 51, 3) := by decide +kernel
theorem dL_arranges_132 : decode cL_arranges 132 = .ok (.iload 5, 2) := by decide +kernel
theorem dL_arranges_134 : decode cL_arranges 134 = .ok (.bipush 12, 2) := by decide +kernel
theorem dL_arranges_136 : decode cL_arranges 136 = .ok (.if_icmp .ge 44, 3) := by decide +kernel
theorem dL_arranges_139 : decode cL_arranges 139 = .ok (.aload_n 0, 1) := by decide +kernel
theorem dL_arranges_140 : decode cL_arranges 140 = .ok (.iconst 3, 1) := by decide +kernel
theorem dL_arranges_141 : decode cL_arranges 141 = .ok (.invokevirtual 9, 3) := by decide +kernel
theorem dL_arranges_144 : decode cL_arranges 144 = .ok (.iload_n 2, 1) := by decide +kernel
theorem dL_arranges_145 : decode cL_arranges 145 = .ok (.if_icmp .ge 35, 3) := by decide +kernel
theorem dL_arranges_148 : decode cL_arranges 148 = .ok (.aload_n 0, 1) := by decide +kernel
theorem dL_arranges_149 : decode cL_arranges 149 = .ok (.iload 6, 2) := by decide +kernel
theorem dL_arranges_151 : decode cL_arranges 151 = .ok (.bipush 8, 2) := by decide +kernel
theorem dL_arranges_153 : decode cL_arranges 153 = .ok (.invokevirtual 15, 3) := by decide +kernel
theorem dL_arranges_156 : decode cL_arranges 156 = .ok (.ifCond .ne 18, 3) := by decide +kernel
theorem dL_arranges_159 : decode cL_arranges 159 = .ok (.aload_n 0, 1) := by decide +kernel
theorem dL_arranges_160 : decode cL_arranges 160 = .ok (.iload 6, 2) := by decide +kernel
theorem dL_arranges_162 : decode cL_arranges 162 = .ok (.iconst 1, 1) := by decide +kernel
theorem dL_arranges_163 : decode cL_arranges 163 = .ok (.iconst 0, 1) := by decide +kernel
theorem dL_arranges_164 : decode cL_arranges 164 = .ok (.invokevirtual 43, 3) := by decide +kernel
theorem dL_arranges_167 : decode cL_arranges 167 = .ok (.bipush (-109), 2) := by decide +kernel
theorem dL_arranges_169 : decode cL_arranges 169 = .ok (.if_icmp .eq 5, 3) := by decide +kernel
theorem dL_arranges_172 : decode cL_arranges 172 = .ok (.iconst 0, 1) := by decide +kernel
theorem dL_arranges_173 : decode cL_arranges 173 = .ok (.ireturn, 1) := by decide +kernel
theorem dL_arranges_174 : decode cL_arranges 174 = .ok (.iinc 6 1, 3) := by decide +kernel
theorem dL_arranges_177 : decode cL_arranges 177 = .ok (.goto (-51), 3) := by decide +kernel
theorem dL_arranges_180 : decode cL_arranges 180 = .ok (.aload_n 0, 1) := by decide +kernel
theorem dL_arranges_181 : decode cL_arranges 181 = .ok (.invokestatic 59, 3) := by decide +kernel
theorem dL_arranges_184 : decode cL_arranges 184 = .ok (.ifCond .eq 33, 3) := by decide +kernel
theorem dL_arranges_187 : decode cL_arranges 187 = .ok (.aload_n 0, 1) := by decide +kernel
theorem dL_arranges_188 : decode cL_arranges 188 = .ok (.invokevirtual 49, 3) := by decide +kernel
theorem dL_arranges_191 : decode cL_arranges 191 = .ok (.ifCond .lt 26, 3) := by decide +kernel
theorem dL_arranges_194 : decode cL_arranges 194 = .ok (.aload_n 0, 1) := by decide +kernel
theorem dL_arranges_195 : decode cL_arranges 195 = .ok (.iconst 3, 1) := by decide +kernel
theorem dL_arranges_196 : decode cL_arranges 196 = .ok (.invokevirtual 9, 3) := by decide +kernel
theorem dL_arranges_199 : decode cL_arranges 199 = .ok (.iload_n 1, 1) := by decide +kernel
theorem dL_arranges_200 : decode cL_arranges 200 = .ok (.if_icmp .ne 17, 3) := by decide +kernel
theorem dL_arranges_203 : decode cL_arranges 203 = .ok (.aload_n 0, 1) := by decide +kernel
theorem dL_arranges_204 : decode cL_arranges 204 = .ok (.bipush 7, 2) := by decide +kernel
theorem dL_arranges_206 : decode cL_arranges 206 = .ok (.invokevirtual 9, 3) := by decide +kernel
theorem dL_arranges_209 : decode cL_arranges 209 = .ok (.iload_n 3, 1) := by decide +kernel
theorem dL_arranges_210 : decode cL_arranges 210 = .ok (.if_icmp .ne 7, 3) := by decide +kernel
theorem dL_arranges_213 : decode cL_arranges 213 = .ok (.iconst 1, 1) := by decide +kernel
theorem dL_arranges_214 : decode cL_arranges 214 = .ok (.goto 4, 3) := by decide +kernel
theorem dL_arranges_217 : decode cL_arranges 217 = .ok (.iconst 0, 1) := by decide +kernel
theorem dL_arranges_218 : decode cL_arranges 218 = .ok (.ireturn, 1) := by decide +kernel
