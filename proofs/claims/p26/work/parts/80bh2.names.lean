set_option maxRecDepth 100000 in
theorem ggL_refuses_X7_count_h : GoodIn wsL_refuses [.code yX7_count cX7_count 2 (some .int)] := goodIn_r _ [5] rfl (by decide +kernel)
set_option maxRecDepth 100000 in
theorem ggL_refuses_X7_count_r1 : GoodIn wsL_refuses wsX7_count_r1 := goodIn_r _ [6, 7, 8, 9, 10, 11, 12, 13, 14, 15, 16, 17, 18, 19, 20, 21, 22, 23, 24, 25, 26, 27, 28, 29] rfl (by decide +kernel)
set_option maxRecDepth 100000 in
theorem ggL_refuses_X7_count_r2 : GoodIn wsL_refuses wsX7_count_r2 := goodIn_r _ [30, 31, 32, 4, 33, 34, 35, 36, 37, 38, 39, 40, 41, 42, 43, 44, 45, 46, 47, 48, 49, 50, 51, 52] rfl (by decide +kernel)
set_option maxRecDepth 100000 in
theorem ggL_refuses_X7_count_r3 : GoodIn wsL_refuses wsX7_count_r3 := goodIn_r _ [53, 54, 55, 56, 57, 58, 59, 60, 61, 62, 63, 64, 65, 66, 67, 68, 69, 70, 71, 72, 73, 74, 75, 76] rfl (by decide +kernel)
set_option maxRecDepth 100000 in
theorem ggL_refuses_X7_count_r4 : GoodIn wsL_refuses wsX7_count_r4 := goodIn_r _ [77, 78, 79, 80, 81, 82, 83, 84, 85, 86, 87, 88, 89, 90, 91, 92, 93, 94, 95, 96, 97, 98, 99, 100] rfl (by decide +kernel)
set_option maxRecDepth 100000 in
theorem ggL_refuses_X7_count_r5 : GoodIn wsL_refuses wsX7_count_r5 := goodIn_r _ [101, 102, 103, 104, 105, 106, 107, 108, 109, 110, 111, 112, 113, 114, 115, 116, 117, 118, 119, 120, 121, 122, 123, 124] rfl (by decide +kernel)
set_option maxRecDepth 100000 in
theorem ggL_refuses_X7_count_r6 : GoodIn wsL_refuses wsX7_count_r6 := goodIn_r _ [125, 126, 127] rfl (by decide +kernel)
set_option maxRecDepth 100000 in
theorem ggL_refuses_X7_count_X70 : GoodIn wsL_refuses wsX70 := goodIn_r _ [380, 381, 382, 383, 384, 385, 386, 387] rfl (by decide +kernel)
set_option maxRecDepth 100000 in
theorem ggL_refuses_X7_count_X50 : GoodIn wsL_refuses wsX50 := goodIn_r _ [388, 389, 390, 391] rfl (by decide +kernel)
set_option maxRecDepth 100000 in
theorem ggL_refuses_X7_count_X10 : GoodIn wsL_refuses wsX10 := goodIn_r _ [392, 393, 394, 395, 396, 397] rfl (by decide +kernel)
set_option maxRecDepth 100000 in
theorem ggL_refuses_X7_count_X00 : GoodIn wsL_refuses wsX00 := goodIn_r _ [398, 399, 400] rfl (by decide +kernel)
set_option maxRecDepth 100000 in
theorem ggL_refuses_X7_count_X60 : GoodIn wsL_refuses wsX60 := goodIn_r _ [401, 402] rfl (by decide +kernel)
set_option maxRecDepth 100000 in
theorem ggL_refuses_X7_count : GoodIn wsL_refuses wsX7_count := goodIn_app ggL_refuses_X7_count_h (goodIn_app (goodIn_app (goodIn_app (goodIn_app (goodIn_app (goodIn_app ggL_refuses_X7_count_r1 (goodIn_app ggL_refuses_X7_count_r2 (goodIn_app ggL_refuses_X7_count_r3 (goodIn_app ggL_refuses_X7_count_r4 (goodIn_app ggL_refuses_X7_count_r5 ggL_refuses_X7_count_r6))))) ggL_refuses_X7_count_X70) ggL_refuses_X7_count_X50) ggL_refuses_X7_count_X10) ggL_refuses_X7_count_X00) ggL_refuses_X7_count_X60)
set_option maxRecDepth 100000 in
theorem gL_refuses_X7_count : GoodIn wsL_refuses (wsV RL 9 RX7 yX7_count wsX7_count) := goodIn_app (goodIn_of _ (by decide +kernel)) ggL_refuses_X7_count
set_option maxRecDepth 100000 in
theorem ggL_refuses_X7_setPage_h : GoodIn wsL_refuses [.code yX7_setPage cX7_setPage 3 (some .int)] := goodIn_r _ [131] rfl (by decide +kernel)
set_option maxRecDepth 100000 in
theorem ggL_refuses_X7_setPage_r1 : GoodIn wsL_refuses wsX7_setPage_r1 := goodIn_r _ [8, 7, 6, 132, 133, 4, 134, 135, 136, 137, 119, 138, 121, 139, 140, 141, 142, 143, 144, 145, 146, 147, 24, 148] rfl (by decide +kernel)
set_option maxRecDepth 100000 in
theorem ggL_refuses_X7_setPage_r2 : GoodIn wsL_refuses wsX7_setPage_r2 := goodIn_r _ [44, 149, 150, 151, 152, 31, 49, 54, 26, 115, 153, 154, 155, 156, 10, 11, 12, 13, 14, 15, 16, 17, 18, 19] rfl (by decide +kernel)
set_option maxRecDepth 100000 in
theorem ggL_refuses_X7_setPage_r3 : GoodIn wsL_refuses wsX7_setPage_r3 := goodIn_r _ [20, 21, 22, 23, 25, 27, 28, 29, 30, 32, 33, 34, 35, 36, 37, 38, 39, 40, 41, 42, 43, 45, 46, 47] rfl (by decide +kernel)
set_option maxRecDepth 100000 in
theorem ggL_refuses_X7_setPage_r4 : GoodIn wsL_refuses wsX7_setPage_r4 := goodIn_r _ [48, 50, 51, 52, 53, 55, 56, 57, 58, 59, 60, 61, 62, 63, 73, 74, 75, 76, 77, 78, 79, 80] rfl (by decide +kernel)
set_option maxRecDepth 100000 in
theorem ggL_refuses_X7_setPage_X70 : GoodIn wsL_refuses wsX70 := goodIn_r _ [380, 381, 382, 383, 384, 385, 386, 387] rfl (by decide +kernel)
set_option maxRecDepth 100000 in
theorem ggL_refuses_X7_setPage_X00 : GoodIn wsL_refuses wsX00 := goodIn_r _ [398, 399, 400] rfl (by decide +kernel)
set_option maxRecDepth 100000 in
theorem ggL_refuses_X7_setPage_X10 : GoodIn wsL_refuses wsX10 := goodIn_r _ [392, 393, 394, 395, 396, 397] rfl (by decide +kernel)
set_option maxRecDepth 100000 in
theorem ggL_refuses_X7_setPage_X50 : GoodIn wsL_refuses wsX50 := goodIn_r _ [388, 389, 390, 391] rfl (by decide +kernel)
set_option maxRecDepth 100000 in
theorem ggL_refuses_X7_setPage : GoodIn wsL_refuses wsX7_setPage := goodIn_app ggL_refuses_X7_setPage_h (goodIn_app (goodIn_app (goodIn_app (goodIn_app (goodIn_app ggL_refuses_X7_setPage_r1 (goodIn_app ggL_refuses_X7_setPage_r2 (goodIn_app ggL_refuses_X7_setPage_r3 ggL_refuses_X7_setPage_r4))) ggL_refuses_X7_setPage_X70) ggL_refuses_X7_setPage_X00) ggL_refuses_X7_setPage_X10) ggL_refuses_X7_setPage_X50)
set_option maxRecDepth 100000 in
theorem gL_refuses_X7_setPage : GoodIn wsL_refuses (wsV RL 63 RX7 yX7_setPage wsX7_setPage) := goodIn_app (goodIn_of _ (by decide +kernel)) ggL_refuses_X7_setPage
set_option maxRecDepth 100000 in
theorem ggL_refuses_X7_addPiece : GoodIn wsL_refuses wsX7_addPiece := goodIn_r _ [160, 7, 8, 161, 162, 4, 163, 164, 165, 166, 32, 33, 132, 133, 134, 167, 168, 169, 24, 170, 26, 135, 136, 137, 119, 138, 121, 139, 140, 141, 142, 143, 144, 145, 146, 147, 148, 44, 149, 150, 151, 152, 31, 49, 54, 115, 171, 172, 173, 174, 175, 176, 177, 178, 55, 56, 179, 380, 381, 382, 383, 384, 385, 386, 387, 392, 393, 394, 395, 396, 397, 398, 399, 400] rfl (by decide +kernel)
set_option maxRecDepth 100000 in
theorem gL_refuses_X7_addPiece : GoodIn wsL_refuses (wsV RL 66 RX7 yX7_addPiece wsX7_addPiece) := goodIn_app (goodIn_of _ (by decide +kernel)) ggL_refuses_X7_addPiece
set_option maxRecDepth 100000 in
theorem ggL_refuses_X7_removePiece : GoodIn wsL_refuses wsX7_removePiece := goodIn_r _ [183, 7, 8, 184, 185, 186, 24, 187, 26, 135, 136, 137, 119, 138, 121, 139, 140, 141, 142, 143, 144, 145, 146, 147, 148, 44, 149, 150, 151, 152, 31, 49, 54, 115, 188, 189, 190, 191, 192, 193, 194, 195, 196, 197, 198, 199, 32, 4, 33, 55, 56, 64, 22, 23, 25, 380, 381, 382, 383, 384, 385, 386, 387, 392, 393, 394, 395, 396, 397, 398, 399, 400] rfl (by decide +kernel)
set_option maxRecDepth 100000 in
theorem gL_refuses_X7_removePiece : GoodIn wsL_refuses (wsV RL 70 RX7 yX7_removePiece wsX7_removePiece) := goodIn_app (goodIn_of _ (by decide +kernel)) ggL_refuses_X7_removePiece
set_option maxRecDepth 100000 in
theorem ggL_refuses_X7_setShare : GoodIn wsL_refuses wsX7_setShare := goodIn_r _ [203, 204, 205, 206, 4, 207, 7, 8, 184, 185, 186, 24, 187, 26, 161, 162, 163, 164, 165, 166, 32, 33, 132, 133, 134, 135, 136, 137, 119, 138, 121, 139, 140, 141, 142, 143, 144, 145, 146, 147, 148, 44, 149, 150, 151, 152, 31, 49, 54, 115, 208, 41, 42, 43, 179, 176, 177, 178, 55, 56, 380, 381, 382, 383, 384, 385, 386, 387, 392, 393, 394, 395, 396, 397, 398, 399, 400] rfl (by decide +kernel)
set_option maxRecDepth 100000 in
theorem gL_refuses_X7_setShare : GoodIn wsL_refuses (wsV RL 73 RX7 yX7_setShare wsX7_setShare) := goodIn_app (goodIn_of _ (by decide +kernel)) ggL_refuses_X7_setShare
set_option maxRecDepth 100000 in
theorem ggL_refuses_X7_setFrame : GoodIn wsL_refuses wsX7_setFrame := goodIn_r _ [212, 204, 205, 206, 4, 207, 7, 8, 184, 185, 186, 24, 187, 26, 161, 162, 163, 164, 165, 166, 32, 33, 132, 133, 134, 135, 136, 137, 119, 138, 121, 139, 140, 141, 142, 143, 144, 145, 146, 147, 148, 44, 149, 150, 151, 152, 31, 49, 54, 115, 208, 41, 42, 43, 179, 176, 177, 178, 55, 56, 380, 381, 382, 383, 384, 385, 386, 387, 392, 393, 394, 395, 396, 397, 398, 399, 400] rfl (by decide +kernel)
set_option maxRecDepth 100000 in
theorem gL_refuses_X7_setFrame : GoodIn wsL_refuses (wsV RL 76 RX7 yX7_setFrame wsX7_setFrame) := goodIn_app (goodIn_of _ (by decide +kernel)) ggL_refuses_X7_setFrame
set_option maxRecDepth 100000 in
theorem ggL_refuses_X7_shift : GoodIn wsL_refuses wsX7_shift := goodIn_r _ [216, 7, 8, 184, 185, 186, 24, 187, 26, 132, 133, 4, 134, 217, 218, 219, 220, 221, 41, 42, 43, 44, 162, 163, 164, 165, 166, 32, 33, 135, 136, 137, 119, 138, 121, 139, 140, 141, 142, 143, 144, 145, 146, 147, 148, 149, 150, 151, 152, 31, 49, 54, 115, 222, 223, 224, 225, 226, 227, 95, 228, 175, 176, 177, 178, 55, 56, 380, 381, 382, 383, 384, 385, 386, 387, 392, 393, 394, 395, 396, 397, 398, 399, 400] rfl (by decide +kernel)
set_option maxRecDepth 100000 in
theorem gL_refuses_X7_shift : GoodIn wsL_refuses (wsV RL 46 RX7 yX7_shift wsX7_shift) := goodIn_app (goodIn_of _ (by decide +kernel)) ggL_refuses_X7_shift
set_option maxRecDepth 100000 in
theorem ggL_refuses_X7_setLayer : GoodIn wsL_refuses wsX7_setLayer := goodIn_r _ [232, 7, 8, 184, 185, 186, 24, 187, 26, 135, 136, 137, 119, 138, 121, 139, 140, 141, 142, 143, 144, 145, 146, 147, 148, 44, 149, 150, 151, 152, 31, 49, 54, 115, 233, 193, 194, 195, 196, 197, 198, 199, 32, 4, 33, 55, 56, 380, 381, 382, 383, 384, 385, 386, 387, 392, 393, 394, 395, 396, 397, 398, 399, 400] rfl (by decide +kernel)
set_option maxRecDepth 100000 in
theorem gL_refuses_X7_setLayer : GoodIn wsL_refuses (wsV RL 53 RX7 yX7_setLayer wsX7_setLayer) := goodIn_app (goodIn_of _ (by decide +kernel)) ggL_refuses_X7_setLayer
set_option maxRecDepth 100000 in
theorem ggL_refuses_X7_piece_h : GoodIn wsL_refuses [.code yX7_piece cX7_piece 3 (some .int)] := goodIn_r _ [237] rfl (by decide +kernel)
set_option maxRecDepth 100000 in
theorem ggL_refuses_X7_piece_r1 : GoodIn wsL_refuses wsX7_piece_r1 := goodIn_r _ [7, 6, 238, 184, 185, 186, 24, 187, 26, 132, 133, 4, 134, 208, 41, 42, 43, 44, 10, 11, 12, 13, 14, 15] rfl (by decide +kernel)
set_option maxRecDepth 100000 in
theorem ggL_refuses_X7_piece_r2 : GoodIn wsL_refuses wsX7_piece_r2 := goodIn_r _ [16, 17, 18, 19, 20, 21, 22, 23, 25, 27, 28, 29, 30, 31, 32, 33, 34, 35, 36, 37, 38, 39, 40, 45] rfl (by decide +kernel)
set_option maxRecDepth 100000 in
theorem ggL_refuses_X7_piece_r3 : GoodIn wsL_refuses wsX7_piece_r3 := goodIn_r _ [46, 47, 48, 49, 50, 51, 52, 53, 54, 55, 56, 57, 58, 59, 60, 61, 62, 63, 239, 197, 198, 199, 240, 241] rfl (by decide +kernel)
set_option maxRecDepth 100000 in
theorem ggL_refuses_X7_piece_r4 : GoodIn wsL_refuses wsX7_piece_r4 := goodIn_r _ [242, 243, 244, 78, 79, 80, 245, 246, 247, 248, 249, 250, 251, 252, 253, 254, 255, 95, 256, 257, 102, 103, 104, 105] rfl (by decide +kernel)
set_option maxRecDepth 100000 in
theorem ggL_refuses_X7_piece_r5 : GoodIn wsL_refuses wsX7_piece_r5 := goodIn_r _ [66, 67, 68, 258, 259, 260, 261, 262, 263, 264, 265, 266, 267, 268, 269, 270, 271, 272, 273, 274, 275, 276, 277, 90] rfl (by decide +kernel)
set_option maxRecDepth 100000 in
theorem ggL_refuses_X7_piece_r6 : GoodIn wsL_refuses wsX7_piece_r6 := goodIn_r _ [91, 92, 93, 94, 96, 97, 98, 99, 100, 101, 278, 279, 280, 281, 282, 283, 284, 285, 221, 286, 287, 288, 289, 290] rfl (by decide +kernel)
set_option maxRecDepth 100000 in
theorem ggL_refuses_X7_piece_r7 : GoodIn wsL_refuses wsX7_piece_r7 := goodIn_r _ [291, 292] rfl (by decide +kernel)
set_option maxRecDepth 100000 in
theorem ggL_refuses_X7_piece_X70 : GoodIn wsL_refuses wsX70 := goodIn_r _ [380, 381, 382, 383, 384, 385, 386, 387] rfl (by decide +kernel)
set_option maxRecDepth 100000 in
theorem ggL_refuses_X7_piece_X10 : GoodIn wsL_refuses wsX10 := goodIn_r _ [392, 393, 394, 395, 396, 397] rfl (by decide +kernel)
set_option maxRecDepth 100000 in
theorem ggL_refuses_X7_piece_X50 : GoodIn wsL_refuses wsX50 := goodIn_r _ [388, 389, 390, 391] rfl (by decide +kernel)
set_option maxRecDepth 100000 in
theorem ggL_refuses_X7_piece_X20 : GoodIn wsL_refuses wsX20 := goodIn_r _ [403, 404, 405, 406, 407] rfl (by decide +kernel)
set_option maxRecDepth 100000 in
theorem ggL_refuses_X7_piece : GoodIn wsL_refuses wsX7_piece := goodIn_app ggL_refuses_X7_piece_h (goodIn_app (goodIn_app (goodIn_app (goodIn_app (goodIn_app ggL_refuses_X7_piece_r1 (goodIn_app ggL_refuses_X7_piece_r2 (goodIn_app ggL_refuses_X7_piece_r3 (goodIn_app ggL_refuses_X7_piece_r4 (goodIn_app ggL_refuses_X7_piece_r5 (goodIn_app ggL_refuses_X7_piece_r6 ggL_refuses_X7_piece_r7)))))) ggL_refuses_X7_piece_X70) ggL_refuses_X7_piece_X10) ggL_refuses_X7_piece_X50) ggL_refuses_X7_piece_X20)
set_option maxRecDepth 100000 in
theorem gL_refuses_X7_piece : GoodIn wsL_refuses (wsV RL 15 RX7 yX7_piece wsX7_piece) := goodIn_app (goodIn_of _ (by decide +kernel)) ggL_refuses_X7_piece
set_option maxRecDepth 100000 in
theorem ggL_refuses_X7_edge : GoodIn wsL_refuses wsX7_edge := goodIn_r _ [296, 7, 6, 184, 185, 186, 24, 187, 26, 10, 11, 12, 13, 14, 15, 16, 17, 18, 19, 20, 21, 22, 23, 25, 27, 28, 29, 30, 31, 32, 4, 33, 34, 35, 36, 37, 38, 39, 40, 41, 42, 43, 44, 45, 46, 47, 48, 49, 50, 51, 52, 53, 54, 55, 56, 57, 58, 59, 60, 61, 62, 63, 297, 298, 299, 300, 105, 66, 67, 68, 101, 102, 103, 104, 110, 70, 71, 72, 301, 302, 303, 304, 380, 381, 382, 383, 384, 385, 386, 387, 392, 393, 394, 395, 396, 397, 388, 389, 390, 391] rfl (by decide +kernel)
set_option maxRecDepth 100000 in
theorem gL_refuses_X7_edge : GoodIn wsL_refuses (wsV RL 19 RX7 yX7_edge wsX7_edge) := goodIn_app (goodIn_of _ (by decide +kernel)) ggL_refuses_X7_edge
set_option maxRecDepth 100000 in
theorem ggL_refuses_X7_hides_h : GoodIn wsL_refuses [.code yX7_hides cX7_hides 3 (some .int)] := goodIn_r _ [308] rfl (by decide +kernel)
set_option maxRecDepth 100000 in
theorem ggL_refuses_X7_hides_r1 : GoodIn wsL_refuses wsX7_hides_r1 := goodIn_r _ [7, 6, 184, 185, 186, 24, 187, 26, 10, 11, 12, 13, 14, 15, 16, 17, 18, 19, 20, 21, 22, 23, 25, 27] rfl (by decide +kernel)
set_option maxRecDepth 100000 in
theorem ggL_refuses_X7_hides_r2 : GoodIn wsL_refuses wsX7_hides_r2 := goodIn_r _ [28, 29, 30, 31, 32, 4, 33, 34, 35, 36, 37, 38, 39, 40, 41, 42, 43, 44, 45, 46, 47, 48, 49, 50] rfl (by decide +kernel)
set_option maxRecDepth 100000 in
theorem ggL_refuses_X7_hides_r3 : GoodIn wsL_refuses wsX7_hides_r3 := goodIn_r _ [51, 52, 53, 54, 55, 56, 57, 58, 59, 60, 61, 62, 63, 309, 310, 311, 312, 110, 70, 71, 72, 101, 102, 103] rfl (by decide +kernel)
set_option maxRecDepth 100000 in
theorem ggL_refuses_X7_hides_r4 : GoodIn wsL_refuses wsX7_hides_r4 := goodIn_r _ [104, 105, 66, 67, 68, 313, 283, 284, 285, 221, 286, 287] rfl (by decide +kernel)
set_option maxRecDepth 100000 in
theorem ggL_refuses_X7_hides_X70 : GoodIn wsL_refuses wsX70 := goodIn_r _ [380, 381, 382, 383, 384, 385, 386, 387] rfl (by decide +kernel)
set_option maxRecDepth 100000 in
theorem ggL_refuses_X7_hides_X10 : GoodIn wsL_refuses wsX10 := goodIn_r _ [392, 393, 394, 395, 396, 397] rfl (by decide +kernel)
set_option maxRecDepth 100000 in
theorem ggL_refuses_X7_hides_X50 : GoodIn wsL_refuses wsX50 := goodIn_r _ [388, 389, 390, 391] rfl (by decide +kernel)
set_option maxRecDepth 100000 in
theorem ggL_refuses_X7_hides : GoodIn wsL_refuses wsX7_hides := goodIn_app ggL_refuses_X7_hides_h (goodIn_app (goodIn_app (goodIn_app (goodIn_app ggL_refuses_X7_hides_r1 (goodIn_app ggL_refuses_X7_hides_r2 (goodIn_app ggL_refuses_X7_hides_r3 ggL_refuses_X7_hides_r4))) ggL_refuses_X7_hides_X70) ggL_refuses_X7_hides_X10) ggL_refuses_X7_hides_X50)
set_option maxRecDepth 100000 in
theorem gL_refuses_X7_hides : GoodIn wsL_refuses (wsV RL 22 RX7 yX7_hides wsX7_hides) := goodIn_app (goodIn_of _ (by decide +kernel)) ggL_refuses_X7_hides
set_option maxRecDepth 100000 in
theorem ggL_refuses_X7_leastShift_h : GoodIn wsL_refuses [.code yX7_leastShift cX7_leastShift 4 (some .int)] := goodIn_r _ [317] rfl (by decide +kernel)
set_option maxRecDepth 100000 in
theorem ggL_refuses_X7_leastShift_r1 : GoodIn wsL_refuses wsX7_leastShift_r1 := goodIn_r _ [7, 318, 184, 185, 186, 24, 187, 26, 132, 133, 4, 134, 319, 320, 321, 322, 323, 324, 325, 326, 227, 95, 228, 327] rfl (by decide +kernel)
set_option maxRecDepth 100000 in
theorem ggL_refuses_X7_leastShift_r2 : GoodIn wsL_refuses wsX7_leastShift_r2 := goodIn_r _ [146, 147, 148, 44, 149, 150, 151, 152, 31, 49, 54, 115, 328, 329, 330, 331, 332, 333, 11, 12, 13, 14, 15, 16] rfl (by decide +kernel)
set_option maxRecDepth 100000 in
theorem ggL_refuses_X7_leastShift_r3 : GoodIn wsL_refuses wsX7_leastShift_r3 := goodIn_r _ [17, 18, 19, 20, 21, 22, 23, 25, 27, 28, 29, 30, 32, 33, 34, 35, 36, 37, 38, 39, 40, 41, 42, 43] rfl (by decide +kernel)
set_option maxRecDepth 100000 in
theorem ggL_refuses_X7_leastShift_r4 : GoodIn wsL_refuses wsX7_leastShift_r4 := goodIn_r _ [45, 46, 47, 48, 50, 51, 52, 53, 55, 56, 57, 58, 59, 60, 61, 62, 63, 334, 74, 75, 76, 77, 78, 79] rfl (by decide +kernel)
set_option maxRecDepth 100000 in
theorem ggL_refuses_X7_leastShift_r5 : GoodIn wsL_refuses wsX7_leastShift_r5 := goodIn_r _ [80, 335, 336, 337, 338, 339, 340, 341, 342, 218, 219, 220, 221, 162, 163, 164, 165, 166, 343, 344, 176, 177, 178, 345] rfl (by decide +kernel)
set_option maxRecDepth 100000 in
theorem ggL_refuses_X7_leastShift_r6 : GoodIn wsL_refuses wsX7_leastShift_r6 := goodIn_r _ [346, 347, 348, 349, 350, 351, 352, 353, 354, 355, 356, 357] rfl (by decide +kernel)
set_option maxRecDepth 100000 in
theorem ggL_refuses_X7_leastShift_X70 : GoodIn wsL_refuses wsX70 := goodIn_r _ [380, 381, 382, 383, 384, 385, 386, 387] rfl (by decide +kernel)
set_option maxRecDepth 100000 in
theorem ggL_refuses_X7_leastShift_X10 : GoodIn wsL_refuses wsX10 := goodIn_r _ [392, 393, 394, 395, 396, 397] rfl (by decide +kernel)
set_option maxRecDepth 100000 in
theorem ggL_refuses_X7_leastShift_X30 : GoodIn wsL_refuses wsX30 := goodIn_r _ [408, 409, 410, 411, 412] rfl (by decide +kernel)
set_option maxRecDepth 100000 in
theorem ggL_refuses_X7_leastShift_X50 : GoodIn wsL_refuses wsX50 := goodIn_r _ [388, 389, 390, 391] rfl (by decide +kernel)
set_option maxRecDepth 100000 in
theorem ggL_refuses_X7_leastShift : GoodIn wsL_refuses wsX7_leastShift := goodIn_app ggL_refuses_X7_leastShift_h (goodIn_app (goodIn_app (goodIn_app (goodIn_app (goodIn_app ggL_refuses_X7_leastShift_r1 (goodIn_app ggL_refuses_X7_leastShift_r2 (goodIn_app ggL_refuses_X7_leastShift_r3 (goodIn_app ggL_refuses_X7_leastShift_r4 (goodIn_app ggL_refuses_X7_leastShift_r5 ggL_refuses_X7_leastShift_r6))))) ggL_refuses_X7_leastShift_X70) ggL_refuses_X7_leastShift_X10) ggL_refuses_X7_leastShift_X30) ggL_refuses_X7_leastShift_X50)
set_option maxRecDepth 100000 in
theorem gL_refuses_X7_leastShift : GoodIn wsL_refuses (wsV RL 43 RX7 yX7_leastShift wsX7_leastShift) := goodIn_app (goodIn_of _ (by decide +kernel)) ggL_refuses_X7_leastShift
set_option maxRecDepth 100000 in
theorem ggL_refuses_X7_layerFor_h : GoodIn wsL_refuses [.code yX7_layerFor cX7_layerFor 2 (some .int)] := goodIn_r _ [361] rfl (by decide +kernel)
set_option maxRecDepth 100000 in
theorem ggL_refuses_X7_layerFor_r1 : GoodIn wsL_refuses wsX7_layerFor_r1 := goodIn_r _ [7, 318, 184, 185, 186, 24, 187, 26, 362, 363, 364, 322, 365, 324, 325, 332, 327, 146, 147, 148, 44, 149, 150, 151] rfl (by decide +kernel)
