set_option maxRecDepth 100000 in
theorem ggL_law_X7_setPage_h : GoodIn wsL_law [.code yX7_setPage cX7_setPage 3 (some .int)] := goodIn_r _ [216] rfl (by decide +kernel)
set_option maxRecDepth 100000 in
theorem ggL_law_X7_setPage_r1 : GoodIn wsL_law wsX7_setPage_r1 := goodIn_r _ [32, 18, 20, 217, 218, 2, 219, 220, 221, 222, 31, 223, 92, 91, 224, 225, 226, 227, 90, 228, 229, 230, 11, 231] rfl (by decide +kernel)
set_option maxRecDepth 100000 in
theorem ggL_law_X7_setPage_r2 : GoodIn wsL_law wsX7_setPage_r2 := goodIn_r _ [43, 232, 233, 234, 235, 44, 45, 46, 47, 48, 236, 237, 238, 239, 111, 112, 113, 14, 114, 55, 53, 115, 116, 117] rfl (by decide +kernel)
set_option maxRecDepth 100000 in
theorem ggL_law_X7_setPage_r3 : GoodIn wsL_law wsX7_setPage_r3 := goodIn_r _ [118, 119, 120, 121, 122, 123, 124, 125, 126, 127, 128, 129, 130, 131, 132, 54, 56, 133, 134, 135, 136, 137, 138, 139] rfl (by decide +kernel)
set_option maxRecDepth 100000 in
theorem ggL_law_X7_setPage_r4 : GoodIn wsL_law wsX7_setPage_r4 := goodIn_r _ [140, 141, 142, 143, 144, 145, 146, 147, 148, 149, 150, 151, 152, 153, 163, 164, 165, 166, 167, 168, 169, 170] rfl (by decide +kernel)
set_option maxRecDepth 100000 in
theorem ggL_law_X7_setPage_X70 : GoodIn wsL_law wsX70 := goodIn_r _ [531, 532, 533, 534, 535, 536, 537, 538] rfl (by decide +kernel)
set_option maxRecDepth 100000 in
theorem ggL_law_X7_setPage_X00 : GoodIn wsL_law wsX00 := goodIn_r _ [561, 562, 563] rfl (by decide +kernel)
set_option maxRecDepth 100000 in
theorem ggL_law_X7_setPage_X10 : GoodIn wsL_law wsX10 := goodIn_r _ [539, 540, 541, 542, 543, 544] rfl (by decide +kernel)
set_option maxRecDepth 100000 in
theorem ggL_law_X7_setPage_X50 : GoodIn wsL_law wsX50 := goodIn_r _ [545, 546, 547, 548] rfl (by decide +kernel)
set_option maxRecDepth 100000 in
theorem ggL_law_X7_setPage : GoodIn wsL_law wsX7_setPage := goodIn_app ggL_law_X7_setPage_h (goodIn_app (goodIn_app (goodIn_app (goodIn_app (goodIn_app ggL_law_X7_setPage_r1 (goodIn_app ggL_law_X7_setPage_r2 (goodIn_app ggL_law_X7_setPage_r3 ggL_law_X7_setPage_r4))) ggL_law_X7_setPage_X70) ggL_law_X7_setPage_X00) ggL_law_X7_setPage_X10) ggL_law_X7_setPage_X50)
set_option maxRecDepth 100000 in
theorem gL_law_X7_setPage : GoodIn wsL_law (wsV RL 63 RX7 yX7_setPage wsX7_setPage) := goodIn_app (goodIn_of _ (by decide +kernel)) ggL_law_X7_setPage
set_option maxRecDepth 100000 in
theorem ggL_law_X7_removePiece : GoodIn wsL_law wsX7_removePiece := goodIn_r _ [266, 18, 32, 267, 268, 269, 11, 270, 47, 220, 221, 222, 31, 223, 92, 91, 224, 225, 226, 227, 90, 228, 229, 230, 231, 43, 232, 233, 234, 235, 44, 45, 46, 48, 271, 272, 273, 274, 275, 276, 277, 278, 279, 280, 281, 282, 127, 2, 128, 145, 146, 154, 120, 121, 122, 531, 532, 533, 534, 535, 536, 537, 538, 539, 540, 541, 542, 543, 544, 561, 562, 563] rfl (by decide +kernel)
set_option maxRecDepth 100000 in
theorem gL_law_X7_removePiece : GoodIn wsL_law (wsV RL 70 RX7 yX7_removePiece wsX7_removePiece) := goodIn_app (goodIn_of _ (by decide +kernel)) ggL_law_X7_removePiece
set_option maxRecDepth 100000 in
theorem ggL_law_X7_setShare : GoodIn wsL_law wsX7_setShare := goodIn_r _ [286, 287, 288, 289, 2, 290, 18, 32, 267, 268, 269, 11, 270, 47, 244, 245, 246, 247, 248, 249, 127, 128, 217, 218, 219, 220, 221, 222, 31, 223, 92, 91, 224, 225, 226, 227, 90, 228, 229, 230, 231, 43, 232, 233, 234, 235, 44, 45, 46, 48, 291, 134, 135, 136, 262, 259, 260, 261, 145, 146, 531, 532, 533, 534, 535, 536, 537, 538, 539, 540, 541, 542, 543, 544, 561, 562, 563] rfl (by decide +kernel)
set_option maxRecDepth 100000 in
theorem gL_law_X7_setShare : GoodIn wsL_law (wsV RL 73 RX7 yX7_setShare wsX7_setShare) := goodIn_app (goodIn_of _ (by decide +kernel)) ggL_law_X7_setShare
set_option maxRecDepth 100000 in
theorem ggL_law_X7_setFrame : GoodIn wsL_law wsX7_setFrame := goodIn_r _ [295, 287, 288, 289, 2, 290, 18, 32, 267, 268, 269, 11, 270, 47, 244, 245, 246, 247, 248, 249, 127, 128, 217, 218, 219, 220, 221, 222, 31, 223, 92, 91, 224, 225, 226, 227, 90, 228, 229, 230, 231, 43, 232, 233, 234, 235, 44, 45, 46, 48, 291, 134, 135, 136, 262, 259, 260, 261, 145, 146, 531, 532, 533, 534, 535, 536, 537, 538, 539, 540, 541, 542, 543, 544, 561, 562, 563] rfl (by decide +kernel)
set_option maxRecDepth 100000 in
theorem gL_law_X7_setFrame : GoodIn wsL_law (wsV RL 76 RX7 yX7_setFrame wsX7_setFrame) := goodIn_app (goodIn_of _ (by decide +kernel)) ggL_law_X7_setFrame
set_option maxRecDepth 100000 in
theorem ggL_law_X7_shift : GoodIn wsL_law wsX7_shift := goodIn_r _ [299, 18, 32, 267, 268, 269, 11, 270, 47, 217, 218, 2, 219, 300, 301, 302, 303, 304, 134, 135, 136, 43, 245, 246, 247, 248, 249, 127, 128, 220, 221, 222, 31, 223, 92, 91, 224, 225, 226, 227, 90, 228, 229, 230, 231, 232, 233, 234, 235, 44, 45, 46, 48, 305, 306, 307, 308, 309, 310, 185, 311, 258, 259, 260, 261, 145, 146, 531, 532, 533, 534, 535, 536, 537, 538, 539, 540, 541, 542, 543, 544, 561, 562, 563] rfl (by decide +kernel)
set_option maxRecDepth 100000 in
theorem gL_law_X7_shift : GoodIn wsL_law (wsV RL 46 RX7 yX7_shift wsX7_shift) := goodIn_app (goodIn_of _ (by decide +kernel)) ggL_law_X7_shift
set_option maxRecDepth 100000 in
theorem ggL_law_X7_inLayer : GoodIn wsL_law wsX7_inLayer := goodIn_r _ [462, 18, 267, 268, 269, 11, 270, 47, 463, 124, 125, 126, 44, 127, 2, 128, 531, 532, 533, 534, 535, 536, 537, 538, 539, 540, 541, 542, 543, 544] rfl (by decide +kernel)
set_option maxRecDepth 100000 in
theorem gL_law_X7_inLayer : GoodIn wsL_law (wsV RL 25 RX7 yX7_inLayer wsX7_inLayer) := goodIn_app (goodIn_of _ (by decide +kernel)) ggL_law_X7_inLayer
set_option maxRecDepth 100000 in
theorem ggL_law_X7_setLayer : GoodIn wsL_law wsX7_setLayer := goodIn_r _ [315, 18, 32, 267, 268, 269, 11, 270, 47, 220, 221, 222, 31, 223, 92, 91, 224, 225, 226, 227, 90, 228, 229, 230, 231, 43, 232, 233, 234, 235, 44, 45, 46, 48, 316, 276, 277, 278, 279, 280, 281, 282, 127, 2, 128, 145, 146, 531, 532, 533, 534, 535, 536, 537, 538, 539, 540, 541, 542, 543, 544, 561, 562, 563] rfl (by decide +kernel)
set_option maxRecDepth 100000 in
theorem gL_law_X7_setLayer : GoodIn wsL_law (wsV RL 53 RX7 yX7_setLayer wsX7_setLayer) := goodIn_app (goodIn_of _ (by decide +kernel)) ggL_law_X7_setLayer
set_option maxRecDepth 100000 in
theorem ggL_law_L_shares_h : GoodIn wsL_law [.code yL_shares cL_shares 8 (some .boolean)] := goodIn_r _ [502] rfl (by decide +kernel)
set_option maxRecDepth 100000 in
theorem ggL_law_L_shares_r1 : GoodIn wsL_law wsL_shares_r1 := goodIn_r _ [107, 108, 109, 2, 110, 20, 18, 32, 33, 111, 112, 113, 14, 114, 55, 53, 115, 116, 117, 118, 119, 120, 121, 11] rfl (by decide +kernel)
set_option maxRecDepth 100000 in
theorem ggL_law_L_shares_r2 : GoodIn wsL_law wsL_shares_r2 := goodIn_r _ [122, 47, 123, 124, 125, 126, 44, 127, 128, 129, 130, 131, 132, 54, 56, 133, 134, 135, 136, 43, 137, 138, 139, 140] rfl (by decide +kernel)
set_option maxRecDepth 100000 in
theorem ggL_law_L_shares_r3 : GoodIn wsL_law wsL_shares_r3 := goodIn_r _ [45, 141, 142, 143, 144, 46, 145, 146, 147, 148, 149, 150, 151, 152, 153, 154, 155, 156, 157, 158, 159, 160, 161, 162] rfl (by decide +kernel)
set_option maxRecDepth 100000 in
theorem ggL_law_L_shares_r4 : GoodIn wsL_law wsL_shares_r4 := goodIn_r _ [163, 164, 165, 166, 167, 168, 169, 170, 171, 172, 173, 174, 175, 176, 177, 178, 179, 180, 181, 182, 183, 184, 185, 186] rfl (by decide +kernel)
set_option maxRecDepth 100000 in
theorem ggL_law_L_shares_r5 : GoodIn wsL_law wsL_shares_r5 := goodIn_r _ [187, 188, 189, 190, 191, 192, 193, 194, 195, 196, 197, 198, 199, 200, 201, 202, 203, 204, 48, 205, 206, 207, 31, 208] rfl (by decide +kernel)
set_option maxRecDepth 100000 in
theorem ggL_law_L_shares_r6 : GoodIn wsL_law wsL_shares_r6 := goodIn_r _ [92, 209, 210, 211, 17, 212, 62, 503, 504, 505, 506, 507, 508, 509, 510, 511, 512, 513, 514, 515, 366, 367, 368, 304] rfl (by decide +kernel)
set_option maxRecDepth 100000 in
theorem ggL_law_L_shares_r7 : GoodIn wsL_law wsL_shares_r7 := goodIn_r _ [516, 280, 281, 282, 317, 318, 319, 320, 24, 267, 268, 269, 270, 217, 218, 219, 291, 321, 322, 323, 324, 325, 326, 327] rfl (by decide +kernel)
set_option maxRecDepth 100000 in
theorem ggL_law_L_shares_r8 : GoodIn wsL_law wsL_shares_r8 := goodIn_r _ [328, 329, 23, 330, 70, 71, 68, 67, 331, 332, 333, 334, 335, 336, 337, 338, 69, 339, 340, 341, 342, 343, 344, 345] rfl (by decide +kernel)
set_option maxRecDepth 100000 in
theorem ggL_law_L_shares_r9 : GoodIn wsL_law wsL_shares_r9 := goodIn_r _ [346, 347, 348, 349, 350, 351, 352, 353, 354, 355, 356, 357, 358, 359, 360, 361, 362, 363, 364, 365] rfl (by decide +kernel)
set_option maxRecDepth 100000 in
theorem ggL_law_L_shares_X70 : GoodIn wsL_law wsX70 := goodIn_r _ [531, 532, 533, 534, 535, 536, 537, 538] rfl (by decide +kernel)
set_option maxRecDepth 100000 in
theorem ggL_law_L_shares_X50 : GoodIn wsL_law wsX50 := goodIn_r _ [545, 546, 547, 548] rfl (by decide +kernel)
set_option maxRecDepth 100000 in
theorem ggL_law_L_shares_X10 : GoodIn wsL_law wsX10 := goodIn_r _ [539, 540, 541, 542, 543, 544] rfl (by decide +kernel)
set_option maxRecDepth 100000 in
theorem ggL_law_L_shares_X00 : GoodIn wsL_law wsX00 := goodIn_r _ [561, 562, 563] rfl (by decide +kernel)
set_option maxRecDepth 100000 in
theorem ggL_law_L_shares_X60 : GoodIn wsL_law wsX60 := goodIn_r _ [549, 550] rfl (by decide +kernel)
set_option maxRecDepth 100000 in
theorem ggL_law_L_shares_X20 : GoodIn wsL_law wsX20 := goodIn_r _ [551, 552, 553, 554, 555] rfl (by decide +kernel)
set_option maxRecDepth 100000 in
theorem ggL_law_L_shares : GoodIn wsL_law wsL_shares := goodIn_app ggL_law_L_shares_h (goodIn_app (goodIn_app (goodIn_app (goodIn_app (goodIn_app (goodIn_app (goodIn_app ggL_law_L_shares_r1 (goodIn_app ggL_law_L_shares_r2 (goodIn_app ggL_law_L_shares_r3 (goodIn_app ggL_law_L_shares_r4 (goodIn_app ggL_law_L_shares_r5 (goodIn_app ggL_law_L_shares_r6 (goodIn_app ggL_law_L_shares_r7 (goodIn_app ggL_law_L_shares_r8 ggL_law_L_shares_r9)))))))) ggL_law_L_shares_X70) ggL_law_L_shares_X50) ggL_law_L_shares_X10) ggL_law_L_shares_X00) ggL_law_L_shares_X60) ggL_law_L_shares_X20)
set_option maxRecDepth 100000 in
theorem gL_law_L_shares : GoodIn wsL_law (va_wsS RL 99 yL_shares wsL_shares) := goodIn_app (goodIn_of _ (by decide +kernel)) ggL_law_L_shares
set_option maxRecDepth 100000 in
theorem ggL_law_L_plans_h : GoodIn wsL_law [.code yL_plans cL_plans 12 (some .boolean)] := goodIn_r _ [519] rfl (by decide +kernel)
set_option maxRecDepth 100000 in
theorem ggL_law_L_plans_r1 : GoodIn wsL_law wsL_plans_r1 := goodIn_r _ [427, 428, 429, 2, 430, 18, 28, 267, 268, 269, 11, 270, 47, 431, 432, 433, 27, 434, 78, 77, 80, 399, 229, 230] rfl (by decide +kernel)
set_option maxRecDepth 100000 in
theorem ggL_law_L_plans_r2 : GoodIn wsL_law wsL_plans_r2 := goodIn_r _ [231, 43, 232, 233, 234, 235, 44, 45, 46, 48, 406, 120, 121, 122, 435, 276, 277, 278, 279, 280, 281, 282, 127, 128] rfl (by decide +kernel)
set_option maxRecDepth 100000 in
theorem ggL_law_L_plans_r3 : GoodIn wsL_law wsL_plans_r3 := goodIn_r _ [145, 146, 404, 112, 113, 14, 114, 55, 53, 115, 116, 117, 118, 119, 123, 124, 125, 126, 129, 130, 131, 132, 54, 56] rfl (by decide +kernel)
set_option maxRecDepth 100000 in
theorem ggL_law_L_plans_r4 : GoodIn wsL_law wsL_plans_r4 := goodIn_r _ [133, 134, 135, 136, 137, 138, 139, 140, 141, 142, 143, 144, 147, 148, 149, 150, 151, 152, 153, 414, 168, 169, 170, 317] rfl (by decide +kernel)
set_option maxRecDepth 100000 in
theorem ggL_law_L_plans_r5 : GoodIn wsL_law wsL_plans_r5 := goodIn_r _ [318, 319, 320, 20, 24, 217, 218, 219, 291, 111, 321, 322, 323, 324, 325, 326, 327, 328, 329, 23, 330, 70, 71, 68] rfl (by decide +kernel)
set_option maxRecDepth 100000 in
theorem ggL_law_L_plans_r6 : GoodIn wsL_law wsL_plans_r6 := goodIn_r _ [67, 331, 332, 185, 333, 334, 192, 193, 194, 195, 156, 157, 158, 335, 336, 337, 338, 69, 339, 340, 341, 342, 343, 344] rfl (by decide +kernel)
set_option maxRecDepth 100000 in
theorem ggL_law_L_plans_r7 : GoodIn wsL_law wsL_plans_r7 := goodIn_r _ [345, 346, 347, 348, 349, 350, 351, 352, 353, 180, 181, 182, 183, 184, 186, 187, 188, 189, 190, 191, 354, 355, 356, 357] rfl (by decide +kernel)
set_option maxRecDepth 100000 in
theorem ggL_law_L_plans_r8 : GoodIn wsL_law wsL_plans_r8 := goodIn_r _ [358, 359, 360, 361, 304, 362, 363, 364, 365, 366, 367, 368, 107, 108, 109, 110, 32, 33, 154, 155, 159, 160, 161, 162] rfl (by decide +kernel)
set_option maxRecDepth 100000 in
theorem ggL_law_L_plans_r9 : GoodIn wsL_law wsL_plans_r9 := goodIn_r _ [163, 164, 165, 166, 167, 171, 172, 173, 174, 175, 176, 177, 178, 179, 196, 197, 198, 199, 200, 201, 202, 203, 204, 205] rfl (by decide +kernel)
set_option maxRecDepth 100000 in
theorem ggL_law_L_plans_r10 : GoodIn wsL_law wsL_plans_r10 := goodIn_r _ [206, 207, 31, 208, 92, 209, 210, 211, 17, 212, 62, 390, 391, 392, 393, 394, 395, 396, 397, 398, 310, 311, 400, 401] rfl (by decide +kernel)
set_option maxRecDepth 100000 in
theorem ggL_law_L_plans_r11 : GoodIn wsL_law wsL_plans_r11 := goodIn_r _ [402, 403, 405, 407, 408, 409, 410, 81, 82, 411, 301, 302, 303, 245, 246, 247, 248, 249, 412, 413, 259, 260, 261, 415] rfl (by decide +kernel)
set_option maxRecDepth 100000 in
theorem ggL_law_L_plans_r12 : GoodIn wsL_law wsL_plans_r12 := goodIn_r _ [416, 417, 418, 419, 420, 421, 422, 423, 424, 425, 426, 296, 297, 298, 299, 300, 220, 221, 222, 223, 91, 224, 225, 226] rfl (by decide +kernel)
set_option maxRecDepth 100000 in
theorem ggL_law_L_plans_r13 : GoodIn wsL_law wsL_plans_r13 := goodIn_r _ [227, 90, 228, 305, 306, 307, 308, 309, 258, 448, 449, 450, 451, 452, 453, 454, 455, 312, 313, 314, 315, 316] rfl (by decide +kernel)
set_option maxRecDepth 100000 in
theorem ggL_law_L_plans_X70 : GoodIn wsL_law wsX70 := goodIn_r _ [531, 532, 533, 534, 535, 536, 537, 538] rfl (by decide +kernel)
set_option maxRecDepth 100000 in
theorem ggL_law_L_plans_X10 : GoodIn wsL_law wsX10 := goodIn_r _ [539, 540, 541, 542, 543, 544] rfl (by decide +kernel)
set_option maxRecDepth 100000 in
theorem ggL_law_L_plans_X30 : GoodIn wsL_law wsX30 := goodIn_r _ [556, 557, 558, 559, 560] rfl (by decide +kernel)
set_option maxRecDepth 100000 in
theorem ggL_law_L_plans_X50 : GoodIn wsL_law wsX50 := goodIn_r _ [545, 546, 547, 548] rfl (by decide +kernel)
set_option maxRecDepth 100000 in
theorem ggL_law_L_plans_X20 : GoodIn wsL_law wsX20 := goodIn_r _ [551, 552, 553, 554, 555] rfl (by decide +kernel)
set_option maxRecDepth 100000 in
theorem ggL_law_L_plans_X00 : GoodIn wsL_law wsX00 := goodIn_r _ [561, 562, 563] rfl (by decide +kernel)
set_option maxRecDepth 100000 in
theorem ggL_law_L_plans_X60 : GoodIn wsL_law wsX60 := goodIn_r _ [549, 550] rfl (by decide +kernel)
set_option maxRecDepth 100000 in
theorem ggL_law_L_plans : GoodIn wsL_law wsL_plans := goodIn_app ggL_law_L_plans_h (goodIn_app (goodIn_app (goodIn_app (goodIn_app (goodIn_app (goodIn_app (goodIn_app (goodIn_app ggL_law_L_plans_r1 (goodIn_app ggL_law_L_plans_r2 (goodIn_app ggL_law_L_plans_r3 (goodIn_app ggL_law_L_plans_r4 (goodIn_app ggL_law_L_plans_r5 (goodIn_app ggL_law_L_plans_r6 (goodIn_app ggL_law_L_plans_r7 (goodIn_app ggL_law_L_plans_r8 (goodIn_app ggL_law_L_plans_r9 (goodIn_app ggL_law_L_plans_r10 (goodIn_app ggL_law_L_plans_r11 (goodIn_app ggL_law_L_plans_r12 ggL_law_L_plans_r13)))))))))))) ggL_law_L_plans_X70) ggL_law_L_plans_X10) ggL_law_L_plans_X30) ggL_law_L_plans_X50) ggL_law_L_plans_X20) ggL_law_L_plans_X00) ggL_law_L_plans_X60)
set_option maxRecDepth 100000 in
theorem gL_law_L_plans : GoodIn wsL_law (va_wsS RL 102 yL_plans wsL_plans) := goodIn_app (goodIn_of _ (by decide +kernel)) ggL_law_L_plans
set_option maxRecDepth 100000 in
theorem ggL_law_L_arranges_h : GoodIn wsL_law [.code yL_arranges cL_arranges 7 (some .boolean)] := goodIn_r _ [522] rfl (by decide +kernel)
set_option maxRecDepth 100000 in
theorem ggL_law_L_arranges_r1 : GoodIn wsL_law wsL_arranges_r1 := goodIn_r _ [107, 108, 109, 2, 110, 20, 18, 32, 33, 111, 112, 113, 14, 114, 55, 53, 115, 116, 117, 118, 119, 120, 121, 11] rfl (by decide +kernel)
set_option maxRecDepth 100000 in
theorem ggL_law_L_arranges_r2 : GoodIn wsL_law wsL_arranges_r2 := goodIn_r _ [122, 47, 123, 124, 125, 126, 44, 127, 128, 129, 130, 131, 132, 54, 56, 133, 134, 135, 136, 43, 137, 138, 139, 140] rfl (by decide +kernel)
set_option maxRecDepth 100000 in
theorem ggL_law_L_arranges_r3 : GoodIn wsL_law wsL_arranges_r3 := goodIn_r _ [45, 141, 142, 143, 144, 46, 145, 146, 147, 148, 149, 150, 151, 152, 153, 154, 155, 156, 157, 158, 159, 160, 161, 162] rfl (by decide +kernel)
set_option maxRecDepth 100000 in
theorem ggL_law_L_arranges_r4 : GoodIn wsL_law wsL_arranges_r4 := goodIn_r _ [163, 164, 165, 166, 167, 168, 169, 170, 171, 172, 173, 174, 175, 176, 177, 178, 179, 180, 181, 182, 183, 184, 185, 186] rfl (by decide +kernel)
set_option maxRecDepth 100000 in
theorem ggL_law_L_arranges_r5 : GoodIn wsL_law wsL_arranges_r5 := goodIn_r _ [187, 188, 189, 190, 191, 192, 193, 194, 195, 196, 197, 198, 199, 200, 201, 202, 203, 204, 48, 205, 206, 207, 31, 208] rfl (by decide +kernel)
set_option maxRecDepth 100000 in
theorem ggL_law_L_arranges_r6 : GoodIn wsL_law wsL_arranges_r6 := goodIn_r _ [92, 209, 210, 211, 17, 212, 62, 523, 524, 525, 526, 220, 221, 222, 223, 91, 224, 225, 226, 227, 90, 228, 229, 230] rfl (by decide +kernel)
set_option maxRecDepth 100000 in
theorem ggL_law_L_arranges_r7 : GoodIn wsL_law wsL_arranges_r7 := goodIn_r _ [231, 232, 233, 234, 235, 527, 528, 529, 530, 28, 326, 394, 395, 396, 27, 397, 78, 77, 398, 310, 311, 399, 400, 401] rfl (by decide +kernel)
set_option maxRecDepth 100000 in
theorem ggL_law_L_arranges_r8 : GoodIn wsL_law wsL_arranges_r8 := goodIn_r _ [402, 403, 80, 404, 405, 406, 407, 408, 409, 410, 81, 82, 411, 301, 302, 303, 304, 245, 246, 247, 248, 249, 217, 218] rfl (by decide +kernel)
set_option maxRecDepth 100000 in
theorem ggL_law_L_arranges_r9 : GoodIn wsL_law wsL_arranges_r9 := goodIn_r _ [219, 412, 413, 259, 260, 261, 414, 419, 420, 421, 422, 423, 424, 425, 426, 415, 416, 417, 418, 305, 306, 307, 308, 309] rfl (by decide +kernel)
set_option maxRecDepth 100000 in
theorem ggL_law_L_arranges_r10 : GoodIn wsL_law wsL_arranges_r10 := goodIn_r _ [258, 317, 318, 319, 320, 24, 267, 268, 269, 270, 291, 321, 280, 281, 282, 322, 323, 324, 325, 327, 328, 329, 23, 330] rfl (by decide +kernel)
set_option maxRecDepth 100000 in
theorem ggL_law_L_arranges_r11 : GoodIn wsL_law wsL_arranges_r11 := goodIn_r _ [70, 71, 68, 67, 331, 332, 333, 334, 335, 336, 337, 338, 69, 339, 340, 341, 342, 343, 344, 345, 346, 347, 348, 349] rfl (by decide +kernel)
set_option maxRecDepth 100000 in
theorem ggL_law_L_arranges_r12 : GoodIn wsL_law wsL_arranges_r12 := goodIn_r _ [350, 351, 352, 353, 354, 355, 356, 357, 358, 359, 360, 361, 362, 363, 364, 365, 366, 367, 368, 390, 391, 392, 393, 456] rfl (by decide +kernel)
set_option maxRecDepth 100000 in
theorem ggL_law_L_arranges_r13 : GoodIn wsL_law wsL_arranges_r13 := goodIn_r _ [457, 105, 458, 369, 370, 371, 372, 373, 374, 375, 376, 377, 378, 379, 380, 381, 382, 383, 384, 385, 386, 387, 388, 389] rfl (by decide +kernel)
set_option maxRecDepth 100000 in
theorem ggL_law_L_arranges_r14 : GoodIn wsL_law wsL_arranges_r14 := goodIn_r _ [459, 460, 461, 462, 463, 448, 449, 450, 451, 452, 453, 454, 455] rfl (by decide +kernel)
set_option maxRecDepth 100000 in
theorem ggL_law_L_arranges_X70 : GoodIn wsL_law wsX70 := goodIn_r _ [531, 532, 533, 534, 535, 536, 537, 538] rfl (by decide +kernel)
set_option maxRecDepth 100000 in
theorem ggL_law_L_arranges_X50 : GoodIn wsL_law wsX50 := goodIn_r _ [545, 546, 547, 548] rfl (by decide +kernel)
set_option maxRecDepth 100000 in
theorem ggL_law_L_arranges_X10 : GoodIn wsL_law wsX10 := goodIn_r _ [539, 540, 541, 542, 543, 544] rfl (by decide +kernel)
set_option maxRecDepth 100000 in
theorem ggL_law_L_arranges_X00 : GoodIn wsL_law wsX00 := goodIn_r _ [561, 562, 563] rfl (by decide +kernel)
set_option maxRecDepth 100000 in
theorem ggL_law_L_arranges_X60 : GoodIn wsL_law wsX60 := goodIn_r _ [549, 550] rfl (by decide +kernel)
set_option maxRecDepth 100000 in
theorem ggL_law_L_arranges_X30 : GoodIn wsL_law wsX30 := goodIn_r _ [556, 557, 558, 559, 560] rfl (by decide +kernel)
set_option maxRecDepth 100000 in
theorem ggL_law_L_arranges_X20 : GoodIn wsL_law wsX20 := goodIn_r _ [551, 552, 553, 554, 555] rfl (by decide +kernel)
set_option maxRecDepth 100000 in
theorem ggL_law_L_arranges : GoodIn wsL_law wsL_arranges := goodIn_app ggL_law_L_arranges_h (goodIn_app (goodIn_app (goodIn_app (goodIn_app (goodIn_app (goodIn_app (goodIn_app (goodIn_app ggL_law_L_arranges_r1 (goodIn_app ggL_law_L_arranges_r2 (goodIn_app ggL_law_L_arranges_r3 (goodIn_app ggL_law_L_arranges_r4 (goodIn_app ggL_law_L_arranges_r5 (goodIn_app ggL_law_L_arranges_r6 (goodIn_app ggL_law_L_arranges_r7 (goodIn_app ggL_law_L_arranges_r8 (goodIn_app ggL_law_L_arranges_r9 (goodIn_app ggL_law_L_arranges_r10 (goodIn_app ggL_law_L_arranges_r11 (goodIn_app ggL_law_L_arranges_r12 (goodIn_app ggL_law_L_arranges_r13 ggL_law_L_arranges_r14))))))))))))) ggL_law_L_arranges_X70) ggL_law_L_arranges_X50) ggL_law_L_arranges_X10) ggL_law_L_arranges_X00) ggL_law_L_arranges_X60) ggL_law_L_arranges_X30) ggL_law_L_arranges_X20)
set_option maxRecDepth 100000 in
theorem gL_law_L_arranges : GoodIn wsL_law (va_wsS RL 106 yL_arranges wsL_arranges) := goodIn_app (goodIn_of _ (by decide +kernel)) ggL_law_L_arranges
