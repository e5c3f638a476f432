set_option maxRecDepth 100000 in
theorem ggL_law_X7_init_h : GoodIn wsL_law [.code yX7_init cX7_init 4 none] := goodIn_r _ [5] rfl (by decide +kernel)
set_option maxRecDepth 100000 in
theorem ggL_law_X7_init_r1 : GoodIn wsL_law wsX7_init_r1 := goodIn_r _ [6, 7, 8, 9, 10, 11, 12, 13, 14, 15, 16, 17, 18, 19, 20, 21, 22, 23, 24, 25, 26, 27, 28, 29] rfl (by decide +kernel)
set_option maxRecDepth 100000 in
theorem ggL_law_X7_init_r2 : GoodIn wsL_law wsX7_init_r2 := goodIn_r _ [30, 31, 32, 33, 34, 35, 36, 37, 38, 39, 40, 41, 42, 43, 44, 45, 46, 47, 48, 49, 50, 51, 52, 53] rfl (by decide +kernel)
set_option maxRecDepth 100000 in
theorem ggL_law_X7_init_r3 : GoodIn wsL_law wsX7_init_r3 := goodIn_r _ [54, 55, 56, 57, 58, 59, 60, 61, 62, 63, 64, 65, 66, 67, 68, 69, 70, 71, 72, 73, 74, 75, 76, 77] rfl (by decide +kernel)
set_option maxRecDepth 100000 in
theorem ggL_law_X7_init_r4 : GoodIn wsL_law wsX7_init_r4 := goodIn_r _ [78, 79, 80, 81, 82, 83, 84, 85, 86, 87, 88, 89, 90, 91, 92, 93, 94, 95, 96, 97, 98, 99, 100, 101] rfl (by decide +kernel)
set_option maxRecDepth 100000 in
theorem ggL_law_X7_init_r5 : GoodIn wsL_law wsX7_init_r5 := goodIn_r _ [102] rfl (by decide +kernel)
set_option maxRecDepth 100000 in
theorem ggL_law_X7_init_X10 : GoodIn wsL_law wsX10 := goodIn_r _ [539, 540, 541, 542, 543, 544] rfl (by decide +kernel)
set_option maxRecDepth 100000 in
theorem ggL_law_X7_init_X50 : GoodIn wsL_law wsX50 := goodIn_r _ [545, 546, 547, 548] rfl (by decide +kernel)
set_option maxRecDepth 100000 in
theorem ggL_law_X7_init_X60 : GoodIn wsL_law wsX60 := goodIn_r _ [549, 550] rfl (by decide +kernel)
set_option maxRecDepth 100000 in
theorem ggL_law_X7_init_X70 : GoodIn wsL_law wsX70 := goodIn_r _ [531, 532, 533, 534, 535, 536, 537, 538] rfl (by decide +kernel)
set_option maxRecDepth 100000 in
theorem ggL_law_X7_init_X20 : GoodIn wsL_law wsX20 := goodIn_r _ [551, 552, 553, 554, 555] rfl (by decide +kernel)
set_option maxRecDepth 100000 in
theorem ggL_law_X7_init_X30 : GoodIn wsL_law wsX30 := goodIn_r _ [556, 557, 558, 559, 560] rfl (by decide +kernel)
set_option maxRecDepth 100000 in
theorem ggL_law_X7_init_X00 : GoodIn wsL_law wsX00 := goodIn_r _ [561, 562, 563] rfl (by decide +kernel)
set_option maxRecDepth 100000 in
theorem ggL_law_X7_init_X40 : GoodIn wsL_law wsX40 := goodIn_r _ [564, 565, 566, 567, 568] rfl (by decide +kernel)
set_option maxRecDepth 100000 in
theorem ggL_law_X7_init : GoodIn wsL_law wsX7_init := goodIn_app ggL_law_X7_init_h (goodIn_app (goodIn_app (goodIn_app (goodIn_app (goodIn_app (goodIn_app (goodIn_app (goodIn_app (goodIn_app ggL_law_X7_init_r1 (goodIn_app ggL_law_X7_init_r2 (goodIn_app ggL_law_X7_init_r3 (goodIn_app ggL_law_X7_init_r4 ggL_law_X7_init_r5)))) ggL_law_X7_init_X10) ggL_law_X7_init_X50) ggL_law_X7_init_X60) ggL_law_X7_init_X70) ggL_law_X7_init_X20) ggL_law_X7_init_X30) ggL_law_X7_init_X00) ggL_law_X7_init_X40)
set_option maxRecDepth 100000 in
theorem gL_law_X7_init : GoodIn wsL_law (wsX7_init) := ggL_law_X7_init
set_option maxRecDepth 100000 in
theorem ggL_law_L_refuses_h : GoodIn wsL_law [.code yL_refuses cL_refuses 5 (some .boolean)] := goodIn_r _ [106] rfl (by decide +kernel)
set_option maxRecDepth 100000 in
theorem ggL_law_L_refuses_r1 : GoodIn wsL_law wsL_refuses_r1 := goodIn_r _ [107, 108, 109, 2, 110, 20, 18, 32, 33, 111, 112, 113, 14, 114, 55, 53, 115, 116, 117, 118, 119, 120, 121, 11] rfl (by decide +kernel)
set_option maxRecDepth 100000 in
theorem ggL_law_L_refuses_r2 : GoodIn wsL_law wsL_refuses_r2 := goodIn_r _ [122, 47, 123, 124, 125, 126, 44, 127, 128, 129, 130, 131, 132, 54, 56, 133, 134, 135, 136, 43, 137, 138, 139, 140] rfl (by decide +kernel)
set_option maxRecDepth 100000 in
theorem ggL_law_L_refuses_r3 : GoodIn wsL_law wsL_refuses_r3 := goodIn_r _ [45, 141, 142, 143, 144, 46, 145, 146, 147, 148, 149, 150, 151, 152, 153, 154, 155, 156, 157, 158, 159, 160, 161, 162] rfl (by decide +kernel)
set_option maxRecDepth 100000 in
theorem ggL_law_L_refuses_r4 : GoodIn wsL_law wsL_refuses_r4 := goodIn_r _ [163, 164, 165, 166, 167, 168, 169, 170, 171, 172, 173, 174, 175, 176, 177, 178, 179, 180, 181, 182, 183, 184, 185, 186] rfl (by decide +kernel)
set_option maxRecDepth 100000 in
theorem ggL_law_L_refuses_r5 : GoodIn wsL_law wsL_refuses_r5 := goodIn_r _ [187, 188, 189, 190, 191, 192, 193, 194, 195, 196, 197, 198, 199, 200, 201, 202, 203, 204, 48, 205, 206, 207, 31, 208] rfl (by decide +kernel)
set_option maxRecDepth 100000 in
theorem ggL_law_L_refuses_r6 : GoodIn wsL_law wsL_refuses_r6 := goodIn_r _ [92, 209, 210, 211, 17, 212, 62, 213, 214, 215, 216, 217, 218, 219, 220, 221, 222, 223, 91, 224, 225, 226, 227, 90] rfl (by decide +kernel)
set_option maxRecDepth 100000 in
theorem ggL_law_L_refuses_r7 : GoodIn wsL_law wsL_refuses_r7 := goodIn_r _ [228, 229, 230, 231, 232, 233, 234, 235, 236, 237, 238, 239, 240, 241, 242, 243, 244, 245, 246, 247, 248, 249, 250, 251] rfl (by decide +kernel)
set_option maxRecDepth 100000 in
theorem ggL_law_L_refuses_r8 : GoodIn wsL_law wsL_refuses_r8 := goodIn_r _ [252, 253, 254, 255, 256, 257, 258, 259, 260, 261, 262, 263, 264, 265, 266, 267, 268, 269, 270, 271, 272, 273, 274, 275] rfl (by decide +kernel)
set_option maxRecDepth 100000 in
theorem ggL_law_L_refuses_r9 : GoodIn wsL_law wsL_refuses_r9 := goodIn_r _ [276, 277, 278, 279, 280, 281, 282, 283, 284, 285, 286, 287, 288, 289, 290, 291, 292, 293, 294, 295, 296, 297, 298, 299] rfl (by decide +kernel)
set_option maxRecDepth 100000 in
theorem ggL_law_L_refuses_r10 : GoodIn wsL_law wsL_refuses_r10 := goodIn_r _ [300, 301, 302, 303, 304, 305, 306, 307, 308, 309, 310, 311, 312, 313, 314, 315, 316, 317, 318, 319, 320, 24, 321, 322] rfl (by decide +kernel)
set_option maxRecDepth 100000 in
theorem ggL_law_L_refuses_r11 : GoodIn wsL_law wsL_refuses_r11 := goodIn_r _ [323, 324, 325, 326, 327, 328, 329, 23, 330, 70, 71, 68, 67, 331, 332, 333, 334, 335, 336, 337, 338, 69, 339, 340] rfl (by decide +kernel)
set_option maxRecDepth 100000 in
theorem ggL_law_L_refuses_r12 : GoodIn wsL_law wsL_refuses_r12 := goodIn_r _ [341, 342, 343, 344, 345, 346, 347, 348, 349, 350, 351, 352, 353, 354, 355, 356, 357, 358, 359, 360, 361, 362, 363, 364] rfl (by decide +kernel)
set_option maxRecDepth 100000 in
theorem ggL_law_L_refuses_r13 : GoodIn wsL_law wsL_refuses_r13 := goodIn_r _ [365, 366, 367, 368, 369, 370, 371, 372, 373, 374, 375, 376, 377, 378, 379, 380, 381, 382, 383, 384, 385, 386, 387, 388] rfl (by decide +kernel)
set_option maxRecDepth 100000 in
theorem ggL_law_L_refuses_r14 : GoodIn wsL_law wsL_refuses_r14 := goodIn_r _ [389, 390, 391, 392, 393, 28, 394, 395, 396, 27, 397, 78, 77, 398, 399, 400, 401, 402, 403, 80, 404, 405, 406, 407] rfl (by decide +kernel)
set_option maxRecDepth 100000 in
theorem ggL_law_L_refuses_r15 : GoodIn wsL_law wsL_refuses_r15 := goodIn_r _ [408, 409, 410, 81, 82, 411, 412, 413, 414, 415, 416, 417, 418, 419, 420, 421, 422, 423, 424, 425, 426, 427, 428, 429] rfl (by decide +kernel)
set_option maxRecDepth 100000 in
theorem ggL_law_L_refuses_r16 : GoodIn wsL_law wsL_refuses_r16 := goodIn_r _ [430, 431, 432, 433, 434, 435, 436, 437, 438, 439, 440, 441, 442, 443, 444, 445, 446, 447, 61] rfl (by decide +kernel)
set_option maxRecDepth 100000 in
theorem ggL_law_L_refuses_X70 : GoodIn wsL_law wsX70 := goodIn_r _ [531, 532, 533, 534, 535, 536, 537, 538] rfl (by decide +kernel)
set_option maxRecDepth 100000 in
theorem ggL_law_L_refuses_X50 : GoodIn wsL_law wsX50 := goodIn_r _ [545, 546, 547, 548] rfl (by decide +kernel)
set_option maxRecDepth 100000 in
theorem ggL_law_L_refuses_X10 : GoodIn wsL_law wsX10 := goodIn_r _ [539, 540, 541, 542, 543, 544] rfl (by decide +kernel)
set_option maxRecDepth 100000 in
theorem ggL_law_L_refuses_X00 : GoodIn wsL_law wsX00 := goodIn_r _ [561, 562, 563] rfl (by decide +kernel)
set_option maxRecDepth 100000 in
theorem ggL_law_L_refuses_X60 : GoodIn wsL_law wsX60 := goodIn_r _ [549, 550] rfl (by decide +kernel)
set_option maxRecDepth 100000 in
theorem ggL_law_L_refuses_X20 : GoodIn wsL_law wsX20 := goodIn_r _ [551, 552, 553, 554, 555] rfl (by decide +kernel)
set_option maxRecDepth 100000 in
theorem ggL_law_L_refuses_X30 : GoodIn wsL_law wsX30 := goodIn_r _ [556, 557, 558, 559, 560] rfl (by decide +kernel)
set_option maxRecDepth 100000 in
theorem ggL_law_L_refuses : GoodIn wsL_law wsL_refuses := goodIn_app ggL_law_L_refuses_h (goodIn_app (goodIn_app (goodIn_app (goodIn_app (goodIn_app (goodIn_app (goodIn_app (goodIn_app ggL_law_L_refuses_r1 (goodIn_app ggL_law_L_refuses_r2 (goodIn_app ggL_law_L_refuses_r3 (goodIn_app ggL_law_L_refuses_r4 (goodIn_app ggL_law_L_refuses_r5 (goodIn_app ggL_law_L_refuses_r6 (goodIn_app ggL_law_L_refuses_r7 (goodIn_app ggL_law_L_refuses_r8 (goodIn_app ggL_law_L_refuses_r9 (goodIn_app ggL_law_L_refuses_r10 (goodIn_app ggL_law_L_refuses_r11 (goodIn_app ggL_law_L_refuses_r12 (goodIn_app ggL_law_L_refuses_r13 (goodIn_app ggL_law_L_refuses_r14 (goodIn_app ggL_law_L_refuses_r15 ggL_law_L_refuses_r16))))))))))))))) ggL_law_L_refuses_X70) ggL_law_L_refuses_X50) ggL_law_L_refuses_X10) ggL_law_L_refuses_X00) ggL_law_L_refuses_X60) ggL_law_L_refuses_X20) ggL_law_L_refuses_X30)
set_option maxRecDepth 100000 in
theorem gL_law_L_refuses : GoodIn wsL_law (va_wsS RL 83 yL_refuses wsL_refuses) := goodIn_app (goodIn_of _ (by decide +kernel)) ggL_law_L_refuses
set_option maxRecDepth 100000 in
theorem ggL_law_X7_undo : GoodIn wsL_law wsX7_undo := goodIn_r _ [451, 32, 18, 205, 206, 207, 31, 208, 92, 452, 453, 454, 455, 224, 225, 226, 227, 91, 90, 228, 229, 230, 11, 231, 43, 232, 233, 234, 235, 44, 45, 46, 47, 48, 531, 532, 533, 534, 535, 536, 537, 538, 561, 562, 563, 539, 540, 541, 542, 543, 544] rfl (by decide +kernel)
set_option maxRecDepth 100000 in
theorem gL_law_X7_undo : GoodIn wsL_law (wsV RL 49 RX7 yX7_undo wsX7_undo) := goodIn_app (goodIn_of _ (by decide +kernel)) ggL_law_X7_undo
set_option maxRecDepth 100000 in
theorem ggL_law_L_sound_h : GoodIn wsL_law [.code yL_sound cL_sound 17 (some .boolean)] := goodIn_r _ [458] rfl (by decide +kernel)
set_option maxRecDepth 100000 in
theorem ggL_law_L_sound_r1 : GoodIn wsL_law wsL_sound_r1 := goodIn_r _ [107, 108, 109, 2, 110, 20, 18, 32, 33, 111, 112, 113, 14, 114, 55, 53, 115, 116, 117, 118, 119, 120, 121, 11] rfl (by decide +kernel)
set_option maxRecDepth 100000 in
theorem ggL_law_L_sound_r2 : GoodIn wsL_law wsL_sound_r2 := goodIn_r _ [122, 47, 123, 124, 125, 126, 44, 127, 128, 129, 130, 131, 132, 54, 56, 133, 134, 135, 136, 43, 137, 138, 139, 140] rfl (by decide +kernel)
set_option maxRecDepth 100000 in
theorem ggL_law_L_sound_r3 : GoodIn wsL_law wsL_sound_r3 := goodIn_r _ [45, 141, 142, 143, 144, 46, 145, 146, 147, 148, 149, 150, 151, 152, 153, 154, 155, 156, 157, 158, 159, 160, 161, 162] rfl (by decide +kernel)
set_option maxRecDepth 100000 in
theorem ggL_law_L_sound_r4 : GoodIn wsL_law wsL_sound_r4 := goodIn_r _ [163, 164, 165, 166, 167, 168, 169, 170, 171, 172, 173, 174, 175, 176, 177, 178, 179, 180, 181, 182, 183, 184, 185, 186] rfl (by decide +kernel)
set_option maxRecDepth 100000 in
theorem ggL_law_L_sound_r5 : GoodIn wsL_law wsL_sound_r5 := goodIn_r _ [187, 188, 189, 190, 191, 192, 193, 194, 195, 196, 197, 198, 199, 200, 201, 202, 203, 204, 48, 205, 206, 207, 31, 208] rfl (by decide +kernel)
set_option maxRecDepth 100000 in
theorem ggL_law_L_sound_r6 : GoodIn wsL_law wsL_sound_r6 := goodIn_r _ [92, 209, 210, 211, 17, 212, 62, 317, 318, 319, 320, 24, 267, 268, 269, 270, 217, 218, 219, 291, 321, 280, 281, 282] rfl (by decide +kernel)
set_option maxRecDepth 100000 in
theorem ggL_law_L_sound_r7 : GoodIn wsL_law wsL_sound_r7 := goodIn_r _ [322, 323, 324, 325, 326, 327, 328, 329, 23, 330, 70, 71, 68, 67, 331, 332, 333, 334, 335, 336, 337, 338, 69, 339] rfl (by decide +kernel)
set_option maxRecDepth 100000 in
theorem ggL_law_L_sound_r8 : GoodIn wsL_law wsL_sound_r8 := goodIn_r _ [340, 341, 342, 343, 344, 345, 346, 347, 348, 349, 350, 351, 352, 353, 354, 355, 356, 357, 358, 359, 360, 361, 304, 362] rfl (by decide +kernel)
set_option maxRecDepth 100000 in
theorem ggL_law_L_sound_r9 : GoodIn wsL_law wsL_sound_r9 := goodIn_r _ [363, 364, 365, 366, 367, 368, 369, 370, 371, 372, 373, 374, 375, 376, 377, 378, 379, 380, 381, 382, 383, 384, 385, 386] rfl (by decide +kernel)
set_option maxRecDepth 100000 in
theorem ggL_law_L_sound_r10 : GoodIn wsL_law wsL_sound_r10 := goodIn_r _ [387, 388, 389, 459, 460, 461, 462, 463] rfl (by decide +kernel)
set_option maxRecDepth 100000 in
theorem ggL_law_L_sound_X70 : GoodIn wsL_law wsX70 := goodIn_r _ [531, 532, 533, 534, 535, 536, 537, 538] rfl (by decide +kernel)
set_option maxRecDepth 100000 in
theorem ggL_law_L_sound_X50 : GoodIn wsL_law wsX50 := goodIn_r _ [545, 546, 547, 548] rfl (by decide +kernel)
set_option maxRecDepth 100000 in
theorem ggL_law_L_sound_X10 : GoodIn wsL_law wsX10 := goodIn_r _ [539, 540, 541, 542, 543, 544] rfl (by decide +kernel)
set_option maxRecDepth 100000 in
theorem ggL_law_L_sound_X00 : GoodIn wsL_law wsX00 := goodIn_r _ [561, 562, 563] rfl (by decide +kernel)
set_option maxRecDepth 100000 in
theorem ggL_law_L_sound_X60 : GoodIn wsL_law wsX60 := goodIn_r _ [549, 550] rfl (by decide +kernel)
set_option maxRecDepth 100000 in
theorem ggL_law_L_sound_X20 : GoodIn wsL_law wsX20 := goodIn_r _ [551, 552, 553, 554, 555] rfl (by decide +kernel)
set_option maxRecDepth 100000 in
theorem ggL_law_L_sound : GoodIn wsL_law wsL_sound := goodIn_app ggL_law_L_sound_h (goodIn_app (goodIn_app (goodIn_app (goodIn_app (goodIn_app (goodIn_app (goodIn_app ggL_law_L_sound_r1 (goodIn_app ggL_law_L_sound_r2 (goodIn_app ggL_law_L_sound_r3 (goodIn_app ggL_law_L_sound_r4 (goodIn_app ggL_law_L_sound_r5 (goodIn_app ggL_law_L_sound_r6 (goodIn_app ggL_law_L_sound_r7 (goodIn_app ggL_law_L_sound_r8 (goodIn_app ggL_law_L_sound_r9 ggL_law_L_sound_r10))))))))) ggL_law_L_sound_X70) ggL_law_L_sound_X50) ggL_law_L_sound_X10) ggL_law_L_sound_X00) ggL_law_L_sound_X60) ggL_law_L_sound_X20)
set_option maxRecDepth 100000 in
theorem gL_law_L_sound : GoodIn wsL_law (va_wsS RL 59 yL_sound wsL_sound) := goodIn_app (goodIn_of _ (by decide +kernel)) ggL_law_L_sound
set_option maxRecDepth 100000 in
theorem ggL_law_L_cells_h : GoodIn wsL_law [.code yL_cells cL_cells 9 (some .boolean)] := goodIn_r _ [466] rfl (by decide +kernel)
set_option maxRecDepth 100000 in
theorem ggL_law_L_cells_r1 : GoodIn wsL_law wsL_cells_r1 := goodIn_r _ [107, 108, 109, 2, 110, 20, 18, 32, 33, 111, 112, 113, 14, 114, 55, 53, 115, 116, 117, 118, 119, 120, 121, 11] rfl (by decide +kernel)
set_option maxRecDepth 100000 in
theorem ggL_law_L_cells_r2 : GoodIn wsL_law wsL_cells_r2 := goodIn_r _ [122, 47, 123, 124, 125, 126, 44, 127, 128, 129, 130, 131, 132, 54, 56, 133, 134, 135, 136, 43, 137, 138, 139, 140] rfl (by decide +kernel)
set_option maxRecDepth 100000 in
theorem ggL_law_L_cells_r3 : GoodIn wsL_law wsL_cells_r3 := goodIn_r _ [45, 141, 142, 143, 144, 46, 145, 146, 147, 148, 149, 150, 151, 152, 153, 154, 155, 156, 157, 158, 159, 160, 161, 162] rfl (by decide +kernel)
set_option maxRecDepth 100000 in
theorem ggL_law_L_cells_r4 : GoodIn wsL_law wsL_cells_r4 := goodIn_r _ [163, 164, 165, 166, 167, 168, 169, 170, 171, 172, 173, 174, 175, 176, 177, 178, 179, 180, 181, 182, 183, 184, 185, 186] rfl (by decide +kernel)
set_option maxRecDepth 100000 in
theorem ggL_law_L_cells_r5 : GoodIn wsL_law wsL_cells_r5 := goodIn_r _ [187, 188, 189, 190, 191, 192, 193, 194, 195, 196, 197, 198, 199, 200, 201, 202, 203, 204, 48, 205, 206, 207, 31, 208] rfl (by decide +kernel)
set_option maxRecDepth 100000 in
theorem ggL_law_L_cells_r6 : GoodIn wsL_law wsL_cells_r6 := goodIn_r _ [92, 209, 210, 211, 17, 212, 62, 467, 468, 469, 470, 471, 472, 473, 474, 362, 475, 476, 477, 478, 358, 359, 360, 361] rfl (by decide +kernel)
set_option maxRecDepth 100000 in
theorem ggL_law_L_cells_r7 : GoodIn wsL_law wsL_cells_r7 := goodIn_r _ [304, 363, 479, 480, 481, 482, 317, 318, 319, 320, 24, 267, 268, 269, 270, 217, 218, 219, 291, 321, 280, 281, 282, 322] rfl (by decide +kernel)
set_option maxRecDepth 100000 in
theorem ggL_law_L_cells_r8 : GoodIn wsL_law wsL_cells_r8 := goodIn_r _ [323, 324, 325, 326, 327, 328, 329, 23, 330, 70, 71, 68, 67, 331, 332, 333, 334, 335, 336, 337, 338, 69, 339, 340] rfl (by decide +kernel)
set_option maxRecDepth 100000 in
theorem ggL_law_L_cells_r9 : GoodIn wsL_law wsL_cells_r9 := goodIn_r _ [341, 342, 343, 344, 345, 346, 347, 348, 349, 350, 351, 352, 353, 354, 355, 356, 357, 364, 365, 366, 367, 368] rfl (by decide +kernel)
set_option maxRecDepth 100000 in
theorem ggL_law_L_cells_X70 : GoodIn wsL_law wsX70 := goodIn_r _ [531, 532, 533, 534, 535, 536, 537, 538] rfl (by decide +kernel)
set_option maxRecDepth 100000 in
theorem ggL_law_L_cells_X50 : GoodIn wsL_law wsX50 := goodIn_r _ [545, 546, 547, 548] rfl (by decide +kernel)
set_option maxRecDepth 100000 in
theorem ggL_law_L_cells_X10 : GoodIn wsL_law wsX10 := goodIn_r _ [539, 540, 541, 542, 543, 544] rfl (by decide +kernel)
set_option maxRecDepth 100000 in
theorem ggL_law_L_cells_X00 : GoodIn wsL_law wsX00 := goodIn_r _ [561, 562, 563] rfl (by decide +kernel)
set_option maxRecDepth 100000 in
theorem ggL_law_L_cells_X60 : GoodIn wsL_law wsX60 := goodIn_r _ [549, 550] rfl (by decide +kernel)
set_option maxRecDepth 100000 in
theorem ggL_law_L_cells_X20 : GoodIn wsL_law wsX20 := goodIn_r _ [551, 552, 553, 554, 555] rfl (by decide +kernel)
set_option maxRecDepth 100000 in
theorem ggL_law_L_cells : GoodIn wsL_law wsL_cells := goodIn_app ggL_law_L_cells_h (goodIn_app (goodIn_app (goodIn_app (goodIn_app (goodIn_app (goodIn_app (goodIn_app ggL_law_L_cells_r1 (goodIn_app ggL_law_L_cells_r2 (goodIn_app ggL_law_L_cells_r3 (goodIn_app ggL_law_L_cells_r4 (goodIn_app ggL_law_L_cells_r5 (goodIn_app ggL_law_L_cells_r6 (goodIn_app ggL_law_L_cells_r7 (goodIn_app ggL_law_L_cells_r8 ggL_law_L_cells_r9)))))))) ggL_law_L_cells_X70) ggL_law_L_cells_X50) ggL_law_L_cells_X10) ggL_law_L_cells_X00) ggL_law_L_cells_X60) ggL_law_L_cells_X20)
set_option maxRecDepth 100000 in
theorem gL_law_L_cells : GoodIn wsL_law (va_wsS RL 86 yL_cells wsL_cells) := goodIn_app (goodIn_of _ (by decide +kernel)) ggL_law_L_cells
set_option maxRecDepth 100000 in
theorem ggL_law_X7_worst_h : GoodIn wsL_law [.code yX7_worst cX7_worst 1 (some .int)] := goodIn_r _ [486] rfl (by decide +kernel)
set_option maxRecDepth 100000 in
theorem ggL_law_X7_worst_r1 : GoodIn wsL_law wsX7_worst_r1 := goodIn_r _ [28, 487, 488, 489, 27, 490, 77, 78, 80, 406, 120, 121, 11, 122, 47, 399, 229, 230, 231, 43, 232, 233, 234, 235] rfl (by decide +kernel)
set_option maxRecDepth 100000 in
theorem ggL_law_X7_worst_r2 : GoodIn wsL_law wsX7_worst_r2 := goodIn_r _ [44, 45, 46, 48, 491, 272, 273, 274, 275, 276, 277, 278, 279, 280, 281, 282, 127, 2, 128, 145, 146, 404, 112, 113] rfl (by decide +kernel)
set_option maxRecDepth 100000 in
theorem ggL_law_X7_worst_r3 : GoodIn wsL_law wsX7_worst_r3 := goodIn_r _ [14, 114, 55, 53, 115, 116, 117, 118, 119, 123, 124, 125, 126, 129, 130, 131, 132, 54, 56, 133, 134, 135, 136, 137] rfl (by decide +kernel)
set_option maxRecDepth 100000 in
theorem ggL_law_X7_worst_r4 : GoodIn wsL_law wsX7_worst_r4 := goodIn_r _ [138, 139, 140, 141, 142, 143, 144, 147, 148, 149, 150, 151, 152, 153, 405, 164, 165, 166, 167, 168, 169, 170] rfl (by decide +kernel)
set_option maxRecDepth 100000 in
theorem ggL_law_X7_worst_X70 : GoodIn wsL_law wsX70 := goodIn_r _ [531, 532, 533, 534, 535, 536, 537, 538] rfl (by decide +kernel)
set_option maxRecDepth 100000 in
theorem ggL_law_X7_worst_X30 : GoodIn wsL_law wsX30 := goodIn_r _ [556, 557, 558, 559, 560] rfl (by decide +kernel)
set_option maxRecDepth 100000 in
theorem ggL_law_X7_worst_X10 : GoodIn wsL_law wsX10 := goodIn_r _ [539, 540, 541, 542, 543, 544] rfl (by decide +kernel)
set_option maxRecDepth 100000 in
theorem ggL_law_X7_worst_X50 : GoodIn wsL_law wsX50 := goodIn_r _ [545, 546, 547, 548] rfl (by decide +kernel)
set_option maxRecDepth 100000 in
theorem ggL_law_X7_worst : GoodIn wsL_law wsX7_worst := goodIn_app ggL_law_X7_worst_h (goodIn_app (goodIn_app (goodIn_app (goodIn_app (goodIn_app ggL_law_X7_worst_r1 (goodIn_app ggL_law_X7_worst_r2 (goodIn_app ggL_law_X7_worst_r3 ggL_law_X7_worst_r4))) ggL_law_X7_worst_X70) ggL_law_X7_worst_X30) ggL_law_X7_worst_X10) ggL_law_X7_worst_X50)
set_option maxRecDepth 100000 in
theorem gL_law_X7_worst : GoodIn wsL_law (wsV RL 89 RX7 yX7_worst wsX7_worst) := goodIn_app (goodIn_of _ (by decide +kernel)) ggL_law_X7_worst
set_option maxRecDepth 100000 in
theorem ggL_law_X7_count_h : GoodIn wsL_law [.code yX7_count cX7_count 2 (some .int)] := goodIn_r _ [110] rfl (by decide +kernel)
set_option maxRecDepth 100000 in
theorem ggL_law_X7_count_r1 : GoodIn wsL_law wsX7_count_r1 := goodIn_r _ [20, 18, 32, 33, 111, 112, 113, 14, 114, 55, 53, 115, 116, 117, 118, 119, 120, 121, 11, 122, 47, 123, 124, 125] rfl (by decide +kernel)
set_option maxRecDepth 100000 in
theorem ggL_law_X7_count_r2 : GoodIn wsL_law wsX7_count_r2 := goodIn_r _ [126, 44, 127, 2, 128, 129, 130, 131, 132, 54, 56, 133, 134, 135, 136, 43, 137, 138, 139, 140, 45, 141, 142, 143] rfl (by decide +kernel)
set_option maxRecDepth 100000 in
theorem ggL_law_X7_count_r3 : GoodIn wsL_law wsX7_count_r3 := goodIn_r _ [144, 46, 145, 146, 147, 148, 149, 150, 151, 152, 153, 154, 155, 156, 157, 158, 159, 160, 161, 162, 163, 164, 165, 166] rfl (by decide +kernel)
set_option maxRecDepth 100000 in
theorem ggL_law_X7_count_r4 : GoodIn wsL_law wsX7_count_r4 := goodIn_r _ [167, 168, 169, 170, 171, 172, 173, 174, 175, 176, 177, 178, 179, 180, 181, 182, 183, 184, 185, 186, 187, 188, 189, 190] rfl (by decide +kernel)
set_option maxRecDepth 100000 in
theorem ggL_law_X7_count_r5 : GoodIn wsL_law wsX7_count_r5 := goodIn_r _ [191, 192, 193, 194, 195, 196, 197, 198, 199, 200, 201, 202, 203, 204, 48, 205, 206, 207, 31, 208, 92, 209, 210, 211] rfl (by decide +kernel)
set_option maxRecDepth 100000 in
theorem ggL_law_X7_count_r6 : GoodIn wsL_law wsX7_count_r6 := goodIn_r _ [17, 212, 62] rfl (by decide +kernel)
set_option maxRecDepth 100000 in
theorem ggL_law_X7_count_X70 : GoodIn wsL_law wsX70 := goodIn_r _ [531, 532, 533, 534, 535, 536, 537, 538] rfl (by decide +kernel)
set_option maxRecDepth 100000 in
theorem ggL_law_X7_count_X50 : GoodIn wsL_law wsX50 := goodIn_r _ [545, 546, 547, 548] rfl (by decide +kernel)
set_option maxRecDepth 100000 in
theorem ggL_law_X7_count_X10 : GoodIn wsL_law wsX10 := goodIn_r _ [539, 540, 541, 542, 543, 544] rfl (by decide +kernel)
set_option maxRecDepth 100000 in
theorem ggL_law_X7_count_X00 : GoodIn wsL_law wsX00 := goodIn_r _ [561, 562, 563] rfl (by decide +kernel)
set_option maxRecDepth 100000 in
theorem ggL_law_X7_count_X60 : GoodIn wsL_law wsX60 := goodIn_r _ [549, 550] rfl (by decide +kernel)
set_option maxRecDepth 100000 in
theorem ggL_law_X7_count : GoodIn wsL_law wsX7_count := goodIn_app ggL_law_X7_count_h (goodIn_app (goodIn_app (goodIn_app (goodIn_app (goodIn_app (goodIn_app ggL_law_X7_count_r1 (goodIn_app ggL_law_X7_count_r2 (goodIn_app ggL_law_X7_count_r3 (goodIn_app ggL_law_X7_count_r4 (goodIn_app ggL_law_X7_count_r5 ggL_law_X7_count_r6))))) ggL_law_X7_count_X70) ggL_law_X7_count_X50) ggL_law_X7_count_X10) ggL_law_X7_count_X00) ggL_law_X7_count_X60)
set_option maxRecDepth 100000 in
theorem gL_law_X7_count : GoodIn wsL_law (wsV RL 9 RX7 yX7_count wsX7_count) := goodIn_app (goodIn_of _ (by decide +kernel)) ggL_law_X7_count
set_option maxRecDepth 100000 in
theorem ggL_law_L_lot : GoodIn wsL_law wsL_lot := goodIn_r _ [494, 495] rfl (by decide +kernel)
set_option maxRecDepth 100000 in
theorem gL_law_L_lot : GoodIn wsL_law (va_wsS RL 92 yL_lot wsL_lot) := goodIn_app (goodIn_of _ (by decide +kernel)) ggL_law_L_lot
set_option maxRecDepth 100000 in
theorem ggL_law_L_low : GoodIn wsL_law wsL_low := goodIn_r _ [498, 499] rfl (by decide +kernel)
set_option maxRecDepth 100000 in
theorem gL_law_L_low : GoodIn wsL_law (va_wsS RL 96 yL_low wsL_low) := goodIn_app (goodIn_of _ (by decide +kernel)) ggL_law_L_low
set_option maxRecDepth 100000 in
theorem ggL_law_X7_addPiece : GoodIn wsL_law wsX7_addPiece := goodIn_r _ [243, 18, 32, 244, 245, 2, 246, 247, 248, 249, 127, 128, 217, 218, 219, 250, 251, 252, 11, 253, 47, 220, 221, 222, 31, 223, 92, 91, 224, 225, 226, 227, 90, 228, 229, 230, 231, 43, 232, 233, 234, 235, 44, 45, 46, 48, 254, 255, 256, 257, 258, 259, 260, 261, 145, 146, 262, 531, 532, 533, 534, 535, 536, 537, 538, 539, 540, 541, 542, 543, 544, 561, 562, 563] rfl (by decide +kernel)
set_option maxRecDepth 100000 in
theorem gL_law_X7_addPiece : GoodIn wsL_law (wsV RL 66 RX7 yX7_addPiece wsX7_addPiece) := goodIn_app (goodIn_of _ (by decide +kernel)) ggL_law_X7_addPiece
set_option maxRecDepth 100000 in
theorem ggL_law_X7_piece_h : GoodIn wsL_law [.code yX7_piece cX7_piece 3 (some .int)] := goodIn_r _ [320] rfl (by decide +kernel)
set_option maxRecDepth 100000 in
theorem ggL_law_X7_piece_r1 : GoodIn wsL_law wsX7_piece_r1 := goodIn_r _ [18, 20, 24, 267, 268, 269, 11, 270, 47, 217, 218, 2, 219, 291, 134, 135, 136, 43, 111, 112, 113, 14, 114, 55] rfl (by decide +kernel)
set_option maxRecDepth 100000 in
theorem ggL_law_X7_piece_r2 : GoodIn wsL_law wsX7_piece_r2 := goodIn_r _ [53, 115, 116, 117, 118, 119, 120, 121, 122, 123, 124, 125, 126, 44, 127, 128, 129, 130, 131, 132, 54, 56, 133, 137] rfl (by decide +kernel)
set_option maxRecDepth 100000 in
theorem ggL_law_X7_piece_r3 : GoodIn wsL_law wsX7_piece_r3 := goodIn_r _ [138, 139, 140, 45, 141, 142, 143, 144, 46, 145, 146, 147, 148, 149, 150, 151, 152, 153, 321, 280, 281, 282, 322, 323] rfl (by decide +kernel)
set_option maxRecDepth 100000 in
theorem ggL_law_X7_piece_r4 : GoodIn wsL_law wsX7_piece_r4 := goodIn_r _ [324, 325, 326, 168, 169, 170, 327, 328, 329, 23, 330, 70, 71, 68, 67, 331, 332, 185, 333, 334, 192, 193, 194, 195] rfl (by decide +kernel)
set_option maxRecDepth 100000 in
theorem ggL_law_X7_piece_r5 : GoodIn wsL_law wsX7_piece_r5 := goodIn_r _ [156, 157, 158, 335, 336, 337, 338, 69, 339, 340, 341, 342, 343, 344, 345, 346, 347, 348, 349, 350, 351, 352, 353, 180] rfl (by decide +kernel)
set_option maxRecDepth 100000 in
theorem ggL_law_X7_piece_r6 : GoodIn wsL_law wsX7_piece_r6 := goodIn_r _ [181, 182, 183, 184, 186, 187, 188, 189, 190, 191, 354, 355, 356, 357, 358, 359, 360, 361, 304, 362, 363, 364, 365, 366] rfl (by decide +kernel)
set_option maxRecDepth 100000 in
theorem ggL_law_X7_piece_r7 : GoodIn wsL_law wsX7_piece_r7 := goodIn_r _ [367, 368] rfl (by decide +kernel)
set_option maxRecDepth 100000 in
theorem ggL_law_X7_piece_X70 : GoodIn wsL_law wsX70 := goodIn_r _ [531, 532, 533, 534, 535, 536, 537, 538] rfl (by decide +kernel)
set_option maxRecDepth 100000 in
theorem ggL_law_X7_piece_X10 : GoodIn wsL_law wsX10 := goodIn_r _ [539, 540, 541, 542, 543, 544] rfl (by decide +kernel)
set_option maxRecDepth 100000 in
theorem ggL_law_X7_piece_X50 : GoodIn wsL_law wsX50 := goodIn_r _ [545, 546, 547, 548] rfl (by decide +kernel)
set_option maxRecDepth 100000 in
theorem ggL_law_X7_piece_X20 : GoodIn wsL_law wsX20 := goodIn_r _ [551, 552, 553, 554, 555] rfl (by decide +kernel)
set_option maxRecDepth 100000 in
theorem ggL_law_X7_piece : GoodIn wsL_law wsX7_piece := goodIn_app ggL_law_X7_piece_h (goodIn_app (goodIn_app (goodIn_app (goodIn_app (goodIn_app ggL_law_X7_piece_r1 (goodIn_app ggL_law_X7_piece_r2 (goodIn_app ggL_law_X7_piece_r3 (goodIn_app ggL_law_X7_piece_r4 (goodIn_app ggL_law_X7_piece_r5 (goodIn_app ggL_law_X7_piece_r6 ggL_law_X7_piece_r7)))))) ggL_law_X7_piece_X70) ggL_law_X7_piece_X10) ggL_law_X7_piece_X50) ggL_law_X7_piece_X20)
set_option maxRecDepth 100000 in
theorem gL_law_X7_piece : GoodIn wsL_law (wsV RL 15 RX7 yX7_piece wsX7_piece) := goodIn_app (goodIn_of _ (by decide +kernel)) ggL_law_X7_piece
