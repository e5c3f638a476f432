set_option maxRecDepth 20000 in
theorem ggL_law_X7_init : GoodIn wsL_law wsX7_init := goodIn_r _ [8, 9, 10, 11, 12, 13, 14, 15, 16, 17, 18, 19, 20, 21, 22, 23, 24, 25, 26, 27, 28, 29, 30, 31, 32, 33, 34, 35, 36, 37, 38, 39, 40, 41, 42, 43, 44, 45, 46, 47, 48, 49, 50, 51, 52, 53, 54, 55, 56, 57, 58, 59, 60, 61, 62, 63, 64, 65, 66, 67, 68, 69, 70, 71, 72, 73, 74, 75, 76, 77, 78, 79, 80, 81, 82, 83, 84, 85, 86, 87, 88, 89, 90, 91, 92, 93, 94, 95, 96, 97, 98, 99, 100, 101, 102, 103, 104, 105, 948, 949, 950, 951, 952, 953, 954, 955, 956, 957, 958, 959, 921, 922, 923, 924, 925, 926, 927, 928, 960, 961, 962, 963, 964, 965, 966, 967, 968, 969, 970, 971, 972, 973, 974, 975, 976, 977] (by decide +kernel) (by decide +kernel)
set_option maxRecDepth 20000 in
theorem gL_law_X7_init : GoodIn wsL_law (wsX7_init) := ggL_law_X7_init
set_option maxRecDepth 20000 in
theorem ggL_law_X8_init : GoodIn wsL_law wsX8_init := goodIn_r _ [108, 109, 10, 11, 45, 110, 111, 112, 113, 114, 115, 116, 117, 118, 119, 929, 930, 931, 932, 933, 934, 935, 936, 937, 938, 939, 940, 941, 942, 943, 944, 945, 946, 947] (by decide +kernel) (by decide +kernel)
set_option maxRecDepth 20000 in
theorem gL_law_X8_init : GoodIn wsL_law (wsX8_init) := ggL_law_X8_init
set_option maxRecDepth 20000 in
theorem ggL_law_X7_setPage : GoodIn wsL_law wsX7_setPage := goodIn_r _ [123, 35, 21, 23, 124, 125, 2, 126, 127, 128, 129, 34, 130, 95, 94, 131, 132, 133, 134, 93, 135, 136, 137, 14, 138, 46, 139, 140, 141, 142, 47, 48, 49, 50, 51, 143, 144, 145, 146, 147, 148, 149, 17, 150, 58, 56, 151, 152, 153, 154, 155, 156, 157, 158, 159, 160, 161, 162, 163, 164, 165, 166, 167, 168, 57, 59, 169, 170, 171, 172, 173, 174, 175, 176, 177, 178, 179, 180, 181, 182, 183, 184, 185, 186, 187, 188, 189, 190, 191, 192, 193, 194, 195, 196, 197, 921, 922, 923, 924, 925, 926, 927, 928, 970, 971, 972, 948, 949, 950, 951, 952, 953, 954, 955, 956, 957] (by decide +kernel) (by decide +kernel)
set_option maxRecDepth 20000 in
theorem gL_law_X7_setPage : GoodIn wsL_law (wsV RL 13 RX7 yX7_setPage wsX7_setPage) := goodIn_app (goodIn_of _ (by decide +kernel)) ggL_law_X7_setPage
set_option maxRecDepth 20000 in
theorem ggL_law_X8_setPage : GoodIn wsL_law wsX8_setPage := goodIn_r _ [201, 110, 202, 203, 5, 204, 205, 206, 207, 208, 209, 111, 210, 211, 212, 213, 214, 215, 216, 217, 113, 114, 218, 219, 220, 221, 222, 223, 224, 225, 226, 227, 228, 229, 230, 231, 232, 233, 234, 235, 236, 237, 929, 930, 931, 932, 933, 934, 935, 936, 937, 938, 939, 940, 941, 942, 943, 944, 945, 946, 947] (by decide +kernel) (by decide +kernel)
set_option maxRecDepth 20000 in
theorem gL_law_X8_setPage : GoodIn wsL_law (wsV RL 17 RX8 yX8_setPage wsX8_setPage) := goodIn_app (goodIn_of _ (by decide +kernel)) ggL_law_X8_setPage
set_option maxRecDepth 20000 in
theorem ggL_law_X7_addPiece : GoodIn wsL_law wsX7_addPiece := goodIn_r _ [241, 21, 35, 242, 243, 2, 244, 245, 246, 247, 163, 164, 124, 125, 126, 248, 249, 250, 14, 251, 50, 127, 128, 129, 34, 130, 95, 94, 131, 132, 133, 134, 93, 135, 136, 137, 138, 46, 139, 140, 141, 142, 47, 48, 49, 51, 252, 253, 254, 255, 256, 257, 258, 259, 181, 182, 260, 921, 922, 923, 924, 925, 926, 927, 928, 948, 949, 950, 951, 952, 953, 970, 971, 972] (by decide +kernel) (by decide +kernel)
set_option maxRecDepth 20000 in
theorem gL_law_X7_addPiece : GoodIn wsL_law (wsV RL 18 RX7 yX7_addPiece wsX7_addPiece) := goodIn_app (goodIn_of _ (by decide +kernel)) ggL_law_X7_addPiece
set_option maxRecDepth 20000 in
theorem ggL_law_X8_addPiece : GoodIn wsL_law wsX8_addPiece := goodIn_r _ [264, 110, 265, 266, 5, 267, 202, 203, 204, 268, 269, 270, 205, 206, 207, 208, 209, 111, 271, 272, 273, 274, 929, 930, 931, 932, 933, 934, 935, 936, 937, 938, 939, 940, 941, 942, 943, 944, 945, 946, 947] (by decide +kernel) (by decide +kernel)
set_option maxRecDepth 20000 in
theorem gL_law_X8_addPiece : GoodIn wsL_law (wsV RL 22 RX8 yX8_addPiece wsX8_addPiece) := goodIn_app (goodIn_of _ (by decide +kernel)) ggL_law_X8_addPiece
set_option maxRecDepth 20000 in
theorem ggL_law_X7_removePiece : GoodIn wsL_law wsX7_removePiece := goodIn_r _ [278, 21, 35, 279, 280, 281, 14, 282, 50, 127, 128, 129, 34, 130, 95, 94, 131, 132, 133, 134, 93, 135, 136, 137, 138, 46, 139, 140, 141, 142, 47, 48, 49, 51, 283, 284, 285, 286, 287, 288, 289, 290, 291, 292, 293, 294, 163, 2, 164, 181, 182, 295, 156, 157, 158, 921, 922, 923, 924, 925, 926, 927, 928, 948, 949, 950, 951, 952, 953, 970, 971, 972] (by decide +kernel) (by decide +kernel)
set_option maxRecDepth 20000 in
theorem gL_law_X7_removePiece : GoodIn wsL_law (wsV RL 23 RX7 yX7_removePiece wsX7_removePiece) := goodIn_app (goodIn_of _ (by decide +kernel)) ggL_law_X7_removePiece
set_option maxRecDepth 20000 in
theorem ggL_law_X8_removePiece : GoodIn wsL_law wsX8_removePiece := goodIn_r _ [299, 110, 300, 301, 302, 5, 303, 202, 203, 204, 205, 206, 207, 208, 209, 111, 304, 305, 306, 307, 929, 930, 931, 932, 933, 934, 935, 936, 937, 938, 939, 940, 941, 942, 943, 944, 945, 946, 947] (by decide +kernel) (by decide +kernel)
set_option maxRecDepth 20000 in
theorem gL_law_X8_removePiece : GoodIn wsL_law (wsV RL 27 RX8 yX8_removePiece wsX8_removePiece) := goodIn_app (goodIn_of _ (by decide +kernel)) ggL_law_X8_removePiece
set_option maxRecDepth 20000 in
theorem ggL_law_X7_setShare : GoodIn wsL_law wsX7_setShare := goodIn_r _ [311, 312, 313, 314, 2, 315, 21, 35, 279, 280, 281, 14, 282, 50, 242, 243, 244, 245, 246, 247, 163, 164, 124, 125, 126, 127, 128, 129, 34, 130, 95, 94, 131, 132, 133, 134, 93, 135, 136, 137, 138, 46, 139, 140, 141, 142, 47, 48, 49, 51, 316, 170, 171, 172, 260, 257, 258, 259, 181, 182, 921, 922, 923, 924, 925, 926, 927, 928, 948, 949, 950, 951, 952, 953, 970, 971, 972] (by decide +kernel) (by decide +kernel)
set_option maxRecDepth 20000 in
theorem gL_law_X7_setShare : GoodIn wsL_law (wsV RL 28 RX7 yX7_setShare wsX7_setShare) := goodIn_app (goodIn_of _ (by decide +kernel)) ggL_law_X7_setShare
set_option maxRecDepth 20000 in
theorem ggL_law_X8_setShare : GoodIn wsL_law wsX8_setShare := goodIn_r _ [320, 300, 301, 302, 5, 303, 110, 202, 203, 204, 321, 322, 323, 324, 205, 206, 207, 208, 209, 111, 929, 930, 931, 932, 933, 934, 935, 936, 937, 938, 939, 940, 941, 942, 943, 944, 945, 946, 947] (by decide +kernel) (by decide +kernel)
set_option maxRecDepth 20000 in
theorem gL_law_X8_setShare : GoodIn wsL_law (wsV RL 31 RX8 yX8_setShare wsX8_setShare) := goodIn_app (goodIn_of _ (by decide +kernel)) ggL_law_X8_setShare
set_option maxRecDepth 20000 in
theorem ggL_law_X7_setFrame : GoodIn wsL_law wsX7_setFrame := goodIn_r _ [328, 312, 313, 314, 2, 315, 21, 35, 279, 280, 281, 14, 282, 50, 242, 243, 244, 245, 246, 247, 163, 164, 124, 125, 126, 127, 128, 129, 34, 130, 95, 94, 131, 132, 133, 134, 93, 135, 136, 137, 138, 46, 139, 140, 141, 142, 47, 48, 49, 51, 316, 170, 171, 172, 260, 257, 258, 259, 181, 182, 921, 922, 923, 924, 925, 926, 927, 928, 948, 949, 950, 951, 952, 953, 970, 971, 972] (by decide +kernel) (by decide +kernel)
set_option maxRecDepth 20000 in
theorem gL_law_X7_setFrame : GoodIn wsL_law (wsV RL 32 RX7 yX7_setFrame wsX7_setFrame) := goodIn_app (goodIn_of _ (by decide +kernel)) ggL_law_X7_setFrame
set_option maxRecDepth 20000 in
theorem ggL_law_X8_setFrame : GoodIn wsL_law wsX8_setFrame := goodIn_r _ [332, 300, 301, 302, 5, 303, 110, 202, 203, 204, 321, 322, 323, 324, 205, 206, 207, 208, 209, 111, 929, 930, 931, 932, 933, 934, 935, 936, 937, 938, 939, 940, 941, 942, 943, 944, 945, 946, 947] (by decide +kernel) (by decide +kernel)
set_option maxRecDepth 20000 in
theorem gL_law_X8_setFrame : GoodIn wsL_law (wsV RL 35 RX8 yX8_setFrame wsX8_setFrame) := goodIn_app (goodIn_of _ (by decide +kernel)) ggL_law_X8_setFrame
set_option maxRecDepth 20000 in
theorem ggL_law_X7_shift : GoodIn wsL_law wsX7_shift := goodIn_r _ [336, 21, 35, 279, 280, 281, 14, 282, 50, 124, 125, 2, 126, 337, 338, 339, 340, 341, 170, 171, 172, 46, 243, 244, 245, 246, 247, 163, 164, 127, 128, 129, 34, 130, 95, 94, 131, 132, 133, 134, 93, 135, 136, 137, 138, 139, 140, 141, 142, 47, 48, 49, 51, 342, 343, 344, 345, 346, 347, 348, 349, 256, 257, 258, 259, 181, 182, 921, 922, 923, 924, 925, 926, 927, 928, 948, 949, 950, 951, 952, 953, 970, 971, 972] (by decide +kernel) (by decide +kernel)
set_option maxRecDepth 20000 in
theorem gL_law_X7_shift : GoodIn wsL_law (wsV RL 36 RX7 yX7_shift wsX7_shift) := goodIn_app (goodIn_of _ (by decide +kernel)) ggL_law_X7_shift
set_option maxRecDepth 20000 in
theorem ggL_law_X8_shift : GoodIn wsL_law wsX8_shift := goodIn_r _ [353, 110, 300, 301, 302, 5, 303, 202, 203, 204, 354, 355, 356, 357, 222, 223, 224, 225, 265, 266, 267, 205, 206, 207, 208, 209, 111, 358, 359, 360, 361, 362, 363, 364, 929, 930, 931, 932, 933, 934, 935, 936, 937, 938, 939, 940, 941, 942, 943, 944, 945, 946, 947] (by decide +kernel) (by decide +kernel)
set_option maxRecDepth 20000 in
theorem gL_law_X8_shift : GoodIn wsL_law (wsV RL 40 RX8 yX8_shift wsX8_shift) := goodIn_app (goodIn_of _ (by decide +kernel)) ggL_law_X8_shift
set_option maxRecDepth 20000 in
theorem ggL_law_X7_setLayer : GoodIn wsL_law wsX7_setLayer := goodIn_r _ [368, 21, 35, 279, 280, 281, 14, 282, 50, 127, 128, 129, 34, 130, 95, 94, 131, 132, 133, 134, 93, 135, 136, 137, 138, 46, 139, 140, 141, 142, 47, 48, 49, 51, 369, 288, 289, 290, 291, 292, 293, 294, 163, 2, 164, 181, 182, 921, 922, 923, 924, 925, 926, 927, 928, 948, 949, 950, 951, 952, 953, 970, 971, 972] (by decide +kernel) (by decide +kernel)
set_option maxRecDepth 20000 in
theorem gL_law_X7_setLayer : GoodIn wsL_law (wsV RL 41 RX7 yX7_setLayer wsX7_setLayer) := goodIn_app (goodIn_of _ (by decide +kernel)) ggL_law_X7_setLayer
set_option maxRecDepth 20000 in
theorem ggL_law_X8_setLayer : GoodIn wsL_law wsX8_setLayer := goodIn_r _ [373, 110, 300, 301, 302, 5, 303, 202, 203, 204, 205, 206, 207, 208, 209, 111, 374, 375, 376, 377, 304, 305, 306, 307, 929, 930, 931, 932, 933, 934, 935, 936, 937, 938, 939, 940, 941, 942, 943, 944, 945, 946, 947] (by decide +kernel) (by decide +kernel)
set_option maxRecDepth 20000 in
theorem gL_law_X8_setLayer : GoodIn wsL_law (wsV RL 44 RX8 yX8_setLayer wsX8_setLayer) := goodIn_app (goodIn_of _ (by decide +kernel)) ggL_law_X8_setLayer
set_option maxRecDepth 20000 in
theorem ggL_law_X7_arrange : GoodIn wsL_law wsX7_arrange := goodIn_r _ [381, 23, 21, 35, 147, 148, 149, 17, 150, 58, 56, 151, 152, 153, 154, 155, 156, 157, 14, 158, 50, 159, 160, 161, 162, 47, 163, 2, 164, 165, 166, 167, 168, 57, 59, 169, 170, 171, 172, 46, 173, 174, 175, 176, 48, 177, 178, 179, 180, 49, 181, 182, 183, 184, 185, 186, 187, 188, 189, 190, 191, 192, 193, 194, 195, 196, 197, 295, 127, 128, 129, 34, 130, 95, 94, 131, 132, 133, 134, 93, 135, 136, 137, 138, 139, 140, 141, 142, 51, 382, 383, 384, 385, 31, 386, 387, 388, 389, 30, 390, 81, 80, 391, 347, 348, 349, 392, 393, 394, 395, 396, 83, 397, 398, 399, 400, 401, 402, 403, 84, 85, 404, 338, 339, 340, 341, 243, 244, 245, 246, 247, 124, 125, 126, 405, 406, 257, 258, 259, 407, 408, 409, 410, 411, 412, 413, 414, 415, 416, 417, 418, 419, 342, 343, 344, 345, 346, 256, 921, 922, 923, 924, 925, 926, 927, 928, 954, 955, 956, 957, 948, 949, 950, 951, 952, 953, 970, 971, 972, 965, 966, 967, 968, 969] (by decide +kernel) (by decide +kernel)
set_option maxRecDepth 20000 in
theorem gL_law_X7_arrange : GoodIn wsL_law (wsV RL 45 RX7 yX7_arrange wsX7_arrange) := goodIn_app (goodIn_of _ (by decide +kernel)) ggL_law_X7_arrange
set_option maxRecDepth 20000 in
theorem ggL_law_X8_arrange : GoodIn wsL_law wsX8_arrange := goodIn_r _ [423, 110, 210, 211, 212, 5, 213, 214, 215, 216, 217, 113, 114, 218, 219, 220, 221, 222, 223, 224, 225, 226, 227, 228, 229, 230, 231, 232, 233, 234, 235, 236, 237, 205, 206, 207, 208, 209, 111, 424, 425, 426, 427, 428, 429, 430, 431, 432, 433, 362, 363, 364, 434, 435, 436, 437, 354, 355, 356, 357, 265, 266, 267, 202, 203, 204, 358, 359, 360, 361, 438, 439, 440, 441, 929, 930, 931, 932, 933, 934, 935, 936, 937, 938, 939, 940, 941, 942, 943, 944, 945, 946, 947] (by decide +kernel) (by decide +kernel)
set_option maxRecDepth 20000 in
theorem gL_law_X8_arrange : GoodIn wsL_law (wsV RL 49 RX8 yX8_arrange wsX8_arrange) := goodIn_app (goodIn_of _ (by decide +kernel)) ggL_law_X8_arrange
set_option maxRecDepth 20000 in
theorem ggL_law_X7_append : GoodIn wsL_law wsX7_append := goodIn_r _ [445, 36, 124, 125, 2, 126, 446, 447, 448, 20, 449, 65, 450, 451, 452, 453, 64, 181, 182, 454, 455, 456, 457, 921, 922, 923, 924, 925, 926, 927, 928, 958, 959] (by decide +kernel) (by decide +kernel)
set_option maxRecDepth 20000 in
theorem gL_law_X7_append : GoodIn wsL_law (wsV RL 50 RX7 yX7_append wsX7_append) := goodIn_app (goodIn_of _ (by decide +kernel)) ggL_law_X7_append
set_option maxRecDepth 20000 in
theorem ggL_law_X8_append : GoodIn wsL_law wsX8_append := goodIn_r _ [461, 462, 112, 202, 203, 5, 204, 929, 930, 931, 932, 933, 934, 935, 936, 937, 938, 939, 940, 941, 942, 943, 944, 945, 946, 947] (by decide +kernel) (by decide +kernel)
set_option maxRecDepth 20000 in
theorem gL_law_X8_append : GoodIn wsL_law (wsV RL 53 RX8 yX8_append wsX8_append) := goodIn_app (goodIn_of _ (by decide +kernel)) ggL_law_X8_append
set_option maxRecDepth 20000 in
theorem ggL_law_X7_clearText : GoodIn wsL_law wsX7_clearText := goodIn_r _ [466, 36, 454, 455, 456, 20, 457, 65, 467, 468, 469, 470, 921, 922, 923, 924, 925, 926, 927, 928, 958, 959] (by decide +kernel) (by decide +kernel)
set_option maxRecDepth 20000 in
theorem gL_law_X7_clearText : GoodIn wsL_law (wsV RL 54 RX7 yX7_clearText wsX7_clearText) := goodIn_app (goodIn_of _ (by decide +kernel)) ggL_law_X7_clearText
set_option maxRecDepth 20000 in
theorem ggL_law_X8_clearText : GoodIn wsL_law wsX8_clearText := goodIn_r _ [474, 462, 929, 930, 931, 932, 933, 934, 935, 936, 937, 938, 939, 940, 941, 942, 943, 944, 945, 946, 947] (by decide +kernel) (by decide +kernel)
set_option maxRecDepth 20000 in
theorem gL_law_X8_clearText : GoodIn wsL_law (wsV RL 57 RX8 yX8_clearText wsX8_clearText) := goodIn_app (goodIn_of _ (by decide +kernel)) ggL_law_X8_clearText
set_option maxRecDepth 20000 in
theorem ggL_law_X7_load : GoodIn wsL_law wsX7_load := goodIn_r _ [478, 22, 21, 40, 35, 36, 479, 136, 137, 14, 138, 46, 139, 140, 141, 142, 47, 48, 49, 50, 51, 480, 481, 482, 39, 483, 105, 102, 104, 484, 485, 486, 487, 101, 488, 455, 456, 20, 457, 65, 489, 490, 491, 492, 64, 125, 2, 126, 493, 494, 495, 496, 497, 498, 499, 500, 103, 501, 502, 348, 503, 504, 505, 506, 507, 508, 509, 510, 511, 512, 513, 514, 515, 516, 517, 518, 519, 520, 521, 522, 523, 524, 525, 526, 527, 528, 529, 530, 531, 532, 533, 534, 535, 536, 537, 538, 539, 540, 541, 542, 543, 544, 545, 546, 547, 548, 549, 550, 551, 552, 553, 554, 555, 556, 557, 558, 559, 560, 561, 562, 563, 564, 565, 144, 145, 146, 566, 249, 250, 251, 567, 568, 569, 570, 571, 253, 254, 255, 256, 257, 258, 259, 181, 182, 163, 164, 572, 127, 128, 129, 34, 130, 95, 94, 131, 132, 133, 134, 93, 135, 467, 468, 469, 470, 921, 922, 923, 924, 925, 926, 927, 928, 948, 949, 950, 951, 952, 953, 973, 974, 975, 976, 977, 958, 959, 970, 971, 972] (by decide +kernel) (by decide +kernel)
set_option maxRecDepth 20000 in
theorem gL_law_X7_load : GoodIn wsL_law (wsV RL 58 RX7 yX7_load wsX7_load) := goodIn_app (goodIn_of _ (by decide +kernel)) ggL_law_X7_load
set_option maxRecDepth 20000 in
theorem ggL_law_X8_load : GoodIn wsL_law wsX8_load := goodIn_r _ [576, 116, 110, 577, 462, 578, 579, 580, 581, 5, 582, 583, 584, 585, 586, 587, 588, 589, 590, 591, 592, 112, 202, 203, 204, 593, 594, 595, 596, 597, 598, 599, 600, 601, 602, 603, 604, 605, 606, 607, 608, 609, 610, 611, 612, 613, 614, 615, 616, 617, 618, 619, 115, 620, 621, 622, 623, 271, 272, 273, 274, 624, 625, 626, 627, 205, 206, 207, 208, 209, 111, 929, 930, 931, 932, 933, 934, 935, 936, 937, 938, 939, 940, 941, 942, 943, 944, 945, 946, 947] (by decide +kernel) (by decide +kernel)
set_option maxRecDepth 20000 in
theorem gL_law_X8_load : GoodIn wsL_law (wsV RL 61 RX8 yX8_load wsX8_load) := goodIn_app (goodIn_of _ (by decide +kernel)) ggL_law_X8_load
