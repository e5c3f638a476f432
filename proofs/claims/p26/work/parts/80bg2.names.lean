set_option maxRecDepth 100000 in
theorem gL_shares_X7_count : GoodIn wsL_shares (wsV RL 9 RX7 yX7_count wsX7_count) := goodIn_app (goodIn_of _ (by decide +kernel)) ggL_shares_X7_count
set_option maxRecDepth 100000 in
theorem ggL_shares_X7_byShare : GoodIn wsL_shares wsX7_byShare := goodIn_r _ [131, 6, 7, 10, 11, 12, 13, 14, 15, 16, 17, 18, 19, 20, 21, 22, 23, 24, 25, 26, 27, 28, 29, 30, 31, 32, 4, 33, 34, 35, 36, 37, 38, 39, 40, 41, 42, 43, 44, 45, 46, 47, 48, 49, 50, 51, 52, 53, 54, 55, 56, 57, 58, 59, 60, 61, 62, 63, 64, 132, 133, 134, 135, 136, 137, 138, 139, 140, 141, 142, 143, 144, 145, 146, 147, 148, 213, 214, 215, 216, 217, 218, 219, 220, 221, 222, 223, 224, 225, 226, 227, 228, 229, 230] rfl (by decide +kernel)
set_option maxRecDepth 100000 in
theorem gL_shares_X7_byShare : GoodIn wsL_shares (wsV RL 37 RX7 yX7_byShare wsX7_byShare) := goodIn_app (goodIn_of _ (by decide +kernel)) ggL_shares_X7_byShare
set_option maxRecDepth 100000 in
theorem ggL_shares_X7_piece_h : GoodIn wsL_shares [.code yX7_piece cX7_piece 3 (some .int)] := goodIn_r _ [152] rfl (by decide +kernel)
set_option maxRecDepth 100000 in
theorem ggL_shares_X7_piece_r1 : GoodIn wsL_shares wsX7_piece_r1 := goodIn_r _ [7, 6, 153, 154, 155, 156, 24, 157, 26, 158, 159, 4, 160, 161, 41, 42, 43, 44, 10, 11, 12, 13, 14, 15] rfl (by decide +kernel)
set_option maxRecDepth 100000 in
theorem ggL_shares_X7_piece_r2 : GoodIn wsL_shares wsX7_piece_r2 := goodIn_r _ [16, 17, 18, 19, 20, 21, 22, 23, 25, 27, 28, 29, 30, 31, 32, 33, 34, 35, 36, 37, 38, 39, 40, 45] rfl (by decide +kernel)
set_option maxRecDepth 100000 in
theorem ggL_shares_X7_piece_r3 : GoodIn wsL_shares wsX7_piece_r3 := goodIn_r _ [46, 47, 48, 49, 50, 51, 52, 53, 54, 55, 56, 57, 58, 59, 60, 61, 62, 63, 162, 146, 147, 148, 163, 164] rfl (by decide +kernel)
set_option maxRecDepth 100000 in
theorem ggL_shares_X7_piece_r4 : GoodIn wsL_shares wsX7_piece_r4 := goodIn_r _ [165, 166, 167, 78, 79, 80, 168, 169, 170, 171, 172, 173, 174, 175, 176, 177, 178, 95, 179, 180, 102, 103, 104, 105] rfl (by decide +kernel)
set_option maxRecDepth 100000 in
theorem ggL_shares_X7_piece_r5 : GoodIn wsL_shares wsX7_piece_r5 := goodIn_r _ [66, 67, 68, 181, 182, 183, 184, 185, 186, 187, 188, 189, 190, 191, 192, 193, 194, 195, 196, 197, 198, 199, 200, 90] rfl (by decide +kernel)
set_option maxRecDepth 100000 in
theorem ggL_shares_X7_piece_r6 : GoodIn wsL_shares wsX7_piece_r6 := goodIn_r _ [91, 92, 93, 94, 96, 97, 98, 99, 100, 101, 201, 202, 203, 204, 205, 206, 207, 208, 144, 209, 210, 211, 212, 141] rfl (by decide +kernel)
set_option maxRecDepth 100000 in
theorem ggL_shares_X7_piece_r7 : GoodIn wsL_shares wsX7_piece_r7 := goodIn_r _ [142, 143] rfl (by decide +kernel)
set_option maxRecDepth 100000 in
theorem ggL_shares_X7_piece_X70 : GoodIn wsL_shares wsX70 := goodIn_r _ [213, 214, 215, 216, 217, 218, 219, 220] rfl (by decide +kernel)
set_option maxRecDepth 100000 in
theorem ggL_shares_X7_piece_X10 : GoodIn wsL_shares wsX10 := goodIn_r _ [225, 226, 227, 228, 229, 230] rfl (by decide +kernel)
set_option maxRecDepth 100000 in
theorem ggL_shares_X7_piece_X50 : GoodIn wsL_shares wsX50 := goodIn_r _ [221, 222, 223, 224] rfl (by decide +kernel)
set_option maxRecDepth 100000 in
theorem ggL_shares_X7_piece_X20 : GoodIn wsL_shares wsX20 := goodIn_r _ [236, 237, 238, 239, 240] rfl (by decide +kernel)
set_option maxRecDepth 100000 in
theorem ggL_shares_X7_piece : GoodIn wsL_shares wsX7_piece := goodIn_app ggL_shares_X7_piece_h (goodIn_app (goodIn_app (goodIn_app (goodIn_app (goodIn_app ggL_shares_X7_piece_r1 (goodIn_app ggL_shares_X7_piece_r2 (goodIn_app ggL_shares_X7_piece_r3 (goodIn_app ggL_shares_X7_piece_r4 (goodIn_app ggL_shares_X7_piece_r5 (goodIn_app ggL_shares_X7_piece_r6 ggL_shares_X7_piece_r7)))))) ggL_shares_X7_piece_X70) ggL_shares_X7_piece_X10) ggL_shares_X7_piece_X50) ggL_shares_X7_piece_X20)
set_option maxRecDepth 100000 in
theorem gL_shares_X7_piece : GoodIn wsL_shares (wsV RL 15 RX7 yX7_piece wsX7_piece) := goodIn_app (goodIn_of _ (by decide +kernel)) ggL_shares_X7_piece
theorem dL_shares_0 : decode cL_shares 0 = .ok (.aload_n 0, 1) := by decide +kernel
theorem dL_shares_1 : decode cL_shares 1 = .ok (.iconst 0, 1) := by decide +kernel
theorem dL_shares_2 : decode cL_shares 2 = .ok (.invokevirtual 9, 3) := by decide +kernel
theorem dL_shares_5 : decode cL_shares 5 = .ok (.istore_n 1, 1) := by decide +kernel
theorem dL_shares_6 : decode cL_shares 6 = .ok (.iconst 0, 1) := by decide +kernel
theorem dL_shares_7 : decode cL_shares 7 = .ok (.istore_n 2, 1) := by decide +kernel
theorem dL_shares_8 : decode cL_shares 8 = .ok (.iconst (-1), 1) := by decide +kernel
theorem dL_shares_9 : decode cL_shares 9 = .ok (.istore_n 3, 1) := by decide +kernel
theorem dL_shares_10 : decode cL_shares 10 = .ok (.iconst 0, 1) := by decide +kernel
theorem dL_shares_11 : decode cL_shares 11 = .ok (.istore 4, 2) := by decide +kernel
theorem dL_shares_13 : decode cL_shares 13 = .ok (.iload 4, 2) := by decide +kernel
theorem dL_shares_15 : decode cL_shares 15 = .ok (.iload_n 1, 1) := by decide +kernel
theorem dL_shares_16 : decode cL_shares 16 = .ok (.if_icmp .ge 137, 3) := by decide +kernel
theorem dL_shares_19 : decode cL_shares 19 = .ok (.aload_n 0, 1) := by decide +kernel
theorem dL_shares_20 : decode cL_shares 20 = .ok (.iload 4, 2) := by decide +kernel
theorem dL_shares_22 : decode cL_shares 22 = .ok (.invokevirtual 37, 3) := by decide +kernel
theorem dL_shares_25 : decode cL_shares 25 = .ok (.istore 5, 2) := by decide +kernel
theorem dL_shares_27 : decode cL_shares 27 = .ok (.iload 5, 2) := by decide +kernel
theorem dL_shares_29 : decode cL_shares 29 = .ok (.ifCond .lt 19, 3) := by decide +kernel
theorem dL_shares_32 : decode cL_shares 32 = .ok (.iload 5, 2) := by decide +kernel
theorem dL_shares_34 : decode cL_shares 34 = .ok (.iload_n 1, 1) := by decide +kernel
theorem dL_shares_35 : decode cL_shares 35 = .ok (.if_icmp .ge 13, 3) := by decide +kernel
theorem dL_shares_38 : decode cL_shares 38 = .ok (.iload_n 2, 1) := by decide +kernel
theorem dL_shares_39 : decode cL_shares 39 = .ok (.iload 5, 2) := by decide +kernel
theorem dL_shares_41 : decode cL_shares 41 = .ok (.ishr, 1) := by decide +kernel
theorem dL_shares_42 : decode cL_shares 42 = .ok (.iconst 1, 1) := by decide +kernel
theorem dL_shares_43 : decode cL_shares 43 = .ok (.iand, 1) := by decide +kernel
theorem dL_shares_44 : decode cL_shares 44 = .ok (.iconst 1, 1) := by decide +kernel
theorem dL_shares_45 : decode cL_shares 45 = .ok (.if_icmp .ne 5, 3) := by decide +kernel
theorem dL_shares_48 : decode cL_shares 48 = .ok (.iconst 0, 1) := by decide +kernel
theorem dL_shares_49 : decode cL_shares 49 = .ok (.ireturn, 1) := by decide +kernel
theorem dL_shares_50 : decode cL_shares 50 = .ok (.bipush 100, 2) := by decide +kernel
theorem dL_shares_52 : decode cL_shares 52 = .ok (.aload_n 0, 1) := by decide +kernel
theorem dL_shares_53 : decode cL_shares 53 = .ok (.iload 5, 2) := by decide +kernel
theorem dL_shares_55 : decode cL_shares 55 = .ok (.bipush 7, 2) := by decide +kernel
theorem dL_shares_57 : decode cL_shares 57 = .ok (.invokevirtual 15, 3) := by decide +kernel
theorem dL_shares_60 : decode cL_shares 60 = .ok (.imul, 1) := by decide +kernel
theorem dL_shares_61 : decode cL_shares 61 = .ok (.aload_n 0, 1) := by decide +kernel
theorem dL_shares_62 : decode cL_shares 62 = .ok (.iload 5, 2) := by decide +kernel
theorem dL_shares_64 : decode cL_shares 64 = .ok (.iconst 2, 1) := by decide +kernel
theorem dL_shares_65 : decode cL_shares 65 = .ok (.invokevirtual 15, 3) := by decide +kernel
theorem dL_shares_68 : decode cL_shares 68 = .ok (.aload_n 0, 1) := by decide +kernel
theorem dL_shares_69 : decode cL_shares 69 = .ok (.iload 5, 2) := by decide +kernel
theorem dL_shares_71 : decode cL_shares 71 = .ok (.iconst 3, 1) := by decide +kernel
theorem dL_shares_72 : decode cL_shares 72 = .ok (.invokevirtual 15, 3) := by decide +kernel
theorem dL_shares_75 : decode cL_shares 75 = .ok (.imul, 1) := by decide +kernel
theorem dL_shares_76 : decode cL_shares 76 = .ok (.idiv, 1) := by decide +kernel
theorem dL_shares_77 : decode cL_shares 77 = .ok (.istore 6, 2) := by decide +kernel
theorem dL_shares_79 : decode cL_shares 79 = .ok (.iload 4, 2) := by decide +kernel
theorem dL_shares_81 : decode cL_shares 81 = .ok (.ifCond .ne 8, 3) := by decide +kernel
theorem dL_shares_84 : decode cL_shares 84 = .ok (.iload 5, 2) := by decide +kernel
theorem dL_shares_86 : decode cL_shares 86 = .ok (.goto 11, 3) := by decide +kernel
theorem dL_shares_89 : decode cL_shares 89 = .ok (.aload_n 0, 1) := by decide +kernel
theorem dL_shares_90 : decode cL_shares 90 = .ok (.iload 4, 2) := by decide +kernel
theorem dL_shares_92 : decode cL_shares 92 = .ok (.iconst 1, 1) := by decide +kernel
theorem dL_shares_93 : decode cL_shares 93 = .ok (.isub, 1) := by decide +kernel
theorem dL_shares_94 : decode cL_shares 94 = .ok (.invokevirtual 37, 3) := by decide +kernel
theorem dL_shares_97 : decode cL_shares 97 = .ok (.istore 7, 2) := by decide +kernel
theorem dL_shares_99 : decode cL_shares 99 = .ok (.iload 6, 2) := by decide +kernel
theorem dL_shares_101 : decode cL_shares 101 = .ok (.iload_n 3, 1) := by decide +kernel
theorem dL_shares_102 : decode cL_shares 102 = .ok (.if_icmp .lt 33, 3) := by decide +kernel
theorem dL_shares_105 : decode cL_shares 105 = .ok (.iload 4, 2) := by decide +kernel
theorem dL_shares_107 : decode cL_shares 107 = .ok (.ifCond .le 30, 3) := by decide +kernel
theorem dL_shares_110 : decode cL_shares 110 = .ok (.iload 6, 2) := by decide +kernel
theorem dL_shares_112 : decode cL_shares 112 = .ok (.iload_n 3, 1) := by decide +kernel
theorem dL_shares_113 : decode cL_shares 113 = .ok (.if_icmp .ne 24, 3) := by decide +kernel
theorem dL_shares_116 : decode cL_shares 116 = .ok (.aload_n 0, 1) := by decide +kernel
theorem dL_shares_117 : decode cL_shares 117 = .ok (.iload 7, 2) := by decide +kernel
theorem dL_shares_119 : decode cL_shares 119 = .ok (.bipush 6, 2) := by decide +kernel
theorem dL_shares_121 : decode cL_shares 121 = .ok (.invokevirtual 15, 3) := by decide +kernel
theorem dL_shares_124 : decode cL_shares 124 = .ok (.aload_n 0, 1) := by decide +kernel
theorem dL_shares_125 : decode cL_shares 125 = .ok (.iload 5, 2) := by decide +kernel
theorem dL_shares_127 : decode cL_shares 127 = .ok (.bipush 6, 2) := by decide +kernel
theorem dL_shares_129 : decode cL_shares 129 = .ok (.invokevirtual 15, 3) := by decide +kernel
theorem dL_shares_132 : decode cL_shares 132 = .ok (.if_icmp .le 5, 3) := by decide +kernel
theorem dL_shares_135 : decode cL_shares 135 = .ok (.iconst 0, 1) := by decide +kernel
theorem dL_shares_136 : decode cL_shares 136 = .ok (.ireturn, 1) := by decide +kernel
theorem dL_shares_137 : decode cL_shares 137 = .ok (.iload_n 2, 1) := by decide +kernel
theorem dL_shares_138 : decode cL_shares 138 = .ok (.iconst 1, 1) := by decide +kernel
theorem dL_shares_139 : decode cL_shares 139 = .ok (.iload 5, 2) := by decide +kernel
theorem dL_shares_141 : decode cL_shares 141 = .ok (.ishl, 1) := by decide +kernel
theorem dL_shares_142 : decode cL_shares 142 = .ok (.ior, 1) := by decide +kernel
theorem dL_shares_143 : decode cL_shares 143 = .ok (.istore_n 2, 1) := by decide +kernel
theorem dL_shares_144 : decode cL_shares 144 = .ok (.iload 6, 2) := by decide +kernel
theorem dL_shares_146 : decode cL_shares 146 = .ok (.istore_n 3, 1) := by decide +kernel
theorem dL_shares_147 : decode cL_shares 147 = .ok (.iinc 4 1, 3) := by decide +kernel
theorem dL_shares_150 : decode cL_shares 150 = .ok (.goto (-137), 3) := by decide +kernel
theorem dL_shares_153 : decode cL_shares 153 = .ok (.aload_n 0, 1) := by decide +kernel
theorem dL_shares_154 : decode cL_shares 154 = .ok (.iload_n 1, 1) := by decide +kernel
theorem dL_shares_155 : decode cL_shares 155 = .ok (.invokevirtual 37, 3) := by decide +kernel
theorem dL_shares_158 : decode cL_shares 158 = .ok (.bipush (-109), 2) := by decide +kernel
theorem dL_shares_160 : decode cL_shares 160 = .ok (.if_icmp .ne 17, 3) := by decide +kernel
theorem dL_shares_163 : decode cL_shares 163 = .ok (.aload_n 0, 1) := by decide +kernel
theorem dL_shares_164 : decode cL_shares 164 = .ok (.iconst (-1), 1) := by decide +kernel
theorem dL_shares_165 : decode cL_shares 165 = .ok (.invokevirtual 37, 3) := by decide +kernel
theorem dL_shares_168 : decode cL_shares 168 = .ok (.bipush (-101), 2) := by decide +kernel
theorem dL_shares_170 : decode cL_shares 170 = .ok (.if_icmp .ne 7, 3) := by decide +kernel
theorem dL_shares_173 : decode cL_shares 173 = .ok (.iconst 1, 1) := by decide +kernel
theorem dL_shares_174 : decode cL_shares 174 = .ok (.goto 4, 3) := by decide +kernel
theorem dL_shares_177 : decode cL_shares 177 = .ok (.iconst 0, 1) := by decide +kernel
theorem dL_shares_178 : decode cL_shares 178 = .ok (.ireturn, 1) := by decide +kernel
set_option maxRecDepth 100000 in
theorem ggL_plans_X7_layerFor_h : GoodIn wsL_plans [.code yX7_layerFor cX7_layerFor 2 (some .int)] := goodIn_r _ [5] rfl (by decide +kernel)
set_option maxRecDepth 100000 in
theorem ggL_plans_X7_layerFor_r1 : GoodIn wsL_plans wsX7_layerFor_r1 := goodIn_r _ [6, 7, 8, 9, 10, 11, 12, 13, 14, 15, 16, 17, 18, 19, 20, 21, 22, 23, 24, 25, 26, 27, 28, 29] rfl (by decide +kernel)
set_option maxRecDepth 100000 in
theorem ggL_plans_X7_layerFor_r2 : GoodIn wsL_plans wsX7_layerFor_r2 := goodIn_r _ [30, 31, 32, 33, 34, 35, 36, 37, 38, 39, 40, 41, 42, 43, 44, 45, 46, 47, 4, 48, 49, 50, 51, 52] rfl (by decide +kernel)
set_option maxRecDepth 100000 in
theorem ggL_plans_X7_layerFor_r3 : GoodIn wsL_plans wsX7_layerFor_r3 := goodIn_r _ [53, 54, 55, 56, 57, 58, 59, 60, 61, 62, 63, 64, 65, 66, 67, 68, 69, 70, 71, 72, 73, 74, 75, 76] rfl (by decide +kernel)
set_option maxRecDepth 100000 in
theorem ggL_plans_X7_layerFor_r4 : GoodIn wsL_plans wsX7_layerFor_r4 := goodIn_r _ [77, 78, 79, 80, 81, 82, 83, 84, 85, 86, 87, 88, 89, 90, 91, 92, 93, 94, 95] rfl (by decide +kernel)
set_option maxRecDepth 100000 in
theorem ggL_plans_X7_layerFor_X70 : GoodIn wsL_plans wsX70 := goodIn_r _ [311, 312, 313, 314, 315, 316, 317, 318] rfl (by decide +kernel)
set_option maxRecDepth 100000 in
theorem ggL_plans_X7_layerFor_X10 : GoodIn wsL_plans wsX10 := goodIn_r _ [319, 320, 321, 322, 323, 324] rfl (by decide +kernel)
set_option maxRecDepth 100000 in
theorem ggL_plans_X7_layerFor_X30 : GoodIn wsL_plans wsX30 := goodIn_r _ [325, 326, 327, 328, 329] rfl (by decide +kernel)
set_option maxRecDepth 100000 in
theorem ggL_plans_X7_layerFor_X50 : GoodIn wsL_plans wsX50 := goodIn_r _ [330, 331, 332, 333] rfl (by decide +kernel)
set_option maxRecDepth 100000 in
theorem ggL_plans_X7_layerFor : GoodIn wsL_plans wsX7_layerFor := goodIn_app ggL_plans_X7_layerFor_h (goodIn_app (goodIn_app (goodIn_app (goodIn_app (goodIn_app ggL_plans_X7_layerFor_r1 (goodIn_app ggL_plans_X7_layerFor_r2 (goodIn_app ggL_plans_X7_layerFor_r3 ggL_plans_X7_layerFor_r4))) ggL_plans_X7_layerFor_X70) ggL_plans_X7_layerFor_X10) ggL_plans_X7_layerFor_X30) ggL_plans_X7_layerFor_X50)
set_option maxRecDepth 100000 in
theorem gL_plans_X7_layerFor : GoodIn wsL_plans (wsV RL 40 RX7 yX7_layerFor wsX7_layerFor) := goodIn_app (goodIn_of _ (by decide +kernel)) ggL_plans_X7_layerFor
set_option maxRecDepth 100000 in
theorem ggL_plans_X7_piece_h : GoodIn wsL_plans [.code yX7_piece cX7_piece 3 (some .int)] := goodIn_r _ [99] rfl (by decide +kernel)
set_option maxRecDepth 100000 in
theorem ggL_plans_X7_piece_r1 : GoodIn wsL_plans wsX7_piece_r1 := goodIn_r _ [6, 100, 101, 8, 9, 10, 11, 12, 13, 102, 103, 4, 104, 105, 74, 75, 76, 26, 106, 52, 53, 54, 55, 56] rfl (by decide +kernel)
set_option maxRecDepth 100000 in
theorem ggL_plans_X7_piece_r2 : GoodIn wsL_plans wsX7_piece_r2 := goodIn_r _ [57, 58, 59, 60, 61, 62, 36, 37, 38, 63, 64, 65, 66, 31, 47, 48, 67, 68, 69, 70, 71, 72, 73, 77] rfl (by decide +kernel)
set_option maxRecDepth 100000 in
theorem ggL_plans_X7_piece_r3 : GoodIn wsL_plans wsX7_piece_r3 := goodIn_r _ [78, 79, 80, 32, 81, 82, 83, 84, 33, 49, 50, 85, 86, 87, 88, 89, 90, 91, 107, 44, 45, 46, 108, 109] rfl (by decide +kernel)
set_option maxRecDepth 100000 in
theorem ggL_plans_X7_piece_r4 : GoodIn wsL_plans wsX7_piece_r4 := goodIn_r _ [110, 111, 112, 93, 94, 95, 113, 114, 115, 116, 117, 118, 119, 120, 121, 122, 123, 124, 125, 126, 127, 128, 129, 130] rfl (by decide +kernel)
set_option maxRecDepth 100000 in
theorem ggL_plans_X7_piece_r5 : GoodIn wsL_plans wsX7_piece_r5 := goodIn_r _ [131, 132, 133, 134, 135, 136, 137, 138, 139, 140, 141, 142, 143, 144, 145, 146, 147, 148, 149, 150, 151, 152, 153, 154] rfl (by decide +kernel)
set_option maxRecDepth 100000 in
theorem ggL_plans_X7_piece_r6 : GoodIn wsL_plans wsX7_piece_r6 := goodIn_r _ [155, 156, 157, 158, 159, 160, 161, 162, 163, 164, 165, 166, 167, 168, 169, 170, 171, 172, 173, 174, 175, 176, 177, 178] rfl (by decide +kernel)
set_option maxRecDepth 100000 in
theorem ggL_plans_X7_piece_r7 : GoodIn wsL_plans wsX7_piece_r7 := goodIn_r _ [179, 180] rfl (by decide +kernel)
set_option maxRecDepth 100000 in
theorem ggL_plans_X7_piece_X70 : GoodIn wsL_plans wsX70 := goodIn_r _ [311, 312, 313, 314, 315, 316, 317, 318] rfl (by decide +kernel)
set_option maxRecDepth 100000 in
theorem ggL_plans_X7_piece_X10 : GoodIn wsL_plans wsX10 := goodIn_r _ [319, 320, 321, 322, 323, 324] rfl (by decide +kernel)
set_option maxRecDepth 100000 in
theorem ggL_plans_X7_piece_X50 : GoodIn wsL_plans wsX50 := goodIn_r _ [330, 331, 332, 333] rfl (by decide +kernel)
set_option maxRecDepth 100000 in
theorem ggL_plans_X7_piece_X20 : GoodIn wsL_plans wsX20 := goodIn_r _ [334, 335, 336, 337, 338] rfl (by decide +kernel)
set_option maxRecDepth 100000 in
theorem ggL_plans_X7_piece : GoodIn wsL_plans wsX7_piece := goodIn_app ggL_plans_X7_piece_h (goodIn_app (goodIn_app (goodIn_app (goodIn_app (goodIn_app ggL_plans_X7_piece_r1 (goodIn_app ggL_plans_X7_piece_r2 (goodIn_app ggL_plans_X7_piece_r3 (goodIn_app ggL_plans_X7_piece_r4 (goodIn_app ggL_plans_X7_piece_r5 (goodIn_app ggL_plans_X7_piece_r6 ggL_plans_X7_piece_r7)))))) ggL_plans_X7_piece_X70) ggL_plans_X7_piece_X10) ggL_plans_X7_piece_X50) ggL_plans_X7_piece_X20)
set_option maxRecDepth 100000 in
theorem gL_plans_X7_piece : GoodIn wsL_plans (wsV RL 15 RX7 yX7_piece wsX7_piece) := goodIn_app (goodIn_of _ (by decide +kernel)) ggL_plans_X7_piece
set_option maxRecDepth 100000 in
theorem ggL_plans_X7_count_h : GoodIn wsL_plans [.code yX7_count cX7_count 2 (some .int)] := goodIn_r _ [184] rfl (by decide +kernel)
set_option maxRecDepth 100000 in
theorem ggL_plans_X7_count_r1 : GoodIn wsL_plans wsX7_count_r1 := goodIn_r _ [100, 6, 185, 186, 106, 52, 53, 54, 55, 56, 57, 58, 59, 60, 61, 62, 36, 37, 11, 38, 13, 63, 64, 65] rfl (by decide +kernel)
set_option maxRecDepth 100000 in
theorem ggL_plans_X7_count_r2 : GoodIn wsL_plans wsX7_count_r2 := goodIn_r _ [66, 31, 47, 4, 48, 67, 68, 69, 70, 71, 72, 73, 74, 75, 76, 26, 77, 78, 79, 80, 32, 81, 82, 83] rfl (by decide +kernel)
set_option maxRecDepth 100000 in
theorem ggL_plans_X7_count_r3 : GoodIn wsL_plans wsX7_count_r3 := goodIn_r _ [84, 33, 49, 50, 85, 86, 87, 88, 89, 90, 91, 187, 188, 131, 132, 133, 189, 190, 191, 192, 193, 194, 195, 196] rfl (by decide +kernel)
set_option maxRecDepth 100000 in
theorem ggL_plans_X7_count_r4 : GoodIn wsL_plans wsX7_count_r4 := goodIn_r _ [197, 93, 94, 95, 198, 199, 200, 201, 202, 203, 204, 205, 206, 154, 155, 156, 157, 158, 124, 159, 160, 161, 162, 163] rfl (by decide +kernel)
set_option maxRecDepth 100000 in
theorem ggL_plans_X7_count_r5 : GoodIn wsL_plans wsX7_count_r5 := goodIn_r _ [164, 127, 128, 129, 130, 207, 208, 209, 210, 211, 212, 213, 214, 215, 34, 216, 217, 218, 219, 220, 221, 222, 223, 224] rfl (by decide +kernel)
