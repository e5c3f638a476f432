set_option maxRecDepth 100000 in
theorem ggL_cells_X7_count_h : GoodIn wsL_cells [.code yX7_count cX7_count 2 (some .int)] := goodIn_r _ [5] rfl (by decide +kernel)
set_option maxRecDepth 100000 in
theorem ggL_cells_X7_count_r1 : GoodIn wsL_cells wsX7_count_r1 := goodIn_r _ [6, 7, 8, 9, 10, 11, 12, 13, 14, 15, 16, 17, 18, 19, 20, 21, 22, 23, 24, 25, 26, 27, 28, 29] rfl (by decide +kernel)
set_option maxRecDepth 100000 in
theorem ggL_cells_X7_count_r2 : GoodIn wsL_cells wsX7_count_r2 := goodIn_r _ [30, 31, 32, 4, 33, 34, 35, 36, 37, 38, 39, 40, 41, 42, 43, 44, 45, 46, 47, 48, 49, 50, 51, 52] rfl (by decide +kernel)
set_option maxRecDepth 100000 in
theorem ggL_cells_X7_count_r3 : GoodIn wsL_cells wsX7_count_r3 := goodIn_r _ [53, 54, 55, 56, 57, 58, 59, 60, 61, 62, 63, 64, 65, 66, 67, 68, 69, 70, 71, 72, 73, 74, 75, 76] rfl (by decide +kernel)
set_option maxRecDepth 100000 in
theorem ggL_cells_X7_count_r4 : GoodIn wsL_cells wsX7_count_r4 := goodIn_r _ [77, 78, 79, 80, 81, 82, 83, 84, 85, 86, 87, 88, 89, 90, 91, 92, 93, 94, 95, 96, 97, 98, 99, 100] rfl (by decide +kernel)
set_option maxRecDepth 100000 in
theorem ggL_cells_X7_count_r5 : GoodIn wsL_cells wsX7_count_r5 := goodIn_r _ [101, 102, 103, 104, 105, 106, 107, 108, 109, 110, 111, 112, 113, 114, 115, 116, 117, 118, 119, 120, 121, 122, 123, 124] rfl (by decide +kernel)
set_option maxRecDepth 100000 in
theorem ggL_cells_X7_count_r6 : GoodIn wsL_cells wsX7_count_r6 := goodIn_r _ [125, 126, 127] rfl (by decide +kernel)
set_option maxRecDepth 100000 in
theorem ggL_cells_X7_count_X70 : GoodIn wsL_cells wsX70 := goodIn_r _ [215, 216, 217, 218, 219, 220, 221, 222] rfl (by decide +kernel)
set_option maxRecDepth 100000 in
theorem ggL_cells_X7_count_X50 : GoodIn wsL_cells wsX50 := goodIn_r _ [223, 224, 225, 226] rfl (by decide +kernel)
set_option maxRecDepth 100000 in
theorem ggL_cells_X7_count_X10 : GoodIn wsL_cells wsX10 := goodIn_r _ [227, 228, 229, 230, 231, 232] rfl (by decide +kernel)
set_option maxRecDepth 100000 in
theorem ggL_cells_X7_count_X00 : GoodIn wsL_cells wsX00 := goodIn_r _ [233, 234, 235] rfl (by decide +kernel)
set_option maxRecDepth 100000 in
theorem ggL_cells_X7_count_X60 : GoodIn wsL_cells wsX60 := goodIn_r _ [236, 237] rfl (by decide +kernel)
set_option maxRecDepth 100000 in
theorem ggL_cells_X7_count : GoodIn wsL_cells wsX7_count := goodIn_app ggL_cells_X7_count_h (goodIn_app (goodIn_app (goodIn_app (goodIn_app (goodIn_app (goodIn_app ggL_cells_X7_count_r1 (goodIn_app ggL_cells_X7_count_r2 (goodIn_app ggL_cells_X7_count_r3 (goodIn_app ggL_cells_X7_count_r4 (goodIn_app ggL_cells_X7_count_r5 ggL_cells_X7_count_r6))))) ggL_cells_X7_count_X70) ggL_cells_X7_count_X50) ggL_cells_X7_count_X10) ggL_cells_X7_count_X00) ggL_cells_X7_count_X60)
set_option maxRecDepth 100000 in
theorem gL_cells_X7_count : GoodIn wsL_cells (wsV RL 9 RX7 yX7_count wsX7_count) := goodIn_app (goodIn_of _ (by decide +kernel)) ggL_cells_X7_count
set_option maxRecDepth 100000 in
theorem ggL_cells_X7_seen : GoodIn wsL_cells wsX7_seen := goodIn_r _ [131, 7, 132, 133, 134, 24, 135, 49, 136, 51, 52, 53, 54, 137, 138, 139, 140, 26, 31, 32, 4, 33, 141, 142, 143, 144, 145, 41, 42, 43, 44, 146, 46, 47, 48, 215, 216, 217, 218, 219, 220, 221, 222, 227, 228, 229, 230, 231, 232] rfl (by decide +kernel)
set_option maxRecDepth 100000 in
theorem gL_cells_X7_seen : GoodIn wsL_cells (wsV RL 30 RX7 yX7_seen wsX7_seen) := goodIn_app (goodIn_of _ (by decide +kernel)) ggL_cells_X7_seen
set_option maxRecDepth 100000 in
theorem ggL_cells_X7_covering : GoodIn wsL_cells wsX7_covering := goodIn_r _ [150, 7, 132, 133, 134, 24, 135, 49, 136, 51, 52, 53, 54, 137, 138, 139, 140, 26, 31, 32, 4, 33, 141, 142, 143, 144, 145, 41, 42, 43, 44, 146, 46, 47, 48, 215, 216, 217, 218, 219, 220, 221, 222, 227, 228, 229, 230, 231, 232] rfl (by decide +kernel)
set_option maxRecDepth 100000 in
theorem gL_cells_X7_covering : GoodIn wsL_cells (wsV RL 33 RX7 yX7_covering wsX7_covering) := goodIn_app (goodIn_of _ (by decide +kernel)) ggL_cells_X7_covering
set_option maxRecDepth 100000 in
theorem ggL_cells_X7_piece_h : GoodIn wsL_cells [.code yX7_piece cX7_piece 3 (some .int)] := goodIn_r _ [154] rfl (by decide +kernel)
set_option maxRecDepth 100000 in
theorem ggL_cells_X7_piece_r1 : GoodIn wsL_cells wsX7_piece_r1 := goodIn_r _ [7, 6, 155, 156, 157, 158, 24, 159, 26, 160, 161, 4, 162, 163, 41, 42, 43, 44, 10, 11, 12, 13, 14, 15] rfl (by decide +kernel)
set_option maxRecDepth 100000 in
theorem ggL_cells_X7_piece_r2 : GoodIn wsL_cells wsX7_piece_r2 := goodIn_r _ [16, 17, 18, 19, 20, 21, 22, 23, 25, 27, 28, 29, 30, 31, 32, 33, 34, 35, 36, 37, 38, 39, 40, 45] rfl (by decide +kernel)
set_option maxRecDepth 100000 in
theorem ggL_cells_X7_piece_r3 : GoodIn wsL_cells wsX7_piece_r3 := goodIn_r _ [46, 47, 48, 49, 50, 51, 52, 53, 54, 55, 56, 57, 58, 59, 60, 61, 62, 63, 164, 165, 166, 167, 168, 169] rfl (by decide +kernel)
set_option maxRecDepth 100000 in
theorem ggL_cells_X7_piece_r4 : GoodIn wsL_cells wsX7_piece_r4 := goodIn_r _ [170, 171, 172, 78, 79, 80, 173, 174, 175, 176, 177, 178, 179, 180, 181, 182, 183, 95, 184, 185, 102, 103, 104, 105] rfl (by decide +kernel)
set_option maxRecDepth 100000 in
theorem ggL_cells_X7_piece_r5 : GoodIn wsL_cells wsX7_piece_r5 := goodIn_r _ [66, 67, 68, 186, 187, 188, 189, 190, 191, 192, 193, 194, 195, 196, 197, 198, 199, 200, 201, 202, 203, 204, 205, 90] rfl (by decide +kernel)
set_option maxRecDepth 100000 in
theorem ggL_cells_X7_piece_r6 : GoodIn wsL_cells wsX7_piece_r6 := goodIn_r _ [91, 92, 93, 94, 96, 97, 98, 99, 100, 101, 206, 207, 208, 209, 141, 142, 143, 144, 145, 136, 146, 210, 211, 212] rfl (by decide +kernel)
set_option maxRecDepth 100000 in
theorem ggL_cells_X7_piece_r7 : GoodIn wsL_cells wsX7_piece_r7 := goodIn_r _ [213, 214] rfl (by decide +kernel)
set_option maxRecDepth 100000 in
theorem ggL_cells_X7_piece_X70 : GoodIn wsL_cells wsX70 := goodIn_r _ [215, 216, 217, 218, 219, 220, 221, 222] rfl (by decide +kernel)
set_option maxRecDepth 100000 in
theorem ggL_cells_X7_piece_X10 : GoodIn wsL_cells wsX10 := goodIn_r _ [227, 228, 229, 230, 231, 232] rfl (by decide +kernel)
set_option maxRecDepth 100000 in
theorem ggL_cells_X7_piece_X50 : GoodIn wsL_cells wsX50 := goodIn_r _ [223, 224, 225, 226] rfl (by decide +kernel)
set_option maxRecDepth 100000 in
theorem ggL_cells_X7_piece_X20 : GoodIn wsL_cells wsX20 := goodIn_r _ [238, 239, 240, 241, 242] rfl (by decide +kernel)
set_option maxRecDepth 100000 in
theorem ggL_cells_X7_piece : GoodIn wsL_cells wsX7_piece := goodIn_app ggL_cells_X7_piece_h (goodIn_app (goodIn_app (goodIn_app (goodIn_app (goodIn_app ggL_cells_X7_piece_r1 (goodIn_app ggL_cells_X7_piece_r2 (goodIn_app ggL_cells_X7_piece_r3 (goodIn_app ggL_cells_X7_piece_r4 (goodIn_app ggL_cells_X7_piece_r5 (goodIn_app ggL_cells_X7_piece_r6 ggL_cells_X7_piece_r7)))))) ggL_cells_X7_piece_X70) ggL_cells_X7_piece_X10) ggL_cells_X7_piece_X50) ggL_cells_X7_piece_X20)
set_option maxRecDepth 100000 in
theorem gL_cells_X7_piece : GoodIn wsL_cells (wsV RL 15 RX7 yX7_piece wsX7_piece) := goodIn_app (goodIn_of _ (by decide +kernel)) ggL_cells_X7_piece
theorem dL_cells_0 : decode cL_cells 0 = .ok (.aload_n 0, 1) := by decide +kernel
theorem dL_cells_1 : decode cL_cells 1 = .ok (.iconst 1, 1) := by decide +kernel
theorem dL_cells_2 : decode cL_cells 2 = .ok (.invokevirtual 9, 3) := by decide +kernel
theorem dL_cells_5 : decode cL_cells 5 = .ok (.istore_n 1, 1) := by decide +kernel
theorem dL_cells_6 : decode cL_cells 6 = .ok (.aload_n 0, 1) := by decide +kernel
theorem dL_cells_7 : decode cL_cells 7 = .ok (.iconst 2, 1) := by decide +kernel
theorem dL_cells_8 : decode cL_cells 8 = .ok (.invokevirtual 9, 3) := by decide +kernel
theorem dL_cells_11 : decode cL_cells 11 = .ok (.istore_n 2, 1) := by decide +kernel
theorem dL_cells_12 : decode cL_cells 12 = .ok (.iconst 0, 1) := by decide +kernel
theorem dL_cells_13 : decode cL_cells 13 = .ok (.istore_n 3, 1) := by decide +kernel
theorem dL_cells_14 : decode cL_cells 14 = .ok (.iconst 0, 1) := by decide +kernel
theorem dL_cells_15 : decode cL_cells 15 = .ok (.istore 4, 2) := by decide +kernel
theorem dL_cells_17 : decode cL_cells 17 = .ok (.iload 4, 2) := by decide +kernel
theorem dL_cells_19 : decode cL_cells 19 = .ok (.iload_n 1, 1) := by decide +kernel
theorem dL_cells_20 : decode cL_cells 20 = .ok (.if_icmp .ge 146, 3) := by decide +kernel
theorem dL_cells_23 : decode cL_cells 23 = .ok (.iconst 0, 1) := by decide +kernel
theorem dL_cells_24 : decode cL_cells 24 = .ok (.istore 5, 2) := by decide +kernel
theorem dL_cells_26 : decode cL_cells 26 = .ok (.iload 5, 2) := by decide +kernel
theorem dL_cells_28 : decode cL_cells 28 = .ok (.iload_n 2, 1) := by decide +kernel
theorem dL_cells_29 : decode cL_cells 29 = .ok (.if_icmp .ge 131, 3) := by decide +kernel
theorem dL_cells_32 : decode cL_cells 32 = .ok (.aload_n 0, 1) := by decide +kernel
theorem dL_cells_33 : decode cL_cells 33 = .ok (.iload 4, 2) := by decide +kernel
theorem dL_cells_35 : decode cL_cells 35 = .ok (.iload 5, 2) := by decide +kernel
theorem dL_cells_37 : decode cL_cells 37 = .ok (.invokevirtual 30, 3) := by decide +kernel
theorem dL_cells_40 : decode cL_cells 40 = .ok (.istore 6, 2) := by decide +kernel
theorem dL_cells_42 : decode cL_cells 42 = .ok (.aload_n 0, 1) := by decide +kernel
theorem dL_cells_43 : decode cL_cells 43 = .ok (.iload 4, 2) := by decide +kernel
theorem dL_cells_45 : decode cL_cells 45 = .ok (.iload 5, 2) := by decide +kernel
theorem dL_cells_47 : decode cL_cells 47 = .ok (.iconst 0, 1) := by decide +kernel
theorem dL_cells_48 : decode cL_cells 48 = .ok (.invokevirtual 33, 3) := by decide +kernel
theorem dL_cells_51 : decode cL_cells 51 = .ok (.istore 7, 2) := by decide +kernel
theorem dL_cells_53 : decode cL_cells 53 = .ok (.aload_n 0, 1) := by decide +kernel
theorem dL_cells_54 : decode cL_cells 54 = .ok (.iload 4, 2) := by decide +kernel
theorem dL_cells_56 : decode cL_cells 56 = .ok (.iload 5, 2) := by decide +kernel
theorem dL_cells_58 : decode cL_cells 58 = .ok (.iconst 1, 1) := by decide +kernel
theorem dL_cells_59 : decode cL_cells 59 = .ok (.invokevirtual 33, 3) := by decide +kernel
theorem dL_cells_62 : decode cL_cells 62 = .ok (.istore 8, 2) := by decide +kernel
theorem dL_cells_64 : decode cL_cells 64 = .ok (.iload_n 3, 1) := by decide +kernel
theorem dL_cells_65 : decode cL_cells 65 = .ok (.iload 6, 2) := by decide +kernel
theorem dL_cells_67 : decode cL_cells 67 = .ok (.iconst (-1), 1) := by decide +kernel
theorem dL_cells_68 : decode cL_cells 68 = .ok (.if_icmp .ne 7, 3) := by decide +kernel
theorem dL_cells_71 : decode cL_cells 71 = .ok (.iconst 1, 1) := by decide +kernel
theorem dL_cells_72 : decode cL_cells 72 = .ok (.goto 4, 3) := by decide +kernel
theorem dL_cells_75 : decode cL_cells 75 = .ok (.iconst 0, 1) := by decide +kernel
theorem dL_cells_76 : decode cL_cells 76 = .ok (.iadd, 1) := by decide +kernel
theorem dL_cells_77 : decode cL_cells 77 = .ok (.istore_n 3, 1) := by decide +kernel
theorem dL_cells_78 : decode cL_cells 78 = .ok (.iload 6, 2) := by decide +kernel
theorem dL_cells_80 : decode cL_cells 80 = .ok (.iload 7, 2) := by decide +kernel
theorem dL_cells_82 : decode cL_cells 82 = .ok (.bipush (-109), 2) := by decide +kernel
theorem dL_cells_84 : decode cL_cells 84 = .ok (.if_icmp .ne 7, 3) := by decide +kernel
theorem dL_cells_87 : decode cL_cells 87 = .ok (.iconst (-1), 1) := by decide +kernel
theorem dL_cells_88 : decode cL_cells 88 = .ok (.goto 5, 3) := by decide +kernel
theorem dL_cells_91 : decode cL_cells 91 = .ok (.iload 7, 2) := by decide +kernel
theorem dL_cells_93 : decode cL_cells 93 = .ok (.if_icmp .ne 59, 3) := by decide +kernel
theorem dL_cells_96 : decode cL_cells 96 = .ok (.iload 7, 2) := by decide +kernel
theorem dL_cells_98 : decode cL_cells 98 = .ok (.bipush (-109), 2) := by decide +kernel
theorem dL_cells_100 : decode cL_cells 100 = .ok (.if_icmp .ne 10, 3) := by decide +kernel
theorem dL_cells_103 : decode cL_cells 103 = .ok (.iload 8, 2) := by decide +kernel
theorem dL_cells_105 : decode cL_cells 105 = .ok (.bipush (-109), 2) := by decide +kernel
theorem dL_cells_107 : decode cL_cells 107 = .ok (.if_icmp .ne 45, 3) := by decide +kernel
theorem dL_cells_110 : decode cL_cells 110 = .ok (.iload 8, 2) := by decide +kernel
theorem dL_cells_112 : decode cL_cells 112 = .ok (.ifCond .lt 22, 3) := by decide +kernel
theorem dL_cells_115 : decode cL_cells 115 = .ok (.aload_n 0, 1) := by decide +kernel
theorem dL_cells_116 : decode cL_cells 116 = .ok (.iload 8, 2) := by decide +kernel
theorem dL_cells_118 : decode cL_cells 118 = .ok (.bipush 6, 2) := by decide +kernel
theorem dL_cells_120 : decode cL_cells 120 = .ok (.invokevirtual 15, 3) := by decide +kernel
theorem dL_cells_123 : decode cL_cells 123 = .ok (.aload_n 0, 1) := by decide +kernel
theorem dL_cells_124 : decode cL_cells 124 = .ok (.iload 7, 2) := by decide +kernel
theorem dL_cells_126 : decode cL_cells 126 = .ok (.bipush 6, 2) := by decide +kernel
theorem dL_cells_128 : decode cL_cells 128 = .ok (.invokevirtual 15, 3) := by decide +kernel
theorem dL_cells_131 : decode cL_cells 131 = .ok (.if_icmp .ge 21, 3) := by decide +kernel
theorem dL_cells_134 : decode cL_cells 134 = .ok (.aload_n 0, 1) := by decide +kernel
theorem dL_cells_135 : decode cL_cells 135 = .ok (.iload 4, 2) := by decide +kernel
theorem dL_cells_137 : decode cL_cells 137 = .ok (.iload 5, 2) := by decide +kernel
theorem dL_cells_139 : decode cL_cells 139 = .ok (.aload_n 0, 1) := by decide +kernel
theorem dL_cells_140 : decode cL_cells 140 = .ok (.iconst 0, 1) := by decide +kernel
theorem dL_cells_141 : decode cL_cells 141 = .ok (.invokevirtual 9, 3) := by decide +kernel
theorem dL_cells_144 : decode cL_cells 144 = .ok (.invokevirtual 33, 3) := by decide +kernel
theorem dL_cells_147 : decode cL_cells 147 = .ok (.bipush (-109), 2) := by decide +kernel
theorem dL_cells_149 : decode cL_cells 149 = .ok (.if_icmp .eq 5, 3) := by decide +kernel
theorem dL_cells_152 : decode cL_cells 152 = .ok (.iconst 0, 1) := by decide +kernel
theorem dL_cells_153 : decode cL_cells 153 = .ok (.ireturn, 1) := by decide +kernel
theorem dL_cells_154 : decode cL_cells 154 = .ok (.iinc 5 1, 3) := by decide +kernel
theorem dL_cells_157 : decode cL_cells 157 = .ok (.goto (-131), 3) := by decide +kernel
theorem dL_cells_160 : decode cL_cells 160 = .ok (.iinc 4 1, 3) := by decide +kernel
theorem dL_cells_163 : decode cL_cells 163 = .ok (.goto (-146), 3) := by decide +kernel
theorem dL_cells_166 : decode cL_cells 166 = .ok (.iload_n 3, 1) := by decide +kernel
theorem dL_cells_167 : decode cL_cells 167 = .ok (.aload_n 0, 1) := by decide +kernel
theorem dL_cells_168 : decode cL_cells 168 = .ok (.bipush 6, 2) := by decide +kernel
theorem dL_cells_170 : decode cL_cells 170 = .ok (.invokevirtual 9, 3) := by decide +kernel
theorem dL_cells_173 : decode cL_cells 173 = .ok (.if_icmp .ne 41, 3) := by decide +kernel
theorem dL_cells_176 : decode cL_cells 176 = .ok (.aload_n 0, 1) := by decide +kernel
theorem dL_cells_177 : decode cL_cells 177 = .ok (.iload_n 1, 1) := by decide +kernel
theorem dL_cells_178 : decode cL_cells 178 = .ok (.iconst 0, 1) := by decide +kernel
theorem dL_cells_179 : decode cL_cells 179 = .ok (.invokevirtual 30, 3) := by decide +kernel
theorem dL_cells_182 : decode cL_cells 182 = .ok (.bipush (-101), 2) := by decide +kernel
theorem dL_cells_184 : decode cL_cells 184 = .ok (.if_icmp .ne 30, 3) := by decide +kernel
theorem dL_cells_187 : decode cL_cells 187 = .ok (.aload_n 0, 1) := by decide +kernel
theorem dL_cells_188 : decode cL_cells 188 = .ok (.iconst 0, 1) := by decide +kernel
theorem dL_cells_189 : decode cL_cells 189 = .ok (.iload_n 2, 1) := by decide +kernel
theorem dL_cells_190 : decode cL_cells 190 = .ok (.invokevirtual 30, 3) := by decide +kernel
theorem dL_cells_193 : decode cL_cells 193 = .ok (.bipush (-101), 2) := by decide +kernel
theorem dL_cells_195 : decode cL_cells 195 = .ok (.if_icmp .ne 19, 3) := by decide +kernel
theorem dL_cells_198 : decode cL_cells 198 = .ok (.aload_n 0, 1) := by decide +kernel
theorem dL_cells_199 : decode cL_cells 199 = .ok (.iconst (-1), 1) := by decide +kernel
theorem dL_cells_200 : decode cL_cells 200 = .ok (.iconst 0, 1) := by decide +kernel
theorem dL_cells_201 : decode cL_cells 201 = .ok (.iconst 0, 1) := by decide +kernel
theorem dL_cells_202 : decode cL_cells 202 = .ok (.invokevirtual 33, 3) := by decide +kernel
theorem dL_cells_205 : decode cL_cells 205 = .ok (.bipush (-101), 2) := by decide +kernel
theorem dL_cells_207 : decode cL_cells 207 = .ok (.if_icmp .ne 7, 3) := by decide +kernel
theorem dL_cells_210 : decode cL_cells 210 = .ok (.iconst 1, 1) := by decide +kernel
theorem dL_cells_211 : decode cL_cells 211 = .ok (.goto 4, 3) := by decide +kernel
theorem dL_cells_214 : decode cL_cells 214 = .ok (.iconst 0, 1) := by decide +kernel
theorem dL_cells_215 : decode cL_cells 215 = .ok (.ireturn, 1) := by decide +kernel
set_option maxRecDepth 100000 in
theorem ggL_shares_X7_count_h : GoodIn wsL_shares [.code yX7_count cX7_count 2 (some .int)] := goodIn_r _ [5] rfl (by decide +kernel)
set_option maxRecDepth 100000 in
theorem ggL_shares_X7_count_r1 : GoodIn wsL_shares wsX7_count_r1 := goodIn_r _ [6, 7, 8, 9, 10, 11, 12, 13, 14, 15, 16, 17, 18, 19, 20, 21, 22, 23, 24, 25, 26, 27, 28, 29] rfl (by decide +kernel)
set_option maxRecDepth 100000 in
theorem ggL_shares_X7_count_r2 : GoodIn wsL_shares wsX7_count_r2 := goodIn_r _ [30, 31, 32, 4, 33, 34, 35, 36, 37, 38, 39, 40, 41, 42, 43, 44, 45, 46, 47, 48, 49, 50, 51, 52] rfl (by decide +kernel)
set_option maxRecDepth 100000 in
theorem ggL_shares_X7_count_r3 : GoodIn wsL_shares wsX7_count_r3 := goodIn_r _ [53, 54, 55, 56, 57, 58, 59, 60, 61, 62, 63, 64, 65, 66, 67, 68, 69, 70, 71, 72, 73, 74, 75, 76] rfl (by decide +kernel)
set_option maxRecDepth 100000 in
theorem ggL_shares_X7_count_r4 : GoodIn wsL_shares wsX7_count_r4 := goodIn_r _ [77, 78, 79, 80, 81, 82, 83, 84, 85, 86, 87, 88, 89, 90, 91, 92, 93, 94, 95, 96, 97, 98, 99, 100] rfl (by decide +kernel)
set_option maxRecDepth 100000 in
theorem ggL_shares_X7_count_r5 : GoodIn wsL_shares wsX7_count_r5 := goodIn_r _ [101, 102, 103, 104, 105, 106, 107, 108, 109, 110, 111, 112, 113, 114, 115, 116, 117, 118, 119, 120, 121, 122, 123, 124] rfl (by decide +kernel)
set_option maxRecDepth 100000 in
theorem ggL_shares_X7_count_r6 : GoodIn wsL_shares wsX7_count_r6 := goodIn_r _ [125, 126, 127] rfl (by decide +kernel)
set_option maxRecDepth 100000 in
theorem ggL_shares_X7_count_X70 : GoodIn wsL_shares wsX70 := goodIn_r _ [213, 214, 215, 216, 217, 218, 219, 220] rfl (by decide +kernel)
set_option maxRecDepth 100000 in
theorem ggL_shares_X7_count_X50 : GoodIn wsL_shares wsX50 := goodIn_r _ [221, 222, 223, 224] rfl (by decide +kernel)
set_option maxRecDepth 100000 in
theorem ggL_shares_X7_count_X10 : GoodIn wsL_shares wsX10 := goodIn_r _ [225, 226, 227, 228, 229, 230] rfl (by decide +kernel)
set_option maxRecDepth 100000 in
theorem ggL_shares_X7_count_X00 : GoodIn wsL_shares wsX00 := goodIn_r _ [231, 232, 233] rfl (by decide +kernel)
set_option maxRecDepth 100000 in
theorem ggL_shares_X7_count_X60 : GoodIn wsL_shares wsX60 := goodIn_r _ [234, 235] rfl (by decide +kernel)
set_option maxRecDepth 100000 in
theorem ggL_shares_X7_count : GoodIn wsL_shares wsX7_count := goodIn_app ggL_shares_X7_count_h (goodIn_app (goodIn_app (goodIn_app (goodIn_app (goodIn_app (goodIn_app ggL_shares_X7_count_r1 (goodIn_app ggL_shares_X7_count_r2 (goodIn_app ggL_shares_X7_count_r3 (goodIn_app ggL_shares_X7_count_r4 (goodIn_app ggL_shares_X7_count_r5 ggL_shares_X7_count_r6))))) ggL_shares_X7_count_X70) ggL_shares_X7_count_X50) ggL_shares_X7_count_X10) ggL_shares_X7_count_X00) ggL_shares_X7_count_X60)
