set_option maxRecDepth 100000 in
theorem gX7_piece_X5_cells : GoodIn wsX7_piece (wsV RX7 176 RX5 yX5_cells wsX5_cells) := goodIn_app (goodIn_of _ (by decide +kernel)) ggX7_piece_X5_cells
set_option maxRecDepth 100000 in
theorem ggX7_piece_X5_isContent : GoodIn wsX7_piece wsX5_isContent := goodIn_r _ [78, 25, 46, 47, 15, 16, 7, 17, 18, 39, 12, 40, 161, 162, 163, 164, 155, 156, 157, 158, 159, 160] rfl (by decide +kernel)
set_option maxRecDepth 100000 in
theorem gX7_piece_X5_isContent : GoodIn wsX7_piece (wsV RX7 179 RX5 yX5_isContent wsX5_isContent) := goodIn_app (goodIn_of _ (by decide +kernel)) ggX7_piece_X5_isContent
set_option maxRecDepth 100000 in
theorem ggX7_piece_X2_split : GoodIn wsX7_piece wsX2_split := goodIn_r _ [83, 84, 85, 86, 87, 88, 89, 90, 91, 92, 93, 94, 22, 95, 25, 24, 45, 96, 97, 98, 7, 99, 52, 48, 49, 50, 51, 53, 54, 55, 56, 57, 39, 12, 40, 47, 15, 16, 17, 18, 58, 59, 100, 101, 102, 82, 103, 104, 105, 27, 28, 29, 106, 107, 108, 109, 110, 61, 62, 63, 64, 65, 66, 165, 166, 167, 168, 169, 161, 162, 163, 164, 155, 156, 157, 158, 159, 160] rfl (by decide +kernel)
set_option maxRecDepth 100000 in
theorem gX7_piece_X2_split : GoodIn wsX7_piece (wsV RX7 182 RX2 yX2_split wsX2_split) := goodIn_app (goodIn_of _ (by decide +kernel)) ggX7_piece_X2_split
set_option maxRecDepth 100000 in
theorem ggX7_piece_X2_number : GoodIn wsX7_piece wsX2_number := goodIn_r _ [114, 84, 165, 166, 167, 168, 169] rfl (by decide +kernel)
set_option maxRecDepth 100000 in
theorem gX7_piece_X2_number : GoodIn wsX7_piece (wsV RX7 185 RX2 yX2_number wsX2_number) := goodIn_app (goodIn_of _ (by decide +kernel)) ggX7_piece_X2_number
set_option maxRecDepth 100000 in
theorem ggX7_piece_X2_largest : GoodIn wsX7_piece wsX2_largest := goodIn_r _ [118, 85, 165, 166, 167, 168, 169] rfl (by decide +kernel)
set_option maxRecDepth 100000 in
theorem gX7_piece_X2_largest : GoodIn wsX7_piece (wsV RX7 188 RX2 yX2_largest wsX2_largest) := goodIn_app (goodIn_of _ (by decide +kernel)) ggX7_piece_X2_largest
set_option maxRecDepth 100000 in
theorem ggX7_piece_X5_cutStrips : GoodIn wsX7_piece wsX5_cutStrips := goodIn_r _ [122, 25, 123, 124, 90, 125, 47, 15, 16, 7, 17, 18, 126, 127, 128, 22, 129, 48, 49, 50, 51, 52, 130, 93, 94, 95, 24, 45, 96, 97, 98, 99, 53, 54, 55, 56, 57, 39, 12, 40, 60, 61, 62, 63, 64, 65, 66, 161, 162, 163, 164, 155, 156, 157, 158, 159, 160] rfl (by decide +kernel)
set_option maxRecDepth 100000 in
theorem gX7_piece_X5_cutStrips : GoodIn wsX7_piece (wsV RX7 191 RX5 yX5_cutStrips wsX5_cutStrips) := goodIn_app (goodIn_of _ (by decide +kernel)) ggX7_piece_X5_cutStrips
set_option maxRecDepth 100000 in
theorem ggX7_piece_X1_cellsOutside : GoodIn wsX7_piece wsX1_cellsOutside := goodIn_r _ [134, 57, 135, 136, 137, 7, 138, 139, 15, 16, 17, 18, 140, 54, 55, 56, 141, 49, 50, 51, 52, 142, 61, 62, 63, 64, 65, 66, 143, 144, 145, 146, 155, 156, 157, 158, 159, 160] rfl (by decide +kernel)
set_option maxRecDepth 100000 in
theorem gX7_piece_X1_cellsOutside : GoodIn wsX7_piece (wsV RX7 194 RX1 yX1_cellsOutside wsX1_cellsOutside) := goodIn_app (goodIn_of _ (by decide +kernel)) ggX7_piece_X1_cellsOutside
theorem dX7_piece_0 : decode cX7_piece 0 = .ok (.aload_n 0, 1) := by decide +kernel
theorem dX7_piece_1 : decode cX7_piece 1 = .ok (.getfield 18, 3) := by decide +kernel
theorem dX7_piece_4 : decode cX7_piece 4 = .ok (.iload_n 1, 1) := by decide +kernel
theorem dX7_piece_5 : decode cX7_piece 5 = .ok (.invokevirtual 100, 3) := by decide +kernel
theorem dX7_piece_8 : decode cX7_piece 8 = .ok (.ifCond .ne 6, 3) := by decide +kernel
theorem dX7_piece_11 : decode cX7_piece 11 = .ok (.bipush (-101), 2) := by decide +kernel
theorem dX7_piece_13 : decode cX7_piece 13 = .ok (.ireturn, 1) := by decide +kernel
theorem dX7_piece_14 : decode cX7_piece 14 = .ok (.iload_n 2, 1) := by decide +kernel
theorem dX7_piece_15 : decode cX7_piece 15 = .ok (.iconst 0, 1) := by decide +kernel
theorem dX7_piece_16 : decode cX7_piece 16 = .ok (.iconst 5, 1) := by decide +kernel
theorem dX7_piece_17 : decode cX7_piece 17 = .ok (.invokestatic 67, 3) := by decide +kernel
theorem dX7_piece_20 : decode cX7_piece 20 = .ok (.ifCond .eq 13, 3) := by decide +kernel
theorem dX7_piece_23 : decode cX7_piece 23 = .ok (.aload_n 0, 1) := by decide +kernel
theorem dX7_piece_24 : decode cX7_piece 24 = .ok (.getfield 18, 3) := by decide +kernel
theorem dX7_piece_27 : decode cX7_piece 27 = .ok (.iload_n 1, 1) := by decide +kernel
theorem dX7_piece_28 : decode cX7_piece 28 = .ok (.iload_n 2, 1) := by decide +kernel
theorem dX7_piece_29 : decode cX7_piece 29 = .ok (.invokevirtual 169, 3) := by decide +kernel
theorem dX7_piece_32 : decode cX7_piece 32 = .ok (.ireturn, 1) := by decide +kernel
theorem dX7_piece_33 : decode cX7_piece 33 = .ok (.aload_n 0, 1) := by decide +kernel
theorem dX7_piece_34 : decode cX7_piece 34 = .ok (.getfield 27, 3) := by decide +kernel
theorem dX7_piece_37 : decode cX7_piece 37 = .ok (.invokevirtual 78, 3) := by decide +kernel
theorem dX7_piece_40 : decode cX7_piece 40 = .ok (.iload_n 2, 1) := by decide +kernel
theorem dX7_piece_41 : decode cX7_piece 41 = .ok (.tableswitch 128 6 12 #[43, 52, 61, 78, 94, 110, 119], 43) := by decide +kernel
theorem dX7_piece_84 : decode cX7_piece 84 = .ok (.aload_n 0, 1) := by decide +kernel
theorem dX7_piece_85 : decode cX7_piece 85 = .ok (.getfield 18, 3) := by decide +kernel
theorem dX7_piece_88 : decode cX7_piece 88 = .ok (.iload_n 1, 1) := by decide +kernel
theorem dX7_piece_89 : decode cX7_piece 89 = .ok (.invokevirtual 172, 3) := by decide +kernel
theorem dX7_piece_92 : decode cX7_piece 92 = .ok (.ireturn, 1) := by decide +kernel
theorem dX7_piece_93 : decode cX7_piece 93 = .ok (.aload_n 0, 1) := by decide +kernel
theorem dX7_piece_94 : decode cX7_piece 94 = .ok (.getfield 27, 3) := by decide +kernel
theorem dX7_piece_97 : decode cX7_piece 97 = .ok (.iload_n 1, 1) := by decide +kernel
theorem dX7_piece_98 : decode cX7_piece 98 = .ok (.invokevirtual 176, 3) := by decide +kernel
theorem dX7_piece_101 : decode cX7_piece 101 = .ok (.ireturn, 1) := by decide +kernel
theorem dX7_piece_102 : decode cX7_piece 102 = .ok (.aload_n 0, 1) := by decide +kernel
theorem dX7_piece_103 : decode cX7_piece 103 = .ok (.getfield 27, 3) := by decide +kernel
theorem dX7_piece_106 : decode cX7_piece 106 = .ok (.iload_n 1, 1) := by decide +kernel
theorem dX7_piece_107 : decode cX7_piece 107 = .ok (.invokevirtual 179, 3) := by decide +kernel
theorem dX7_piece_110 : decode cX7_piece 110 = .ok (.ifCond .eq 7, 3) := by decide +kernel
theorem dX7_piece_113 : decode cX7_piece 113 = .ok (.iconst 1, 1) := by decide +kernel
theorem dX7_piece_114 : decode cX7_piece 114 = .ok (.goto 4, 3) := by decide +kernel
theorem dX7_piece_117 : decode cX7_piece 117 = .ok (.iconst 0, 1) := by decide +kernel
theorem dX7_piece_118 : decode cX7_piece 118 = .ok (.ireturn, 1) := by decide +kernel
theorem dX7_piece_119 : decode cX7_piece 119 = .ok (.aload_n 0, 1) := by decide +kernel
theorem dX7_piece_120 : decode cX7_piece 120 = .ok (.getfield 36, 3) := by decide +kernel
theorem dX7_piece_123 : decode cX7_piece 123 = .ok (.iload_n 1, 1) := by decide +kernel
theorem dX7_piece_124 : decode cX7_piece 124 = .ok (.invokevirtual 182, 3) := by decide +kernel
theorem dX7_piece_127 : decode cX7_piece 127 = .ok (.aload_n 0, 1) := by decide +kernel
theorem dX7_piece_128 : decode cX7_piece 128 = .ok (.getfield 36, 3) := by decide +kernel
theorem dX7_piece_131 : decode cX7_piece 131 = .ok (.invokevirtual 185, 3) := by decide +kernel
theorem dX7_piece_134 : decode cX7_piece 134 = .ok (.ireturn, 1) := by decide +kernel
theorem dX7_piece_135 : decode cX7_piece 135 = .ok (.aload_n 0, 1) := by decide +kernel
theorem dX7_piece_136 : decode cX7_piece 136 = .ok (.getfield 36, 3) := by decide +kernel
theorem dX7_piece_139 : decode cX7_piece 139 = .ok (.iload_n 1, 1) := by decide +kernel
theorem dX7_piece_140 : decode cX7_piece 140 = .ok (.invokevirtual 182, 3) := by decide +kernel
theorem dX7_piece_143 : decode cX7_piece 143 = .ok (.aload_n 0, 1) := by decide +kernel
theorem dX7_piece_144 : decode cX7_piece 144 = .ok (.getfield 36, 3) := by decide +kernel
theorem dX7_piece_147 : decode cX7_piece 147 = .ok (.invokevirtual 188, 3) := by decide +kernel
theorem dX7_piece_150 : decode cX7_piece 150 = .ok (.ireturn, 1) := by decide +kernel
theorem dX7_piece_151 : decode cX7_piece 151 = .ok (.aload_n 0, 1) := by decide +kernel
theorem dX7_piece_152 : decode cX7_piece 152 = .ok (.getfield 27, 3) := by decide +kernel
theorem dX7_piece_155 : decode cX7_piece 155 = .ok (.iload_n 1, 1) := by decide +kernel
theorem dX7_piece_156 : decode cX7_piece 156 = .ok (.invokevirtual 191, 3) := by decide +kernel
theorem dX7_piece_159 : decode cX7_piece 159 = .ok (.ireturn, 1) := by decide +kernel
theorem dX7_piece_160 : decode cX7_piece 160 = .ok (.aload_n 0, 1) := by decide +kernel
theorem dX7_piece_161 : decode cX7_piece 161 = .ok (.getfield 18, 3) := by decide +kernel
theorem dX7_piece_164 : decode cX7_piece 164 = .ok (.iload_n 1, 1) := by decide +kernel
theorem dX7_piece_165 : decode cX7_piece 165 = .ok (.invokevirtual 194, 3) := by decide +kernel
theorem dX7_piece_168 : decode cX7_piece 168 = .ok (.ireturn, 1) := by decide +kernel
theorem dX7_piece_169 : decode cX7_piece 169 = .ok (.bipush (-101), 2) := by decide +kernel
theorem dX7_piece_171 : decode cX7_piece 171 = .ok (.ireturn, 1) := by decide +kernel
set_option maxRecDepth 100000 in
theorem ggX7_seen_X1_hasCell : GoodIn wsX7_seen wsX1_hasCell := goodIn_r _ [6, 7, 8, 9, 10, 5, 11, 12, 43, 44, 45, 46, 47, 48] rfl (by decide +kernel)
set_option maxRecDepth 100000 in
theorem gX7_seen_X1_hasCell : GoodIn wsX7_seen (wsV RX7 197 RX1 yX1_hasCell wsX1_hasCell) := goodIn_app (goodIn_of _ (by decide +kernel)) ggX7_seen_X1_hasCell
set_option maxRecDepth 100000 in
theorem ggX7_seen_X1_coveringPiece : GoodIn wsX7_seen wsX1_coveringPiece := goodIn_r _ [16, 17, 18, 19, 20, 21, 22, 23, 24, 5, 25, 26, 27, 28, 29, 30, 8, 9, 10, 11, 12, 31, 32, 33, 34, 7, 43, 44, 45, 46, 47, 48] rfl (by decide +kernel)
set_option maxRecDepth 100000 in
theorem gX7_seen_X1_coveringPiece : GoodIn wsX7_seen (wsV RX7 200 RX1 yX1_coveringPiece wsX1_coveringPiece) := goodIn_app (goodIn_of _ (by decide +kernel)) ggX7_seen_X1_coveringPiece
theorem dX7_seen_0 : decode cX7_seen 0 = .ok (.aload_n 0, 1) := by decide +kernel
theorem dX7_seen_1 : decode cX7_seen 1 = .ok (.getfield 18, 3) := by decide +kernel
theorem dX7_seen_4 : decode cX7_seen 4 = .ok (.iload_n 1, 1) := by decide +kernel
theorem dX7_seen_5 : decode cX7_seen 5 = .ok (.iload_n 2, 1) := by decide +kernel
theorem dX7_seen_6 : decode cX7_seen 6 = .ok (.invokevirtual 197, 3) := by decide +kernel
theorem dX7_seen_9 : decode cX7_seen 9 = .ok (.ifCond .ne 6, 3) := by decide +kernel
theorem dX7_seen_12 : decode cX7_seen 12 = .ok (.bipush (-101), 2) := by decide +kernel
theorem dX7_seen_14 : decode cX7_seen 14 = .ok (.ireturn, 1) := by decide +kernel
theorem dX7_seen_15 : decode cX7_seen 15 = .ok (.aload_n 0, 1) := by decide +kernel
theorem dX7_seen_16 : decode cX7_seen 16 = .ok (.getfield 18, 3) := by decide +kernel
theorem dX7_seen_19 : decode cX7_seen 19 = .ok (.iload_n 1, 1) := by decide +kernel
theorem dX7_seen_20 : decode cX7_seen 20 = .ok (.iload_n 2, 1) := by decide +kernel
theorem dX7_seen_21 : decode cX7_seen 21 = .ok (.iconst 0, 1) := by decide +kernel
theorem dX7_seen_22 : decode cX7_seen 22 = .ok (.invokevirtual 200, 3) := by decide +kernel
theorem dX7_seen_25 : decode cX7_seen 25 = .ok (.istore_n 3, 1) := by decide +kernel
theorem dX7_seen_26 : decode cX7_seen 26 = .ok (.iload_n 3, 1) := by decide +kernel
theorem dX7_seen_27 : decode cX7_seen 27 = .ok (.bipush (-109), 2) := by decide +kernel
theorem dX7_seen_29 : decode cX7_seen 29 = .ok (.if_icmp .ne 7, 3) := by decide +kernel
theorem dX7_seen_32 : decode cX7_seen 32 = .ok (.iconst (-1), 1) := by decide +kernel
theorem dX7_seen_33 : decode cX7_seen 33 = .ok (.goto 4, 3) := by decide +kernel
theorem dX7_seen_36 : decode cX7_seen 36 = .ok (.iload_n 3, 1) := by decide +kernel
theorem dX7_seen_37 : decode cX7_seen 37 = .ok (.ireturn, 1) := by decide +kernel
set_option maxRecDepth 100000 in
theorem ggX7_inLayer_X1_has : GoodIn wsX7_inLayer wsX1_has := goodIn_r _ [6, 7, 24, 25, 26, 27, 28, 29] rfl (by decide +kernel)
set_option maxRecDepth 100000 in
theorem gX7_inLayer_X1_has : GoodIn wsX7_inLayer (wsV RX7 100 RX1 yX1_has wsX1_has) := goodIn_app (goodIn_of _ (by decide +kernel)) ggX7_inLayer_X1_has
set_option maxRecDepth 100000 in
theorem ggX7_inLayer_X1_pieceIn : GoodIn wsX7_inLayer wsX1_pieceIn := goodIn_r _ [11, 12, 13, 14, 15, 24, 25, 26, 27, 28, 29] rfl (by decide +kernel)
set_option maxRecDepth 100000 in
theorem gX7_inLayer_X1_pieceIn : GoodIn wsX7_inLayer (wsV RX7 203 RX1 yX1_pieceIn wsX1_pieceIn) := goodIn_app (goodIn_of _ (by decide +kernel)) ggX7_inLayer_X1_pieceIn
theorem dX7_inLayer_0 : decode cX7_inLayer 0 = .ok (.aload_n 0, 1) := by decide +kernel
theorem dX7_inLayer_1 : decode cX7_inLayer 1 = .ok (.getfield 18, 3) := by decide +kernel
theorem dX7_inLayer_4 : decode cX7_inLayer 4 = .ok (.iload_n 1, 1) := by decide +kernel
theorem dX7_inLayer_5 : decode cX7_inLayer 5 = .ok (.invokevirtual 100, 3) := by decide +kernel
theorem dX7_inLayer_8 : decode cX7_inLayer 8 = .ok (.ifCond .eq 14, 3) := by decide +kernel
theorem dX7_inLayer_11 : decode cX7_inLayer 11 = .ok (.aload_n 0, 1) := by decide +kernel
theorem dX7_inLayer_12 : decode cX7_inLayer 12 = .ok (.getfield 18, 3) := by decide +kernel
theorem dX7_inLayer_15 : decode cX7_inLayer 15 = .ok (.iload_n 1, 1) := by decide +kernel
theorem dX7_inLayer_16 : decode cX7_inLayer 16 = .ok (.invokevirtual 203, 3) := by decide +kernel
theorem dX7_inLayer_19 : decode cX7_inLayer 19 = .ok (.goto 5, 3) := by decide +kernel
theorem dX7_inLayer_22 : decode cX7_inLayer 22 = .ok (.bipush (-101), 2) := by decide +kernel
theorem dX7_inLayer_24 : decode cX7_inLayer 24 = .ok (.ireturn, 1) := by decide +kernel
set_option maxRecDepth 100000 in
theorem ggX7_covering_X1_hasCell : GoodIn wsX7_covering wsX1_hasCell := goodIn_r _ [6, 7, 8, 9, 10, 5, 11, 12, 43, 44, 45, 46, 47, 48] rfl (by decide +kernel)
set_option maxRecDepth 100000 in
theorem gX7_covering_X1_hasCell : GoodIn wsX7_covering (wsV RX7 197 RX1 yX1_hasCell wsX1_hasCell) := goodIn_app (goodIn_of _ (by decide +kernel)) ggX7_covering_X1_hasCell
set_option maxRecDepth 100000 in
theorem ggX7_covering_X1_coveringPiece : GoodIn wsX7_covering wsX1_coveringPiece := goodIn_r _ [16, 17, 18, 19, 20, 21, 22, 23, 24, 5, 25, 26, 27, 28, 29, 30, 8, 9, 10, 11, 12, 31, 32, 33, 34, 7, 43, 44, 45, 46, 47, 48] rfl (by decide +kernel)
set_option maxRecDepth 100000 in
theorem gX7_covering_X1_coveringPiece : GoodIn wsX7_covering (wsV RX7 200 RX1 yX1_coveringPiece wsX1_coveringPiece) := goodIn_app (goodIn_of _ (by decide +kernel)) ggX7_covering_X1_coveringPiece
theorem dX7_covering_0 : decode cX7_covering 0 = .ok (.aload_n 0, 1) := by decide +kernel
theorem dX7_covering_1 : decode cX7_covering 1 = .ok (.getfield 18, 3) := by decide +kernel
theorem dX7_covering_4 : decode cX7_covering 4 = .ok (.iload_n 1, 1) := by decide +kernel
theorem dX7_covering_5 : decode cX7_covering 5 = .ok (.iload_n 2, 1) := by decide +kernel
theorem dX7_covering_6 : decode cX7_covering 6 = .ok (.invokevirtual 197, 3) := by decide +kernel
theorem dX7_covering_9 : decode cX7_covering 9 = .ok (.ifCond .eq 7, 3) := by decide +kernel
theorem dX7_covering_12 : decode cX7_covering 12 = .ok (.iload_n 3, 1) := by decide +kernel
theorem dX7_covering_13 : decode cX7_covering 13 = .ok (.ifCond .ge 6, 3) := by decide +kernel
theorem dX7_covering_16 : decode cX7_covering 16 = .ok (.bipush (-101), 2) := by decide +kernel
theorem dX7_covering_18 : decode cX7_covering 18 = .ok (.ireturn, 1) := by decide +kernel
theorem dX7_covering_19 : decode cX7_covering 19 = .ok (.aload_n 0, 1) := by decide +kernel
theorem dX7_covering_20 : decode cX7_covering 20 = .ok (.getfield 18, 3) := by decide +kernel
theorem dX7_covering_23 : decode cX7_covering 23 = .ok (.iload_n 1, 1) := by decide +kernel
theorem dX7_covering_24 : decode cX7_covering 24 = .ok (.iload_n 2, 1) := by decide +kernel
theorem dX7_covering_25 : decode cX7_covering 25 = .ok (.iload_n 3, 1) := by decide +kernel
theorem dX7_covering_26 : decode cX7_covering 26 = .ok (.invokevirtual 200, 3) := by decide +kernel
theorem dX7_covering_29 : decode cX7_covering 29 = .ok (.ireturn, 1) := by decide +kernel
set_option maxRecDepth 100000 in
theorem ggX7_edge_X1_has : GoodIn wsX7_edge wsX1_has := goodIn_r _ [7, 8, 90, 91, 92, 93, 94, 95] rfl (by decide +kernel)
set_option maxRecDepth 100000 in
theorem gX7_edge_X1_has : GoodIn wsX7_edge (wsV RX7 100 RX1 yX1_has wsX1_has) := goodIn_app (goodIn_of _ (by decide +kernel)) ggX7_edge_X1_has
set_option maxRecDepth 100000 in
theorem ggX7_edge_X5_look : GoodIn wsX7_edge wsX5_look := goodIn_r _ [13, 14, 15, 16, 17, 18, 19, 20, 21, 22, 6, 23, 8, 24, 25, 26, 27, 28, 29, 30, 31, 32, 33, 34, 12, 35, 36, 37, 38, 39, 40, 41, 42, 43, 44, 45, 46, 47, 48, 49, 50, 51, 52, 53, 54, 55, 56, 57, 58, 59, 60, 61, 96, 97, 98, 99, 90, 91, 92, 93, 94, 95] rfl (by decide +kernel)
set_option maxRecDepth 100000 in
theorem gX7_edge_X5_look : GoodIn wsX7_edge (wsV RX7 78 RX5 yX5_look wsX5_look) := goodIn_app (goodIn_of _ (by decide +kernel)) ggX7_edge_X5_look
set_option maxRecDepth 100000 in
theorem ggX7_edge_X5_borderEdge : GoodIn wsX7_edge wsX5_borderEdge := goodIn_r _ [65, 15, 66, 67, 68, 6, 69, 47, 70, 71, 72, 12, 73, 14, 36, 43, 44, 45, 46, 48, 49, 50, 51, 52, 29, 30, 31, 38, 39, 40, 41, 42, 55, 56, 57, 58, 59, 60, 61, 74, 75, 76, 77, 96, 97, 98, 99, 90, 91, 92, 93, 94, 95] rfl (by decide +kernel)
set_option maxRecDepth 100000 in
theorem gX7_edge_X5_borderEdge : GoodIn wsX7_edge (wsV RX7 206 RX5 yX5_borderEdge wsX5_borderEdge) := goodIn_app (goodIn_of _ (by decide +kernel)) ggX7_edge_X5_borderEdge
set_option maxRecDepth 100000 in
theorem ggX7_edge_X5_edgeBetween : GoodIn wsX7_edge wsX5_edgeBetween := goodIn_r _ [81, 15, 74, 75, 76, 6, 77, 52, 70, 71, 72, 12, 73, 14, 36, 66, 67, 68, 69, 47, 43, 44, 45, 46, 48, 49, 50, 51, 29, 30, 31, 38, 39, 40, 41, 42, 55, 56, 57, 58, 59, 60, 61, 96, 97, 98, 99, 90, 91, 92, 93, 94, 95] rfl (by decide +kernel)
set_option maxRecDepth 100000 in
theorem gX7_edge_X5_edgeBetween : GoodIn wsX7_edge (wsV RX7 209 RX5 yX5_edgeBetween wsX5_edgeBetween) := goodIn_app (goodIn_of _ (by decide +kernel)) ggX7_edge_X5_edgeBetween
theorem dX7_edge_0 : decode cX7_edge 0 = .ok (.iload_n 2, 1) := by decide +kernel
theorem dX7_edge_1 : decode cX7_edge 1 = .ok (.iconst (-1), 1) := by decide +kernel
theorem dX7_edge_2 : decode cX7_edge 2 = .ok (.if_icmp .eq 20, 3) := by decide +kernel
theorem dX7_edge_5 : decode cX7_edge 5 = .ok (.iload_n 2, 1) := by decide +kernel
theorem dX7_edge_6 : decode cX7_edge 6 = .ok (.bipush (-2), 2) := by decide +kernel
theorem dX7_edge_8 : decode cX7_edge 8 = .ok (.if_icmp .eq 14, 3) := by decide +kernel
theorem dX7_edge_11 : decode cX7_edge 11 = .ok (.aload_n 0, 1) := by decide +kernel
theorem dX7_edge_12 : decode cX7_edge 12 = .ok (.getfield 18, 3) := by decide +kernel
theorem dX7_edge_15 : decode cX7_edge 15 = .ok (.iload_n 2, 1) := by decide +kernel
theorem dX7_edge_16 : decode cX7_edge 16 = .ok (.invokevirtual 100, 3) := by decide +kernel
theorem dX7_edge_19 : decode cX7_edge 19 = .ok (.ifCond .eq 7, 3) := by decide +kernel
theorem dX7_edge_22 : decode cX7_edge 22 = .ok (.iconst 1, 1) := by decide +kernel
theorem dX7_edge_23 : decode cX7_edge 23 = .ok (.goto 4, 3) := by decide +kernel
theorem dX7_edge_26 : decode cX7_edge 26 = .ok (.iconst 0, 1) := by decide +kernel
theorem dX7_edge_27 : decode cX7_edge 27 = .ok (.istore_n 3, 1) := by decide +kernel
theorem dX7_edge_28 : decode cX7_edge 28 = .ok (.aload_n 0, 1) := by decide +kernel
theorem dX7_edge_29 : decode cX7_edge 29 = .ok (.getfield 18, 3) := by decide +kernel
theorem dX7_edge_32 : decode cX7_edge 32 = .ok (.iload_n 1, 1) := by decide +kernel
theorem dX7_edge_33 : decode cX7_edge 33 = .ok (.invokevirtual 100, 3) := by decide +kernel
theorem dX7_edge_36 : decode cX7_edge 36 = .ok (.ifCond .eq 12, 3) := by decide +kernel
theorem dX7_edge_39 : decode cX7_edge 39 = .ok (.iload_n 3, 1) := by decide +kernel
theorem dX7_edge_40 : decode cX7_edge 40 = .ok (.ifCond .eq 8, 3) := by decide +kernel
theorem dX7_edge_43 : decode cX7_edge 43 = .ok (.iload_n 1, 1) := by decide +kernel
theorem dX7_edge_44 : decode cX7_edge 44 = .ok (.iload_n 2, 1) := by decide +kernel
theorem dX7_edge_45 : decode cX7_edge 45 = .ok (.if_icmp .ne 6, 3) := by decide +kernel
theorem dX7_edge_48 : decode cX7_edge 48 = .ok (.bipush (-101), 2) := by decide +kernel
theorem dX7_edge_50 : decode cX7_edge 50 = .ok (.ireturn, 1) := by decide +kernel
theorem dX7_edge_51 : decode cX7_edge 51 = .ok (.aload_n 0, 1) := by decide +kernel
theorem dX7_edge_52 : decode cX7_edge 52 = .ok (.getfield 27, 3) := by decide +kernel
theorem dX7_edge_55 : decode cX7_edge 55 = .ok (.invokevirtual 78, 3) := by decide +kernel
theorem dX7_edge_58 : decode cX7_edge 58 = .ok (.iload_n 2, 1) := by decide +kernel
theorem dX7_edge_59 : decode cX7_edge 59 = .ok (.bipush (-2), 2) := by decide +kernel
theorem dX7_edge_61 : decode cX7_edge 61 = .ok (.if_icmp .ne 14, 3) := by decide +kernel
theorem dX7_edge_64 : decode cX7_edge 64 = .ok (.aload_n 0, 1) := by decide +kernel
theorem dX7_edge_65 : decode cX7_edge 65 = .ok (.getfield 27, 3) := by decide +kernel
theorem dX7_edge_68 : decode cX7_edge 68 = .ok (.iload_n 1, 1) := by decide +kernel
theorem dX7_edge_69 : decode cX7_edge 69 = .ok (.invokevirtual 206, 3) := by decide +kernel
theorem dX7_edge_72 : decode cX7_edge 72 = .ok (.goto 12, 3) := by decide +kernel
theorem dX7_edge_75 : decode cX7_edge 75 = .ok (.aload_n 0, 1) := by decide +kernel
theorem dX7_edge_76 : decode cX7_edge 76 = .ok (.getfield 27, 3) := by decide +kernel
theorem dX7_edge_79 : decode cX7_edge 79 = .ok (.iload_n 1, 1) := by decide +kernel
theorem dX7_edge_80 : decode cX7_edge 80 = .ok (.iload_n 2, 1) := by decide +kernel
theorem dX7_edge_81 : decode cX7_edge 81 = .ok (.invokevirtual 209, 3) := by decide +kernel
theorem dX7_edge_84 : decode cX7_edge 84 = .ok (.ireturn, 1) := by decide +kernel
