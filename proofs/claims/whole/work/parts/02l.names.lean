set_option maxRecDepth 20000 in
theorem gX8_outside_X8_area : GoodIn wsX8_outside (wsV RX8 57 RX8 yX8_area wsX8_area) := goodIn_app (goodIn_of _ (by decide +kernel)) ggX8_outside_X8_area
set_option maxRecDepth 20000 in
theorem ggX8_outside_X8_of : GoodIn wsX8_outside wsX8_of := goodIn_r _ [10, 1, 14, 15, 16, 17, 18, 19, 20, 21, 22, 23, 24, 25, 26, 27, 28, 29, 30, 31, 32] (by decide +kernel) (by decide +kernel)
set_option maxRecDepth 20000 in
theorem gX8_outside_X8_of : GoodIn wsX8_outside (wsV RX8 46 RX8 yX8_of wsX8_of) := goodIn_app (goodIn_of _ (by decide +kernel)) ggX8_outside_X8_of
set_option maxRecDepth 20000 in
theorem ggX8_outside_X8_in : GoodIn wsX8_outside wsX8_in := goodIn_r _ [13] (by decide +kernel) (by decide +kernel)
set_option maxRecDepth 20000 in
theorem gX8_outside_X8_in : GoodIn wsX8_outside (va_wsS RX8 42 yX8_in wsX8_in) := goodIn_app (goodIn_of _ (by decide +kernel)) ggX8_outside_X8_in
theorem dX8_outside_0 : decode cX8_outside 0 = .ok (.iconst 0, 1) := by decide +kernel
theorem dX8_outside_1 : decode cX8_outside 1 = .ok (.istore_n 2, 1) := by decide +kernel
theorem dX8_outside_2 : decode cX8_outside 2 = .ok (.iconst 0, 1) := by decide +kernel
theorem dX8_outside_3 : decode cX8_outside 3 = .ok (.istore_n 3, 1) := by decide +kernel
theorem dX8_outside_4 : decode cX8_outside 4 = .ok (.iload_n 3, 1) := by decide +kernel
theorem dX8_outside_5 : decode cX8_outside 5 = .ok (.aload_n 0, 1) := by decide +kernel
theorem dX8_outside_6 : decode cX8_outside 6 = .ok (.iload_n 1, 1) := by decide +kernel
theorem dX8_outside_7 : decode cX8_outside 7 = .ok (.invokevirtual 57, 3) := by decide +kernel
theorem dX8_outside_10 : decode cX8_outside 10 = .ok (.if_icmp .ge 85, 3) := by decide +kernel
theorem dX8_outside_13 : decode cX8_outside 13 = .ok (.aload_n 0, 1) := by decide +kernel
theorem dX8_outside_14 : decode cX8_outside 14 = .ok (.iload_n 1, 1) := by decide +kernel
theorem dX8_outside_15 : decode cX8_outside 15 = .ok (.iconst 0, 1) := by decide +kernel
theorem dX8_outside_16 : decode cX8_outside 16 = .ok (.invokevirtual 46, 3) := by decide +kernel
theorem dX8_outside_19 : decode cX8_outside 19 = .ok (.iload_n 3, 1) := by decide +kernel
theorem dX8_outside_20 : decode cX8_outside 20 = .ok (.aload_n 0, 1) := by decide +kernel
theorem dX8_outside_21 : decode cX8_outside 21 = .ok (.iload_n 1, 1) := by decide +kernel
theorem dX8_outside_22 : decode cX8_outside 22 = .ok (.iconst 2, 1) := by decide +kernel
theorem dX8_outside_23 : decode cX8_outside 23 = .ok (.invokevirtual 46, 3) := by decide +kernel
theorem dX8_outside_26 : decode cX8_outside 26 = .ok (.irem, 1) := by decide +kernel
theorem dX8_outside_27 : decode cX8_outside 27 = .ok (.iadd, 1) := by decide +kernel
theorem dX8_outside_28 : decode cX8_outside 28 = .ok (.istore 4, 2) := by decide +kernel
theorem dX8_outside_30 : decode cX8_outside 30 = .ok (.aload_n 0, 1) := by decide +kernel
theorem dX8_outside_31 : decode cX8_outside 31 = .ok (.iload_n 1, 1) := by decide +kernel
theorem dX8_outside_32 : decode cX8_outside 32 = .ok (.iconst 1, 1) := by decide +kernel
theorem dX8_outside_33 : decode cX8_outside 33 = .ok (.invokevirtual 46, 3) := by decide +kernel
theorem dX8_outside_36 : decode cX8_outside 36 = .ok (.iload_n 3, 1) := by decide +kernel
theorem dX8_outside_37 : decode cX8_outside 37 = .ok (.aload_n 0, 1) := by decide +kernel
theorem dX8_outside_38 : decode cX8_outside 38 = .ok (.iload_n 1, 1) := by decide +kernel
theorem dX8_outside_39 : decode cX8_outside 39 = .ok (.iconst 2, 1) := by decide +kernel
theorem dX8_outside_40 : decode cX8_outside 40 = .ok (.invokevirtual 46, 3) := by decide +kernel
theorem dX8_outside_43 : decode cX8_outside 43 = .ok (.idiv, 1) := by decide +kernel
theorem dX8_outside_44 : decode cX8_outside 44 = .ok (.iadd, 1) := by decide +kernel
theorem dX8_outside_45 : decode cX8_outside 45 = .ok (.istore 5, 2) := by decide +kernel
theorem dX8_outside_47 : decode cX8_outside 47 = .ok (.iload_n 2, 1) := by decide +kernel
theorem dX8_outside_48 : decode cX8_outside 48 = .ok (.iload 4, 2) := by decide +kernel
theorem dX8_outside_50 : decode cX8_outside 50 = .ok (.iconst 0, 1) := by decide +kernel
theorem dX8_outside_51 : decode cX8_outside 51 = .ok (.aload_n 0, 1) := by decide +kernel
theorem dX8_outside_52 : decode cX8_outside 52 = .ok (.getfield 7, 3) := by decide +kernel
theorem dX8_outside_55 : decode cX8_outside 55 = .ok (.iconst 0, 1) := by decide +kernel
theorem dX8_outside_56 : decode cX8_outside 56 = .ok (.iaload, 1) := by decide +kernel
theorem dX8_outside_57 : decode cX8_outside 57 = .ok (.iconst 1, 1) := by decide +kernel
theorem dX8_outside_58 : decode cX8_outside 58 = .ok (.isub, 1) := by decide +kernel
theorem dX8_outside_59 : decode cX8_outside 59 = .ok (.invokestatic 42, 3) := by decide +kernel
theorem dX8_outside_62 : decode cX8_outside 62 = .ok (.ifCond .eq 24, 3) := by decide +kernel
theorem dX8_outside_65 : decode cX8_outside 65 = .ok (.iload 5, 2) := by decide +kernel
theorem dX8_outside_67 : decode cX8_outside 67 = .ok (.iconst 0, 1) := by decide +kernel
theorem dX8_outside_68 : decode cX8_outside 68 = .ok (.aload_n 0, 1) := by decide +kernel
theorem dX8_outside_69 : decode cX8_outside 69 = .ok (.getfield 7, 3) := by decide +kernel
theorem dX8_outside_72 : decode cX8_outside 72 = .ok (.iconst 1, 1) := by decide +kernel
theorem dX8_outside_73 : decode cX8_outside 73 = .ok (.iaload, 1) := by decide +kernel
theorem dX8_outside_74 : decode cX8_outside 74 = .ok (.iconst 1, 1) := by decide +kernel
theorem dX8_outside_75 : decode cX8_outside 75 = .ok (.isub, 1) := by decide +kernel
theorem dX8_outside_76 : decode cX8_outside 76 = .ok (.invokestatic 42, 3) := by decide +kernel
theorem dX8_outside_79 : decode cX8_outside 79 = .ok (.ifCond .eq 7, 3) := by decide +kernel
theorem dX8_outside_82 : decode cX8_outside 82 = .ok (.iconst 0, 1) := by decide +kernel
theorem dX8_outside_83 : decode cX8_outside 83 = .ok (.goto 4, 3) := by decide +kernel
theorem dX8_outside_86 : decode cX8_outside 86 = .ok (.iconst 1, 1) := by decide +kernel
theorem dX8_outside_87 : decode cX8_outside 87 = .ok (.iadd, 1) := by decide +kernel
theorem dX8_outside_88 : decode cX8_outside 88 = .ok (.istore_n 2, 1) := by decide +kernel
theorem dX8_outside_89 : decode cX8_outside 89 = .ok (.iinc 3 1, 3) := by decide +kernel
theorem dX8_outside_92 : decode cX8_outside 92 = .ok (.goto (-88), 3) := by decide +kernel
theorem dX8_outside_95 : decode cX8_outside 95 = .ok (.iload_n 2, 1) := by decide +kernel
theorem dX8_outside_96 : decode cX8_outside 96 = .ok (.ireturn, 1) := by decide +kernel
set_option maxRecDepth 20000 in
theorem ggX8_piece_X8_isPiece : GoodIn wsX8_piece wsX8_isPiece := goodIn_r _ [6, 7, 8, 9, 5, 10, 71, 72, 73, 74, 75, 76, 77, 78, 79, 80, 81, 82, 83, 84, 85, 86, 87, 88, 89] (by decide +kernel) (by decide +kernel)
set_option maxRecDepth 20000 in
theorem gX8_piece_X8_isPiece : GoodIn wsX8_piece (wsV RX8 85 RX8 yX8_isPiece wsX8_isPiece) := goodIn_app (goodIn_of _ (by decide +kernel)) ggX8_piece_X8_isPiece
set_option maxRecDepth 20000 in
theorem ggX8_piece_X8_in : GoodIn wsX8_piece wsX8_in := goodIn_r _ [10] (by decide +kernel) (by decide +kernel)
set_option maxRecDepth 20000 in
theorem gX8_piece_X8_in : GoodIn wsX8_piece (va_wsS RX8 42 yX8_in wsX8_in) := goodIn_app (goodIn_of _ (by decide +kernel)) ggX8_piece_X8_in
set_option maxRecDepth 20000 in
theorem ggX8_piece_X8_paint : GoodIn wsX8_piece wsX8_paint := goodIn_r _ [14, 15, 16, 17, 5, 18, 7, 19, 1, 20, 21, 22, 23, 24, 25, 26, 27, 71, 72, 73, 74, 75, 76, 77, 78, 79, 80, 81, 82, 83, 84, 85, 86, 87, 88, 89] (by decide +kernel) (by decide +kernel)
set_option maxRecDepth 20000 in
theorem gX8_piece_X8_paint : GoodIn wsX8_piece (wsV RX8 69 RX8 yX8_paint wsX8_paint) := goodIn_app (goodIn_of _ (by decide +kernel)) ggX8_piece_X8_paint
set_option maxRecDepth 20000 in
theorem ggX8_piece_X8_layerOf : GoodIn wsX8_piece wsX8_layerOf := goodIn_r _ [31, 7, 71, 72, 73, 74, 75, 76, 77, 78, 79, 80, 81, 82, 83, 84, 85, 86, 87, 88, 89] (by decide +kernel) (by decide +kernel)
set_option maxRecDepth 20000 in
theorem gX8_piece_X8_layerOf : GoodIn wsX8_piece (wsV RX8 88 RX8 yX8_layerOf wsX8_layerOf) := goodIn_app (goodIn_of _ (by decide +kernel)) ggX8_piece_X8_layerOf
set_option maxRecDepth 20000 in
theorem ggX8_piece_X8_isContent : GoodIn wsX8_piece wsX8_isContent := goodIn_r _ [35, 1, 24, 25, 26, 5, 27, 7, 36, 37, 38, 39, 71, 72, 73, 74, 75, 76, 77, 78, 79, 80, 81, 82, 83, 84, 85, 86, 87, 88, 89] (by decide +kernel) (by decide +kernel)
set_option maxRecDepth 20000 in
theorem gX8_piece_X8_isContent : GoodIn wsX8_piece (wsV RX8 61 RX8 yX8_isContent wsX8_isContent) := goodIn_app (goodIn_of _ (by decide +kernel)) ggX8_piece_X8_isContent
set_option maxRecDepth 20000 in
theorem ggX8_piece_X8_parts : GoodIn wsX8_piece wsX8_parts := goodIn_r _ [43, 44, 7, 45, 46, 47, 5, 48, 49, 50, 51, 52, 53, 54, 55, 56, 57, 58, 19, 8, 9, 10, 71, 72, 73, 74, 75, 76, 77, 78, 79, 80, 81, 82, 83, 84, 85, 86, 87, 88, 89] (by decide +kernel) (by decide +kernel)
set_option maxRecDepth 20000 in
theorem gX8_piece_X8_parts : GoodIn wsX8_piece (wsV RX8 216 RX8 yX8_parts wsX8_parts) := goodIn_app (goodIn_of _ (by decide +kernel)) ggX8_piece_X8_parts
set_option maxRecDepth 20000 in
theorem ggX8_piece_X8_cuts : GoodIn wsX8_piece wsX8_cuts := goodIn_r _ [62, 63, 64, 65, 5, 66, 24, 25, 26, 27, 7, 55, 56, 57, 58, 19, 8, 9, 10, 71, 72, 73, 74, 75, 76, 77, 78, 79, 80, 81, 82, 83, 84, 85, 86, 87, 88, 89] (by decide +kernel) (by decide +kernel)
set_option maxRecDepth 20000 in
theorem gX8_piece_X8_cuts : GoodIn wsX8_piece (wsV RX8 195 RX8 yX8_cuts wsX8_cuts) := goodIn_app (goodIn_of _ (by decide +kernel)) ggX8_piece_X8_cuts
set_option maxRecDepth 20000 in
theorem ggX8_piece_X8_outside : GoodIn wsX8_piece wsX8_outside := goodIn_r _ [70, 7, 36, 37, 38, 5, 39, 24, 25, 26, 27, 8, 9, 10, 71, 72, 73, 74, 75, 76, 77, 78, 79, 80, 81, 82, 83, 84, 85, 86, 87, 88, 89] (by decide +kernel) (by decide +kernel)
set_option maxRecDepth 20000 in
theorem gX8_piece_X8_outside : GoodIn wsX8_piece (wsV RX8 220 RX8 yX8_outside wsX8_outside) := goodIn_app (goodIn_of _ (by decide +kernel)) ggX8_piece_X8_outside
set_option maxRecDepth 20000 in
theorem ggX8_piece_X8_of : GoodIn wsX8_piece wsX8_of := goodIn_r _ [27, 7, 71, 72, 73, 74, 75, 76, 77, 78, 79, 80, 81, 82, 83, 84, 85, 86, 87, 88, 89] (by decide +kernel) (by decide +kernel)
set_option maxRecDepth 20000 in
theorem gX8_piece_X8_of : GoodIn wsX8_piece (wsV RX8 46 RX8 yX8_of wsX8_of) := goodIn_app (goodIn_of _ (by decide +kernel)) ggX8_piece_X8_of
theorem dX8_piece_0 : decode cX8_piece 0 = .ok (.aload_n 0, 1) := by decide +kernel
theorem dX8_piece_1 : decode cX8_piece 1 = .ok (.iload_n 1, 1) := by decide +kernel
theorem dX8_piece_2 : decode cX8_piece 2 = .ok (.invokevirtual 85, 3) := by decide +kernel
theorem dX8_piece_5 : decode cX8_piece 5 = .ok (.ifCond .eq 13, 3) := by decide +kernel
theorem dX8_piece_8 : decode cX8_piece 8 = .ok (.iload_n 2, 1) := by decide +kernel
theorem dX8_piece_9 : decode cX8_piece 9 = .ok (.iconst 0, 1) := by decide +kernel
theorem dX8_piece_10 : decode cX8_piece 10 = .ok (.bipush 12, 2) := by decide +kernel
theorem dX8_piece_12 : decode cX8_piece 12 = .ok (.invokestatic 42, 3) := by decide +kernel
theorem dX8_piece_15 : decode cX8_piece 15 = .ok (.ifCond .ne 6, 3) := by decide +kernel
theorem dX8_piece_18 : decode cX8_piece 18 = .ok (.bipush (-101), 2) := by decide +kernel
theorem dX8_piece_20 : decode cX8_piece 20 = .ok (.ireturn, 1) := by decide +kernel
theorem dX8_piece_21 : decode cX8_piece 21 = .ok (.aload_n 0, 1) := by decide +kernel
theorem dX8_piece_22 : decode cX8_piece 22 = .ok (.invokevirtual 69, 3) := by decide +kernel
theorem dX8_piece_25 : decode cX8_piece 25 = .ok (.iload_n 2, 1) := by decide +kernel
theorem dX8_piece_26 : decode cX8_piece 26 = .ok (.tableswitch 98 6 12 #[42, 48, 55, 69, 69, 86, 92], 42) := by decide +kernel
theorem dX8_piece_68 : decode cX8_piece 68 = .ok (.aload_n 0, 1) := by decide +kernel
theorem dX8_piece_69 : decode cX8_piece 69 = .ok (.iload_n 1, 1) := by decide +kernel
theorem dX8_piece_70 : decode cX8_piece 70 = .ok (.invokevirtual 88, 3) := by decide +kernel
theorem dX8_piece_73 : decode cX8_piece 73 = .ok (.ireturn, 1) := by decide +kernel
theorem dX8_piece_74 : decode cX8_piece 74 = .ok (.aload_n 0, 1) := by decide +kernel
theorem dX8_piece_75 : decode cX8_piece 75 = .ok (.getfield 22, 3) := by decide +kernel
theorem dX8_piece_78 : decode cX8_piece 78 = .ok (.iload_n 1, 1) := by decide +kernel
theorem dX8_piece_79 : decode cX8_piece 79 = .ok (.iaload, 1) := by decide +kernel
theorem dX8_piece_80 : decode cX8_piece 80 = .ok (.ireturn, 1) := by decide +kernel
theorem dX8_piece_81 : decode cX8_piece 81 = .ok (.aload_n 0, 1) := by decide +kernel
theorem dX8_piece_82 : decode cX8_piece 82 = .ok (.iload_n 1, 1) := by decide +kernel
theorem dX8_piece_83 : decode cX8_piece 83 = .ok (.invokevirtual 61, 3) := by decide +kernel
theorem dX8_piece_86 : decode cX8_piece 86 = .ok (.ifCond .eq 7, 3) := by decide +kernel
theorem dX8_piece_89 : decode cX8_piece 89 = .ok (.iconst 1, 1) := by decide +kernel
theorem dX8_piece_90 : decode cX8_piece 90 = .ok (.goto 4, 3) := by decide +kernel
theorem dX8_piece_93 : decode cX8_piece 93 = .ok (.iconst 0, 1) := by decide +kernel
theorem dX8_piece_94 : decode cX8_piece 94 = .ok (.ireturn, 1) := by decide +kernel
theorem dX8_piece_95 : decode cX8_piece 95 = .ok (.aload_n 0, 1) := by decide +kernel
theorem dX8_piece_96 : decode cX8_piece 96 = .ok (.iload_n 1, 1) := by decide +kernel
theorem dX8_piece_97 : decode cX8_piece 97 = .ok (.iload_n 2, 1) := by decide +kernel
theorem dX8_piece_98 : decode cX8_piece 98 = .ok (.bipush 10, 2) := by decide +kernel
theorem dX8_piece_100 : decode cX8_piece 100 = .ok (.if_icmp .ne 7, 3) := by decide +kernel
theorem dX8_piece_103 : decode cX8_piece 103 = .ok (.iconst 1, 1) := by decide +kernel
theorem dX8_piece_104 : decode cX8_piece 104 = .ok (.goto 4, 3) := by decide +kernel
theorem dX8_piece_107 : decode cX8_piece 107 = .ok (.iconst 0, 1) := by decide +kernel
theorem dX8_piece_108 : decode cX8_piece 108 = .ok (.invokevirtual 216, 3) := by decide +kernel
theorem dX8_piece_111 : decode cX8_piece 111 = .ok (.ireturn, 1) := by decide +kernel
theorem dX8_piece_112 : decode cX8_piece 112 = .ok (.aload_n 0, 1) := by decide +kernel
theorem dX8_piece_113 : decode cX8_piece 113 = .ok (.iload_n 1, 1) := by decide +kernel
theorem dX8_piece_114 : decode cX8_piece 114 = .ok (.invokevirtual 195, 3) := by decide +kernel
theorem dX8_piece_117 : decode cX8_piece 117 = .ok (.ireturn, 1) := by decide +kernel
theorem dX8_piece_118 : decode cX8_piece 118 = .ok (.aload_n 0, 1) := by decide +kernel
theorem dX8_piece_119 : decode cX8_piece 119 = .ok (.iload_n 1, 1) := by decide +kernel
theorem dX8_piece_120 : decode cX8_piece 120 = .ok (.invokevirtual 220, 3) := by decide +kernel
theorem dX8_piece_123 : decode cX8_piece 123 = .ok (.ireturn, 1) := by decide +kernel
theorem dX8_piece_124 : decode cX8_piece 124 = .ok (.aload_n 0, 1) := by decide +kernel
theorem dX8_piece_125 : decode cX8_piece 125 = .ok (.iload_n 1, 1) := by decide +kernel
theorem dX8_piece_126 : decode cX8_piece 126 = .ok (.iload_n 2, 1) := by decide +kernel
theorem dX8_piece_127 : decode cX8_piece 127 = .ok (.invokevirtual 46, 3) := by decide +kernel
theorem dX8_piece_130 : decode cX8_piece 130 = .ok (.ireturn, 1) := by decide +kernel
set_option maxRecDepth 20000 in
theorem ggX8_isCell_X8_in : GoodIn wsX8_isCell wsX8_in := goodIn_r _ [5] (by decide +kernel) (by decide +kernel)
set_option maxRecDepth 20000 in
theorem gX8_isCell_X8_in : GoodIn wsX8_isCell (va_wsS RX8 42 yX8_in wsX8_in) := goodIn_app (goodIn_of _ (by decide +kernel)) ggX8_isCell_X8_in
theorem dX8_isCell_0 : decode cX8_isCell 0 = .ok (.iload_n 1, 1) := by decide +kernel
theorem dX8_isCell_1 : decode cX8_isCell 1 = .ok (.iconst 0, 1) := by decide +kernel
theorem dX8_isCell_2 : decode cX8_isCell 2 = .ok (.aload_n 0, 1) := by decide +kernel
theorem dX8_isCell_3 : decode cX8_isCell 3 = .ok (.getfield 7, 3) := by decide +kernel
theorem dX8_isCell_6 : decode cX8_isCell 6 = .ok (.iconst 0, 1) := by decide +kernel
theorem dX8_isCell_7 : decode cX8_isCell 7 = .ok (.iaload, 1) := by decide +kernel
theorem dX8_isCell_8 : decode cX8_isCell 8 = .ok (.iconst 1, 1) := by decide +kernel
theorem dX8_isCell_9 : decode cX8_isCell 9 = .ok (.isub, 1) := by decide +kernel
theorem dX8_isCell_10 : decode cX8_isCell 10 = .ok (.invokestatic 42, 3) := by decide +kernel
theorem dX8_isCell_13 : decode cX8_isCell 13 = .ok (.ifCond .eq 23, 3) := by decide +kernel
theorem dX8_isCell_16 : decode cX8_isCell 16 = .ok (.iload_n 2, 1) := by decide +kernel
theorem dX8_isCell_17 : decode cX8_isCell 17 = .ok (.iconst 0, 1) := by decide +kernel
theorem dX8_isCell_18 : decode cX8_isCell 18 = .ok (.aload_n 0, 1) := by decide +kernel
theorem dX8_isCell_19 : decode cX8_isCell 19 = .ok (.getfield 7, 3) := by decide +kernel
theorem dX8_isCell_22 : decode cX8_isCell 22 = .ok (.iconst 1, 1) := by decide +kernel
theorem dX8_isCell_23 : decode cX8_isCell 23 = .ok (.iaload, 1) := by decide +kernel
theorem dX8_isCell_24 : decode cX8_isCell 24 = .ok (.iconst 1, 1) := by decide +kernel
theorem dX8_isCell_25 : decode cX8_isCell 25 = .ok (.isub, 1) := by decide +kernel
theorem dX8_isCell_26 : decode cX8_isCell 26 = .ok (.invokestatic 42, 3) := by decide +kernel
theorem dX8_isCell_29 : decode cX8_isCell 29 = .ok (.ifCond .eq 7, 3) := by decide +kernel
theorem dX8_isCell_32 : decode cX8_isCell 32 = .ok (.iconst 1, 1) := by decide +kernel
theorem dX8_isCell_33 : decode cX8_isCell 33 = .ok (.goto 4, 3) := by decide +kernel
theorem dX8_isCell_36 : decode cX8_isCell 36 = .ok (.iconst 0, 1) := by decide +kernel
theorem dX8_isCell_37 : decode cX8_isCell 37 = .ok (.ireturn, 1) := by decide +kernel
set_option maxRecDepth 20000 in
theorem ggX8_seen_X8_isCell : GoodIn wsX8_seen wsX8_isCell := goodIn_r _ [7, 2, 8, 9, 6, 10, 28, 29, 30, 31, 32, 33, 34, 35, 36, 37, 38, 39, 40, 41, 42, 43, 44, 45, 46] (by decide +kernel) (by decide +kernel)
set_option maxRecDepth 20000 in
theorem gX8_seen_X8_isCell : GoodIn wsX8_seen (wsV RX8 223 RX8 yX8_isCell wsX8_isCell) := goodIn_app (goodIn_of _ (by decide +kernel)) ggX8_seen_X8_isCell
set_option maxRecDepth 20000 in
theorem ggX8_seen_X8_paint : GoodIn wsX8_seen wsX8_paint := goodIn_r _ [14, 15, 16, 17, 6, 18, 2, 1, 19, 20, 21, 22, 23, 24, 25, 26, 27, 28, 29, 30, 31, 32, 33, 34, 35, 36, 37, 38, 39, 40, 41, 42, 43, 44, 45, 46] (by decide +kernel) (by decide +kernel)
set_option maxRecDepth 20000 in
theorem gX8_seen_X8_paint : GoodIn wsX8_seen (wsV RX8 69 RX8 yX8_paint wsX8_paint) := goodIn_app (goodIn_of _ (by decide +kernel)) ggX8_seen_X8_paint
theorem dX8_seen_0 : decode cX8_seen 0 = .ok (.aload_n 0, 1) := by decide +kernel
theorem dX8_seen_1 : decode cX8_seen 1 = .ok (.iload_n 1, 1) := by decide +kernel
theorem dX8_seen_2 : decode cX8_seen 2 = .ok (.iload_n 2, 1) := by decide +kernel
theorem dX8_seen_3 : decode cX8_seen 3 = .ok (.invokevirtual 223, 3) := by decide +kernel
theorem dX8_seen_6 : decode cX8_seen 6 = .ok (.ifCond .ne 6, 3) := by decide +kernel
theorem dX8_seen_9 : decode cX8_seen 9 = .ok (.bipush (-101), 2) := by decide +kernel
theorem dX8_seen_11 : decode cX8_seen 11 = .ok (.ireturn, 1) := by decide +kernel
theorem dX8_seen_12 : decode cX8_seen 12 = .ok (.aload_n 0, 1) := by decide +kernel
theorem dX8_seen_13 : decode cX8_seen 13 = .ok (.invokevirtual 69, 3) := by decide +kernel
theorem dX8_seen_16 : decode cX8_seen 16 = .ok (.aload_n 0, 1) := by decide +kernel
theorem dX8_seen_17 : decode cX8_seen 17 = .ok (.getfield 19, 3) := by decide +kernel
theorem dX8_seen_20 : decode cX8_seen 20 = .ok (.aload_n 0, 1) := by decide +kernel
theorem dX8_seen_21 : decode cX8_seen 21 = .ok (.getfield 7, 3) := by decide +kernel
theorem dX8_seen_24 : decode cX8_seen 24 = .ok (.iconst 0, 1) := by decide +kernel
theorem dX8_seen_25 : decode cX8_seen 25 = .ok (.iaload, 1) := by decide +kernel
theorem dX8_seen_26 : decode cX8_seen 26 = .ok (.iload_n 2, 1) := by decide +kernel
theorem dX8_seen_27 : decode cX8_seen 27 = .ok (.imul, 1) := by decide +kernel
theorem dX8_seen_28 : decode cX8_seen 28 = .ok (.iload_n 1, 1) := by decide +kernel
theorem dX8_seen_29 : decode cX8_seen 29 = .ok (.iadd, 1) := by decide +kernel
theorem dX8_seen_30 : decode cX8_seen 30 = .ok (.iaload, 1) := by decide +kernel
theorem dX8_seen_31 : decode cX8_seen 31 = .ok (.ireturn, 1) := by decide +kernel
set_option maxRecDepth 20000 in
theorem ggX8_inLayer_X8_isPiece : GoodIn wsX8_inLayer wsX8_isPiece := goodIn_r _ [6, 1, 7, 8, 5, 9, 10, 11, 12, 13, 14, 15, 16, 17, 18, 19, 20, 21, 22, 23, 24, 25, 26, 27, 28] (by decide +kernel) (by decide +kernel)
set_option maxRecDepth 20000 in
theorem gX8_inLayer_X8_isPiece : GoodIn wsX8_inLayer (wsV RX8 85 RX8 yX8_isPiece wsX8_isPiece) := goodIn_app (goodIn_of _ (by decide +kernel)) ggX8_inLayer_X8_isPiece
theorem dX8_inLayer_0 : decode cX8_inLayer 0 = .ok (.aload_n 0, 1) := by decide +kernel
theorem dX8_inLayer_1 : decode cX8_inLayer 1 = .ok (.iload_n 1, 1) := by decide +kernel
theorem dX8_inLayer_2 : decode cX8_inLayer 2 = .ok (.invokevirtual 85, 3) := by decide +kernel
theorem dX8_inLayer_5 : decode cX8_inLayer 5 = .ok (.ifCond .eq 15, 3) := by decide +kernel
theorem dX8_inLayer_8 : decode cX8_inLayer 8 = .ok (.aload_n 0, 1) := by decide +kernel
theorem dX8_inLayer_9 : decode cX8_inLayer 9 = .ok (.getfield 7, 3) := by decide +kernel
theorem dX8_inLayer_12 : decode cX8_inLayer 12 = .ok (.bipush 76, 2) := by decide +kernel
theorem dX8_inLayer_14 : decode cX8_inLayer 14 = .ok (.iload_n 1, 1) := by decide +kernel
theorem dX8_inLayer_15 : decode cX8_inLayer 15 = .ok (.iadd, 1) := by decide +kernel
theorem dX8_inLayer_16 : decode cX8_inLayer 16 = .ok (.iaload, 1) := by decide +kernel
theorem dX8_inLayer_17 : decode cX8_inLayer 17 = .ok (.goto 5, 3) := by decide +kernel
theorem dX8_inLayer_20 : decode cX8_inLayer 20 = .ok (.bipush (-101), 2) := by decide +kernel
theorem dX8_inLayer_22 : decode cX8_inLayer 22 = .ok (.ireturn, 1) := by decide +kernel
set_option maxRecDepth 20000 in
theorem ggX8_covering_X8_isCell : GoodIn wsX8_covering wsX8_isCell := goodIn_r _ [6, 1, 7, 8, 5, 9, 18, 19, 20, 21, 22, 23, 24, 25, 26, 27, 28, 29, 30, 31, 32, 33, 34, 35, 36] (by decide +kernel) (by decide +kernel)
set_option maxRecDepth 20000 in
theorem gX8_covering_X8_isCell : GoodIn wsX8_covering (wsV RX8 223 RX8 yX8_isCell wsX8_isCell) := goodIn_app (goodIn_of _ (by decide +kernel)) ggX8_covering_X8_isCell
set_option maxRecDepth 20000 in
theorem ggX8_covering_X8_covers : GoodIn wsX8_covering wsX8_covers := goodIn_r _ [13, 14, 15, 16, 5, 17, 1, 7, 8, 9, 18, 19, 20, 21, 22, 23, 24, 25, 26, 27, 28, 29, 30, 31, 32, 33, 34, 35, 36] (by decide +kernel) (by decide +kernel)
set_option maxRecDepth 20000 in
theorem gX8_covering_X8_covers : GoodIn wsX8_covering (wsV RX8 226 RX8 yX8_covers wsX8_covers) := goodIn_app (goodIn_of _ (by decide +kernel)) ggX8_covering_X8_covers
theorem dX8_covering_0 : decode cX8_covering 0 = .ok (.aload_n 0, 1) := by decide +kernel
theorem dX8_covering_1 : decode cX8_covering 1 = .ok (.iload_n 1, 1) := by decide +kernel
theorem dX8_covering_2 : decode cX8_covering 2 = .ok (.iload_n 2, 1) := by decide +kernel
theorem dX8_covering_3 : decode cX8_covering 3 = .ok (.invokevirtual 223, 3) := by decide +kernel
theorem dX8_covering_6 : decode cX8_covering 6 = .ok (.ifCond .eq 7, 3) := by decide +kernel
theorem dX8_covering_9 : decode cX8_covering 9 = .ok (.iload_n 3, 1) := by decide +kernel
theorem dX8_covering_10 : decode cX8_covering 10 = .ok (.ifCond .ge 6, 3) := by decide +kernel
theorem dX8_covering_13 : decode cX8_covering 13 = .ok (.bipush (-101), 2) := by decide +kernel
theorem dX8_covering_15 : decode cX8_covering 15 = .ok (.ireturn, 1) := by decide +kernel
theorem dX8_covering_16 : decode cX8_covering 16 = .ok (.iload_n 3, 1) := by decide +kernel
theorem dX8_covering_17 : decode cX8_covering 17 = .ok (.istore 4, 2) := by decide +kernel
theorem dX8_covering_19 : decode cX8_covering 19 = .ok (.aload_n 0, 1) := by decide +kernel
theorem dX8_covering_20 : decode cX8_covering 20 = .ok (.getfield 7, 3) := by decide +kernel
theorem dX8_covering_23 : decode cX8_covering 23 = .ok (.iconst 2, 1) := by decide +kernel
theorem dX8_covering_24 : decode cX8_covering 24 = .ok (.iaload, 1) := by decide +kernel
theorem dX8_covering_25 : decode cX8_covering 25 = .ok (.iconst 1, 1) := by decide +kernel
theorem dX8_covering_26 : decode cX8_covering 26 = .ok (.isub, 1) := by decide +kernel
theorem dX8_covering_27 : decode cX8_covering 27 = .ok (.istore 5, 2) := by decide +kernel
theorem dX8_covering_29 : decode cX8_covering 29 = .ok (.iload 5, 2) := by decide +kernel
theorem dX8_covering_31 : decode cX8_covering 31 = .ok (.ifCond .lt 47, 3) := by decide +kernel
theorem dX8_covering_34 : decode cX8_covering 34 = .ok (.aload_n 0, 1) := by decide +kernel
theorem dX8_covering_35 : decode cX8_covering 35 = .ok (.aload_n 0, 1) := by decide +kernel
theorem dX8_covering_36 : decode cX8_covering 36 = .ok (.getfield 7, 3) := by decide +kernel
theorem dX8_covering_39 : decode cX8_covering 39 = .ok (.bipush 76, 2) := by decide +kernel
theorem dX8_covering_41 : decode cX8_covering 41 = .ok (.iload 5, 2) := by decide +kernel
theorem dX8_covering_43 : decode cX8_covering 43 = .ok (.iadd, 1) := by decide +kernel
theorem dX8_covering_44 : decode cX8_covering 44 = .ok (.iaload, 1) := by decide +kernel
theorem dX8_covering_45 : decode cX8_covering 45 = .ok (.iload_n 1, 1) := by decide +kernel
theorem dX8_covering_46 : decode cX8_covering 46 = .ok (.iload_n 2, 1) := by decide +kernel
theorem dX8_covering_47 : decode cX8_covering 47 = .ok (.invokevirtual 226, 3) := by decide +kernel
theorem dX8_covering_50 : decode cX8_covering 50 = .ok (.ifCond .eq 22, 3) := by decide +kernel
theorem dX8_covering_53 : decode cX8_covering 53 = .ok (.iload 4, 2) := by decide +kernel
theorem dX8_covering_55 : decode cX8_covering 55 = .ok (.ifCond .ne 14, 3) := by decide +kernel
theorem dX8_covering_58 : decode cX8_covering 58 = .ok (.aload_n 0, 1) := by decide +kernel
theorem dX8_covering_59 : decode cX8_covering 59 = .ok (.getfield 7, 3) := by decide +kernel
theorem dX8_covering_62 : decode cX8_covering 62 = .ok (.bipush 76, 2) := by decide +kernel
theorem dX8_covering_64 : decode cX8_covering 64 = .ok (.iload 5, 2) := by decide +kernel
theorem dX8_covering_66 : decode cX8_covering 66 = .ok (.iadd, 1) := by decide +kernel
theorem dX8_covering_67 : decode cX8_covering 67 = .ok (.iaload, 1) := by decide +kernel
theorem dX8_covering_68 : decode cX8_covering 68 = .ok (.ireturn, 1) := by decide +kernel
theorem dX8_covering_69 : decode cX8_covering 69 = .ok (.iinc 4 (-1), 3) := by decide +kernel
theorem dX8_covering_72 : decode cX8_covering 72 = .ok (.iinc 5 (-1), 3) := by decide +kernel
theorem dX8_covering_75 : decode cX8_covering 75 = .ok (.goto (-46), 3) := by decide +kernel
theorem dX8_covering_78 : decode cX8_covering 78 = .ok (.bipush (-109), 2) := by decide +kernel
theorem dX8_covering_80 : decode cX8_covering 80 = .ok (.ireturn, 1) := by decide +kernel
set_option maxRecDepth 20000 in
theorem ggX8_sideTo_X8_isCell : GoodIn wsX8_sideTo wsX8_isCell := goodIn_r _ [7, 2, 8, 9, 6, 10, 11, 12, 13, 14, 15, 16, 17, 18, 19, 20, 21, 22, 23, 24, 25, 26, 27, 28, 29] (by decide +kernel) (by decide +kernel)
set_option maxRecDepth 20000 in
theorem gX8_sideTo_X8_isCell : GoodIn wsX8_sideTo (wsV RX8 223 RX8 yX8_isCell wsX8_isCell) := goodIn_app (goodIn_of _ (by decide +kernel)) ggX8_sideTo_X8_isCell
theorem dX8_sideTo_0 : decode cX8_sideTo 0 = .ok (.aload_n 0, 1) := by decide +kernel
theorem dX8_sideTo_1 : decode cX8_sideTo 1 = .ok (.iload_n 1, 1) := by decide +kernel
theorem dX8_sideTo_2 : decode cX8_sideTo 2 = .ok (.iload_n 2, 1) := by decide +kernel
theorem dX8_sideTo_3 : decode cX8_sideTo 3 = .ok (.invokevirtual 223, 3) := by decide +kernel
theorem dX8_sideTo_6 : decode cX8_sideTo 6 = .ok (.ifCond .ne 15, 3) := by decide +kernel
theorem dX8_sideTo_9 : decode cX8_sideTo 9 = .ok (.iload_n 3, 1) := by decide +kernel
theorem dX8_sideTo_10 : decode cX8_sideTo 10 = .ok (.bipush (-2), 2) := by decide +kernel
theorem dX8_sideTo_12 : decode cX8_sideTo 12 = .ok (.if_icmp .ne 7, 3) := by decide +kernel
theorem dX8_sideTo_15 : decode cX8_sideTo 15 = .ok (.iconst 1, 1) := by decide +kernel
theorem dX8_sideTo_16 : decode cX8_sideTo 16 = .ok (.goto 4, 3) := by decide +kernel
theorem dX8_sideTo_19 : decode cX8_sideTo 19 = .ok (.iconst 0, 1) := by decide +kernel
theorem dX8_sideTo_20 : decode cX8_sideTo 20 = .ok (.ireturn, 1) := by decide +kernel
theorem dX8_sideTo_21 : decode cX8_sideTo 21 = .ok (.iload_n 3, 1) := by decide +kernel
theorem dX8_sideTo_22 : decode cX8_sideTo 22 = .ok (.bipush (-2), 2) := by decide +kernel
theorem dX8_sideTo_24 : decode cX8_sideTo 24 = .ok (.if_icmp .eq 26, 3) := by decide +kernel
theorem dX8_sideTo_27 : decode cX8_sideTo 27 = .ok (.aload_n 0, 1) := by decide +kernel
theorem dX8_sideTo_28 : decode cX8_sideTo 28 = .ok (.getfield 19, 3) := by decide +kernel
theorem dX8_sideTo_31 : decode cX8_sideTo 31 = .ok (.aload_n 0, 1) := by decide +kernel
theorem dX8_sideTo_32 : decode cX8_sideTo 32 = .ok (.getfield 7, 3) := by decide +kernel
theorem dX8_sideTo_35 : decode cX8_sideTo 35 = .ok (.iconst 0, 1) := by decide +kernel
theorem dX8_sideTo_36 : decode cX8_sideTo 36 = .ok (.iaload, 1) := by decide +kernel
theorem dX8_sideTo_37 : decode cX8_sideTo 37 = .ok (.iload_n 2, 1) := by decide +kernel
theorem dX8_sideTo_38 : decode cX8_sideTo 38 = .ok (.imul, 1) := by decide +kernel
theorem dX8_sideTo_39 : decode cX8_sideTo 39 = .ok (.iload_n 1, 1) := by decide +kernel
theorem dX8_sideTo_40 : decode cX8_sideTo 40 = .ok (.iadd, 1) := by decide +kernel
theorem dX8_sideTo_41 : decode cX8_sideTo 41 = .ok (.iaload, 1) := by decide +kernel
theorem dX8_sideTo_42 : decode cX8_sideTo 42 = .ok (.iload_n 3, 1) := by decide +kernel
theorem dX8_sideTo_43 : decode cX8_sideTo 43 = .ok (.if_icmp .ne 7, 3) := by decide +kernel
theorem dX8_sideTo_46 : decode cX8_sideTo 46 = .ok (.iconst 1, 1) := by decide +kernel
theorem dX8_sideTo_47 : decode cX8_sideTo 47 = .ok (.goto 4, 3) := by decide +kernel
theorem dX8_sideTo_50 : decode cX8_sideTo 50 = .ok (.iconst 0, 1) := by decide +kernel
theorem dX8_sideTo_51 : decode cX8_sideTo 51 = .ok (.ireturn, 1) := by decide +kernel
set_option maxRecDepth 20000 in
theorem ggX8_edge_X8_isPiece : GoodIn wsX8_edge wsX8_isPiece := goodIn_r _ [7, 1, 8, 9, 6, 10, 36, 37, 38, 39, 40, 41, 42, 43, 44, 45, 46, 47, 48, 49, 50, 51, 52, 53, 54] (by decide +kernel) (by decide +kernel)
set_option maxRecDepth 20000 in
theorem gX8_edge_X8_isPiece : GoodIn wsX8_edge (wsV RX8 85 RX8 yX8_isPiece wsX8_isPiece) := goodIn_app (goodIn_of _ (by decide +kernel)) ggX8_edge_X8_isPiece
set_option maxRecDepth 20000 in
theorem ggX8_edge_X8_in : GoodIn wsX8_edge wsX8_in := goodIn_r _ [10] (by decide +kernel) (by decide +kernel)
set_option maxRecDepth 20000 in
theorem gX8_edge_X8_in : GoodIn wsX8_edge (va_wsS RX8 42 yX8_in wsX8_in) := goodIn_app (goodIn_of _ (by decide +kernel)) ggX8_edge_X8_in
set_option maxRecDepth 20000 in
theorem ggX8_edge_X8_paint : GoodIn wsX8_edge wsX8_paint := goodIn_r _ [14, 15, 16, 17, 6, 18, 1, 2, 19, 20, 21, 22, 23, 24, 25, 26, 27, 36, 37, 38, 39, 40, 41, 42, 43, 44, 45, 46, 47, 48, 49, 50, 51, 52, 53, 54] (by decide +kernel) (by decide +kernel)
set_option maxRecDepth 20000 in
theorem gX8_edge_X8_paint : GoodIn wsX8_edge (wsV RX8 69 RX8 yX8_paint wsX8_paint) := goodIn_app (goodIn_of _ (by decide +kernel)) ggX8_edge_X8_paint
set_option maxRecDepth 20000 in
theorem ggX8_edge_X8_sideTo : GoodIn wsX8_edge wsX8_sideTo := goodIn_r _ [31, 2, 1, 32, 33, 34, 6, 35, 8, 9, 10, 36, 37, 38, 39, 40, 41, 42, 43, 44, 45, 46, 47, 48, 49, 50, 51, 52, 53, 54] (by decide +kernel) (by decide +kernel)
set_option maxRecDepth 20000 in
theorem gX8_edge_X8_sideTo : GoodIn wsX8_edge (wsV RX8 229 RX8 yX8_sideTo wsX8_sideTo) := goodIn_app (goodIn_of _ (by decide +kernel)) ggX8_edge_X8_sideTo
theorem dX8_edge_0 : decode cX8_edge 0 = .ok (.aload_n 0, 1) := by decide +kernel
theorem dX8_edge_1 : decode cX8_edge 1 = .ok (.iload_n 1, 1) := by decide +kernel
theorem dX8_edge_2 : decode cX8_edge 2 = .ok (.invokevirtual 85, 3) := by decide +kernel
theorem dX8_edge_5 : decode cX8_edge 5 = .ok (.ifCond .eq 25, 3) := by decide +kernel
theorem dX8_edge_8 : decode cX8_edge 8 = .ok (.iload_n 1, 1) := by decide +kernel
theorem dX8_edge_9 : decode cX8_edge 9 = .ok (.iload_n 2, 1) := by decide +kernel
theorem dX8_edge_10 : decode cX8_edge 10 = .ok (.if_icmp .eq 20, 3) := by decide +kernel
theorem dX8_edge_13 : decode cX8_edge 13 = .ok (.iload_n 2, 1) := by decide +kernel
theorem dX8_edge_14 : decode cX8_edge 14 = .ok (.bipush (-2), 2) := by decide +kernel
theorem dX8_edge_16 : decode cX8_edge 16 = .ok (.aload_n 0, 1) := by decide +kernel
theorem dX8_edge_17 : decode cX8_edge 17 = .ok (.getfield 7, 3) := by decide +kernel
theorem dX8_edge_20 : decode cX8_edge 20 = .ok (.iconst 2, 1) := by decide +kernel
theorem dX8_edge_21 : decode cX8_edge 21 = .ok (.iaload, 1) := by decide +kernel
theorem dX8_edge_22 : decode cX8_edge 22 = .ok (.iconst 1, 1) := by decide +kernel
theorem dX8_edge_23 : decode cX8_edge 23 = .ok (.isub, 1) := by decide +kernel
theorem dX8_edge_24 : decode cX8_edge 24 = .ok (.invokestatic 42, 3) := by decide +kernel
theorem dX8_edge_27 : decode cX8_edge 27 = .ok (.ifCond .ne 6, 3) := by decide +kernel
theorem dX8_edge_30 : decode cX8_edge 30 = .ok (.bipush (-101), 2) := by decide +kernel
theorem dX8_edge_32 : decode cX8_edge 32 = .ok (.ireturn, 1) := by decide +kernel
theorem dX8_edge_33 : decode cX8_edge 33 = .ok (.aload_n 0, 1) := by decide +kernel
theorem dX8_edge_34 : decode cX8_edge 34 = .ok (.invokevirtual 69, 3) := by decide +kernel
theorem dX8_edge_37 : decode cX8_edge 37 = .ok (.iconst 0, 1) := by decide +kernel
theorem dX8_edge_38 : decode cX8_edge 38 = .ok (.istore_n 3, 1) := by decide +kernel
theorem dX8_edge_39 : decode cX8_edge 39 = .ok (.iconst 0, 1) := by decide +kernel
theorem dX8_edge_40 : decode cX8_edge 40 = .ok (.istore 4, 2) := by decide +kernel
theorem dX8_edge_42 : decode cX8_edge 42 = .ok (.iload 4, 2) := by decide +kernel
theorem dX8_edge_44 : decode cX8_edge 44 = .ok (.aload_n 0, 1) := by decide +kernel
theorem dX8_edge_45 : decode cX8_edge 45 = .ok (.getfield 7, 3) := by decide +kernel
theorem dX8_edge_48 : decode cX8_edge 48 = .ok (.iconst 0, 1) := by decide +kernel
theorem dX8_edge_49 : decode cX8_edge 49 = .ok (.iaload, 1) := by decide +kernel
theorem dX8_edge_50 : decode cX8_edge 50 = .ok (.aload_n 0, 1) := by decide +kernel
theorem dX8_edge_51 : decode cX8_edge 51 = .ok (.getfield 7, 3) := by decide +kernel
theorem dX8_edge_54 : decode cX8_edge 54 = .ok (.iconst 1, 1) := by decide +kernel
theorem dX8_edge_55 : decode cX8_edge 55 = .ok (.iaload, 1) := by decide +kernel
theorem dX8_edge_56 : decode cX8_edge 56 = .ok (.imul, 1) := by decide +kernel
theorem dX8_edge_57 : decode cX8_edge 57 = .ok (.if_icmp .ge 92, 3) := by decide +kernel
theorem dX8_edge_60 : decode cX8_edge 60 = .ok (.iload 4, 2) := by decide +kernel
theorem dX8_edge_62 : decode cX8_edge 62 = .ok (.aload_n 0, 1) := by decide +kernel
theorem dX8_edge_63 : decode cX8_edge 63 = .ok (.getfield 7, 3) := by decide +kernel
theorem dX8_edge_66 : decode cX8_edge 66 = .ok (.iconst 0, 1) := by decide +kernel
theorem dX8_edge_67 : decode cX8_edge 67 = .ok (.iaload, 1) := by decide +kernel
theorem dX8_edge_68 : decode cX8_edge 68 = .ok (.irem, 1) := by decide +kernel
theorem dX8_edge_69 : decode cX8_edge 69 = .ok (.istore 5, 2) := by decide +kernel
theorem dX8_edge_71 : decode cX8_edge 71 = .ok (.iload 4, 2) := by decide +kernel
theorem dX8_edge_73 : decode cX8_edge 73 = .ok (.aload_n 0, 1) := by decide +kernel
theorem dX8_edge_74 : decode cX8_edge 74 = .ok (.getfield 7, 3) := by decide +kernel
theorem dX8_edge_77 : decode cX8_edge 77 = .ok (.iconst 0, 1) := by decide +kernel
theorem dX8_edge_78 : decode cX8_edge 78 = .ok (.iaload, 1) := by decide +kernel
theorem dX8_edge_79 : decode cX8_edge 79 = .ok (.idiv, 1) := by decide +kernel
theorem dX8_edge_80 : decode cX8_edge 80 = .ok (.istore 6, 2) := by decide +kernel
theorem dX8_edge_82 : decode cX8_edge 82 = .ok (.aload_n 0, 1) := by decide +kernel
theorem dX8_edge_83 : decode cX8_edge 83 = .ok (.getfield 19, 3) := by decide +kernel
theorem dX8_edge_86 : decode cX8_edge 86 = .ok (.iload 4, 2) := by decide +kernel
theorem dX8_edge_88 : decode cX8_edge 88 = .ok (.iaload, 1) := by decide +kernel
theorem dX8_edge_89 : decode cX8_edge 89 = .ok (.iload_n 1, 1) := by decide +kernel
theorem dX8_edge_90 : decode cX8_edge 90 = .ok (.if_icmp .ne 53, 3) := by decide +kernel
theorem dX8_edge_93 : decode cX8_edge 93 = .ok (.iload_n 3, 1) := by decide +kernel
theorem dX8_edge_94 : decode cX8_edge 94 = .ok (.aload_n 0, 1) := by decide +kernel
theorem dX8_edge_95 : decode cX8_edge 95 = .ok (.iload 5, 2) := by decide +kernel
theorem dX8_edge_97 : decode cX8_edge 97 = .ok (.iconst 1, 1) := by decide +kernel
theorem dX8_edge_98 : decode cX8_edge 98 = .ok (.isub, 1) := by decide +kernel
theorem dX8_edge_99 : decode cX8_edge 99 = .ok (.iload 6, 2) := by decide +kernel
theorem dX8_edge_101 : decode cX8_edge 101 = .ok (.iload_n 2, 1) := by decide +kernel
theorem dX8_edge_102 : decode cX8_edge 102 = .ok (.invokevirtual 229, 3) := by decide +kernel
theorem dX8_edge_105 : decode cX8_edge 105 = .ok (.aload_n 0, 1) := by decide +kernel
theorem dX8_edge_106 : decode cX8_edge 106 = .ok (.iload 5, 2) := by decide +kernel
theorem dX8_edge_108 : decode cX8_edge 108 = .ok (.iconst 1, 1) := by decide +kernel
theorem dX8_edge_109 : decode cX8_edge 109 = .ok (.iadd, 1) := by decide +kernel
theorem dX8_edge_110 : decode cX8_edge 110 = .ok (.iload 6, 2) := by decide +kernel
theorem dX8_edge_112 : decode cX8_edge 112 = .ok (.iload_n 2, 1) := by decide +kernel
theorem dX8_edge_113 : decode cX8_edge 113 = .ok (.invokevirtual 229, 3) := by decide +kernel
theorem dX8_edge_116 : decode cX8_edge 116 = .ok (.iadd, 1) := by decide +kernel
theorem dX8_edge_117 : decode cX8_edge 117 = .ok (.aload_n 0, 1) := by decide +kernel
theorem dX8_edge_118 : decode cX8_edge 118 = .ok (.iload 5, 2) := by decide +kernel
theorem dX8_edge_120 : decode cX8_edge 120 = .ok (.iload 6, 2) := by decide +kernel
theorem dX8_edge_122 : decode cX8_edge 122 = .ok (.iconst 1, 1) := by decide +kernel
theorem dX8_edge_123 : decode cX8_edge 123 = .ok (.isub, 1) := by decide +kernel
theorem dX8_edge_124 : decode cX8_edge 124 = .ok (.iload_n 2, 1) := by decide +kernel
theorem dX8_edge_125 : decode cX8_edge 125 = .ok (.invokevirtual 229, 3) := by decide +kernel
theorem dX8_edge_128 : decode cX8_edge 128 = .ok (.iadd, 1) := by decide +kernel
theorem dX8_edge_129 : decode cX8_edge 129 = .ok (.aload_n 0, 1) := by decide +kernel
theorem dX8_edge_130 : decode cX8_edge 130 = .ok (.iload 5, 2) := by decide +kernel
theorem dX8_edge_132 : decode cX8_edge 132 = .ok (.iload 6, 2) := by decide +kernel
theorem dX8_edge_134 : decode cX8_edge 134 = .ok (.iconst 1, 1) := by decide +kernel
theorem dX8_edge_135 : decode cX8_edge 135 = .ok (.iadd, 1) := by decide +kernel
theorem dX8_edge_136 : decode cX8_edge 136 = .ok (.iload_n 2, 1) := by decide +kernel
theorem dX8_edge_137 : decode cX8_edge 137 = .ok (.invokevirtual 229, 3) := by decide +kernel
theorem dX8_edge_140 : decode cX8_edge 140 = .ok (.iadd, 1) := by decide +kernel
theorem dX8_edge_141 : decode cX8_edge 141 = .ok (.iadd, 1) := by decide +kernel
theorem dX8_edge_142 : decode cX8_edge 142 = .ok (.istore_n 3, 1) := by decide +kernel
theorem dX8_edge_143 : decode cX8_edge 143 = .ok (.iinc 4 1, 3) := by decide +kernel
theorem dX8_edge_146 : decode cX8_edge 146 = .ok (.goto (-104), 3) := by decide +kernel
theorem dX8_edge_149 : decode cX8_edge 149 = .ok (.iload_n 3, 1) := by decide +kernel
theorem dX8_edge_150 : decode cX8_edge 150 = .ok (.ireturn, 1) := by decide +kernel
set_option maxRecDepth 20000 in
theorem ggX8_hides_X8_isPiece : GoodIn wsX8_hides wsX8_isPiece := goodIn_r _ [7, 1, 8, 9, 6, 10, 32, 33, 34, 35, 36, 37, 38, 39, 40, 41, 42, 43, 44, 45, 46, 47, 48, 49, 50] (by decide +kernel) (by decide +kernel)
set_option maxRecDepth 20000 in
theorem gX8_hides_X8_isPiece : GoodIn wsX8_hides (wsV RX8 85 RX8 yX8_isPiece wsX8_isPiece) := goodIn_app (goodIn_of _ (by decide +kernel)) ggX8_hides_X8_isPiece
set_option maxRecDepth 20000 in
theorem ggX8_hides_X8_paint : GoodIn wsX8_hides wsX8_paint := goodIn_r _ [14, 15, 16, 17, 6, 18, 1, 2, 19, 20, 21, 22, 23, 24, 25, 26, 27, 32, 33, 34, 35, 36, 37, 38, 39, 40, 41, 42, 43, 44, 45, 46, 47, 48, 49, 50] (by decide +kernel) (by decide +kernel)
set_option maxRecDepth 20000 in
theorem gX8_hides_X8_paint : GoodIn wsX8_hides (wsV RX8 69 RX8 yX8_paint wsX8_paint) := goodIn_app (goodIn_of _ (by decide +kernel)) ggX8_hides_X8_paint
set_option maxRecDepth 20000 in
theorem ggX8_hides_X8_covers : GoodIn wsX8_hides wsX8_covers := goodIn_r _ [31, 24, 25, 26, 6, 27, 1, 8, 9, 10, 32, 33, 34, 35, 36, 37, 38, 39, 40, 41, 42, 43, 44, 45, 46, 47, 48, 49, 50] (by decide +kernel) (by decide +kernel)
set_option maxRecDepth 20000 in
theorem gX8_hides_X8_covers : GoodIn wsX8_hides (wsV RX8 226 RX8 yX8_covers wsX8_covers) := goodIn_app (goodIn_of _ (by decide +kernel)) ggX8_hides_X8_covers
theorem dX8_hides_0 : decode cX8_hides 0 = .ok (.aload_n 0, 1) := by decide +kernel
theorem dX8_hides_1 : decode cX8_hides 1 = .ok (.iload_n 1, 1) := by decide +kernel
theorem dX8_hides_2 : decode cX8_hides 2 = .ok (.invokevirtual 85, 3) := by decide +kernel
theorem dX8_hides_5 : decode cX8_hides 5 = .ok (.ifCond .eq 16, 3) := by decide +kernel
theorem dX8_hides_8 : decode cX8_hides 8 = .ok (.aload_n 0, 1) := by decide +kernel
theorem dX8_hides_9 : decode cX8_hides 9 = .ok (.iload_n 2, 1) := by decide +kernel
theorem dX8_hides_10 : decode cX8_hides 10 = .ok (.invokevirtual 85, 3) := by decide +kernel
theorem dX8_hides_13 : decode cX8_hides 13 = .ok (.ifCond .eq 8, 3) := by decide +kernel
theorem dX8_hides_16 : decode cX8_hides 16 = .ok (.iload_n 1, 1) := by decide +kernel
theorem dX8_hides_17 : decode cX8_hides 17 = .ok (.iload_n 2, 1) := by decide +kernel
theorem dX8_hides_18 : decode cX8_hides 18 = .ok (.if_icmp .ne 6, 3) := by decide +kernel
theorem dX8_hides_21 : decode cX8_hides 21 = .ok (.bipush (-101), 2) := by decide +kernel
theorem dX8_hides_23 : decode cX8_hides 23 = .ok (.ireturn, 1) := by decide +kernel
theorem dX8_hides_24 : decode cX8_hides 24 = .ok (.aload_n 0, 1) := by decide +kernel
theorem dX8_hides_25 : decode cX8_hides 25 = .ok (.invokevirtual 69, 3) := by decide +kernel
theorem dX8_hides_28 : decode cX8_hides 28 = .ok (.iconst 0, 1) := by decide +kernel
theorem dX8_hides_29 : decode cX8_hides 29 = .ok (.istore_n 3, 1) := by decide +kernel
theorem dX8_hides_30 : decode cX8_hides 30 = .ok (.iconst 0, 1) := by decide +kernel
theorem dX8_hides_31 : decode cX8_hides 31 = .ok (.istore 4, 2) := by decide +kernel
theorem dX8_hides_33 : decode cX8_hides 33 = .ok (.iload 4, 2) := by decide +kernel
theorem dX8_hides_35 : decode cX8_hides 35 = .ok (.aload_n 0, 1) := by decide +kernel
theorem dX8_hides_36 : decode cX8_hides 36 = .ok (.getfield 7, 3) := by decide +kernel
theorem dX8_hides_39 : decode cX8_hides 39 = .ok (.iconst 0, 1) := by decide +kernel
theorem dX8_hides_40 : decode cX8_hides 40 = .ok (.iaload, 1) := by decide +kernel
theorem dX8_hides_41 : decode cX8_hides 41 = .ok (.aload_n 0, 1) := by decide +kernel
theorem dX8_hides_42 : decode cX8_hides 42 = .ok (.getfield 7, 3) := by decide +kernel
theorem dX8_hides_45 : decode cX8_hides 45 = .ok (.iconst 1, 1) := by decide +kernel
theorem dX8_hides_46 : decode cX8_hides 46 = .ok (.iaload, 1) := by decide +kernel
theorem dX8_hides_47 : decode cX8_hides 47 = .ok (.imul, 1) := by decide +kernel
theorem dX8_hides_48 : decode cX8_hides 48 = .ok (.if_icmp .ge 54, 3) := by decide +kernel
theorem dX8_hides_51 : decode cX8_hides 51 = .ok (.iload_n 3, 1) := by decide +kernel
theorem dX8_hides_52 : decode cX8_hides 52 = .ok (.aload_n 0, 1) := by decide +kernel
theorem dX8_hides_53 : decode cX8_hides 53 = .ok (.getfield 19, 3) := by decide +kernel
theorem dX8_hides_56 : decode cX8_hides 56 = .ok (.iload 4, 2) := by decide +kernel
theorem dX8_hides_58 : decode cX8_hides 58 = .ok (.iaload, 1) := by decide +kernel
theorem dX8_hides_59 : decode cX8_hides 59 = .ok (.iload_n 1, 1) := by decide +kernel
theorem dX8_hides_60 : decode cX8_hides 60 = .ok (.if_icmp .ne 33, 3) := by decide +kernel
theorem dX8_hides_63 : decode cX8_hides 63 = .ok (.aload_n 0, 1) := by decide +kernel
theorem dX8_hides_64 : decode cX8_hides 64 = .ok (.iload_n 2, 1) := by decide +kernel
theorem dX8_hides_65 : decode cX8_hides 65 = .ok (.iload 4, 2) := by decide +kernel
theorem dX8_hides_67 : decode cX8_hides 67 = .ok (.aload_n 0, 1) := by decide +kernel
theorem dX8_hides_68 : decode cX8_hides 68 = .ok (.getfield 7, 3) := by decide +kernel
theorem dX8_hides_71 : decode cX8_hides 71 = .ok (.iconst 0, 1) := by decide +kernel
theorem dX8_hides_72 : decode cX8_hides 72 = .ok (.iaload, 1) := by decide +kernel
theorem dX8_hides_73 : decode cX8_hides 73 = .ok (.irem, 1) := by decide +kernel
theorem dX8_hides_74 : decode cX8_hides 74 = .ok (.iload 4, 2) := by decide +kernel
theorem dX8_hides_76 : decode cX8_hides 76 = .ok (.aload_n 0, 1) := by decide +kernel
theorem dX8_hides_77 : decode cX8_hides 77 = .ok (.getfield 7, 3) := by decide +kernel
theorem dX8_hides_80 : decode cX8_hides 80 = .ok (.iconst 0, 1) := by decide +kernel
theorem dX8_hides_81 : decode cX8_hides 81 = .ok (.iaload, 1) := by decide +kernel
theorem dX8_hides_82 : decode cX8_hides 82 = .ok (.idiv, 1) := by decide +kernel
theorem dX8_hides_83 : decode cX8_hides 83 = .ok (.invokevirtual 226, 3) := by decide +kernel
theorem dX8_hides_86 : decode cX8_hides 86 = .ok (.ifCond .eq 7, 3) := by decide +kernel
theorem dX8_hides_89 : decode cX8_hides 89 = .ok (.iconst 1, 1) := by decide +kernel
theorem dX8_hides_90 : decode cX8_hides 90 = .ok (.goto 4, 3) := by decide +kernel
theorem dX8_hides_93 : decode cX8_hides 93 = .ok (.iconst 0, 1) := by decide +kernel
theorem dX8_hides_94 : decode cX8_hides 94 = .ok (.iadd, 1) := by decide +kernel
theorem dX8_hides_95 : decode cX8_hides 95 = .ok (.istore_n 3, 1) := by decide +kernel
theorem dX8_hides_96 : decode cX8_hides 96 = .ok (.iinc 4 1, 3) := by decide +kernel
theorem dX8_hides_99 : decode cX8_hides 99 = .ok (.goto (-66), 3) := by decide +kernel
theorem dX8_hides_102 : decode cX8_hides 102 = .ok (.iload_n 3, 1) := by decide +kernel
theorem dX8_hides_103 : decode cX8_hides 103 = .ok (.ireturn, 1) := by decide +kernel
set_option maxRecDepth 20000 in
theorem ggX8_percent_X8_area : GoodIn wsX8_percent wsX8_area := goodIn_r _ [6, 7, 8, 9, 5, 10, 11, 12, 13, 14, 15, 16, 17, 18, 19, 20, 21, 22, 23, 24, 25, 26, 27, 28, 29, 30] (by decide +kernel) (by decide +kernel)
set_option maxRecDepth 20000 in
theorem gX8_percent_X8_area : GoodIn wsX8_percent (wsV RX8 57 RX8 yX8_area wsX8_area) := goodIn_app (goodIn_of _ (by decide +kernel)) ggX8_percent_X8_area
theorem dX8_percent_0 : decode cX8_percent 0 = .ok (.aload_n 0, 1) := by decide +kernel
theorem dX8_percent_1 : decode cX8_percent 1 = .ok (.getfield 22, 3) := by decide +kernel
theorem dX8_percent_4 : decode cX8_percent 4 = .ok (.iload_n 1, 1) := by decide +kernel
theorem dX8_percent_5 : decode cX8_percent 5 = .ok (.iaload, 1) := by decide +kernel
theorem dX8_percent_6 : decode cX8_percent 6 = .ok (.bipush 100, 2) := by decide +kernel
theorem dX8_percent_8 : decode cX8_percent 8 = .ok (.imul, 1) := by decide +kernel
theorem dX8_percent_9 : decode cX8_percent 9 = .ok (.aload_n 0, 1) := by decide +kernel
theorem dX8_percent_10 : decode cX8_percent 10 = .ok (.iload_n 1, 1) := by decide +kernel
theorem dX8_percent_11 : decode cX8_percent 11 = .ok (.invokevirtual 57, 3) := by decide +kernel
theorem dX8_percent_14 : decode cX8_percent 14 = .ok (.idiv, 1) := by decide +kernel
theorem dX8_percent_15 : decode cX8_percent 15 = .ok (.ireturn, 1) := by decide +kernel
set_option maxRecDepth 20000 in
theorem ggX8_isAhead_X8_percent : GoodIn wsX8_isAhead wsX8_percent := goodIn_r _ [5, 6, 7, 8, 9, 4, 10, 11, 12, 13, 14, 15, 20, 21, 22, 23, 24, 25, 26, 27, 28, 29, 30, 31, 32, 33, 34, 35, 36, 37, 38] (by decide +kernel) (by decide +kernel)
set_option maxRecDepth 20000 in
theorem gX8_isAhead_X8_percent : GoodIn wsX8_isAhead (wsV RX8 233 RX8 yX8_percent wsX8_percent) := goodIn_app (goodIn_of _ (by decide +kernel)) ggX8_isAhead_X8_percent
set_option maxRecDepth 20000 in
theorem ggX8_isAhead_X8_layerOf : GoodIn wsX8_isAhead wsX8_layerOf := goodIn_r _ [19, 15, 20, 21, 22, 23, 24, 25, 26, 27, 28, 29, 30, 31, 32, 33, 34, 35, 36, 37, 38] (by decide +kernel) (by decide +kernel)
set_option maxRecDepth 20000 in
theorem gX8_isAhead_X8_layerOf : GoodIn wsX8_isAhead (wsV RX8 88 RX8 yX8_layerOf wsX8_layerOf) := goodIn_app (goodIn_of _ (by decide +kernel)) ggX8_isAhead_X8_layerOf
theorem dX8_isAhead_0 : decode cX8_isAhead 0 = .ok (.aload_n 0, 1) := by decide +kernel
theorem dX8_isAhead_1 : decode cX8_isAhead 1 = .ok (.iload_n 1, 1) := by decide +kernel
theorem dX8_isAhead_2 : decode cX8_isAhead 2 = .ok (.invokevirtual 233, 3) := by decide +kernel
theorem dX8_isAhead_5 : decode cX8_isAhead 5 = .ok (.aload_n 0, 1) := by decide +kernel
theorem dX8_isAhead_6 : decode cX8_isAhead 6 = .ok (.iload_n 2, 1) := by decide +kernel
theorem dX8_isAhead_7 : decode cX8_isAhead 7 = .ok (.invokevirtual 233, 3) := by decide +kernel
theorem dX8_isAhead_10 : decode cX8_isAhead 10 = .ok (.if_icmp .eq 24, 3) := by decide +kernel
theorem dX8_isAhead_13 : decode cX8_isAhead 13 = .ok (.aload_n 0, 1) := by decide +kernel
theorem dX8_isAhead_14 : decode cX8_isAhead 14 = .ok (.iload_n 1, 1) := by decide +kernel
theorem dX8_isAhead_15 : decode cX8_isAhead 15 = .ok (.invokevirtual 233, 3) := by decide +kernel
theorem dX8_isAhead_18 : decode cX8_isAhead 18 = .ok (.aload_n 0, 1) := by decide +kernel
theorem dX8_isAhead_19 : decode cX8_isAhead 19 = .ok (.iload_n 2, 1) := by decide +kernel
theorem dX8_isAhead_20 : decode cX8_isAhead 20 = .ok (.invokevirtual 233, 3) := by decide +kernel
theorem dX8_isAhead_23 : decode cX8_isAhead 23 = .ok (.if_icmp .ge 7, 3) := by decide +kernel
theorem dX8_isAhead_26 : decode cX8_isAhead 26 = .ok (.iconst 1, 1) := by decide +kernel
theorem dX8_isAhead_27 : decode cX8_isAhead 27 = .ok (.goto 25, 3) := by decide +kernel
theorem dX8_isAhead_30 : decode cX8_isAhead 30 = .ok (.iconst 0, 1) := by decide +kernel
theorem dX8_isAhead_31 : decode cX8_isAhead 31 = .ok (.goto 21, 3) := by decide +kernel
theorem dX8_isAhead_34 : decode cX8_isAhead 34 = .ok (.aload_n 0, 1) := by decide +kernel
theorem dX8_isAhead_35 : decode cX8_isAhead 35 = .ok (.iload_n 1, 1) := by decide +kernel
theorem dX8_isAhead_36 : decode cX8_isAhead 36 = .ok (.invokevirtual 88, 3) := by decide +kernel
theorem dX8_isAhead_39 : decode cX8_isAhead 39 = .ok (.aload_n 0, 1) := by decide +kernel
theorem dX8_isAhead_40 : decode cX8_isAhead 40 = .ok (.iload_n 2, 1) := by decide +kernel
theorem dX8_isAhead_41 : decode cX8_isAhead 41 = .ok (.invokevirtual 88, 3) := by decide +kernel
theorem dX8_isAhead_44 : decode cX8_isAhead 44 = .ok (.if_icmp .ge 7, 3) := by decide +kernel
theorem dX8_isAhead_47 : decode cX8_isAhead 47 = .ok (.iconst 1, 1) := by decide +kernel
theorem dX8_isAhead_48 : decode cX8_isAhead 48 = .ok (.goto 4, 3) := by decide +kernel
theorem dX8_isAhead_51 : decode cX8_isAhead 51 = .ok (.iconst 0, 1) := by decide +kernel
theorem dX8_isAhead_52 : decode cX8_isAhead 52 = .ok (.ireturn, 1) := by decide +kernel
set_option maxRecDepth 20000 in
theorem ggX8_byShare_X8_paint : GoodIn wsX8_byShare wsX8_paint := goodIn_r _ [6, 7, 8, 9, 5, 10, 1, 11, 12, 13, 14, 15, 16, 17, 18, 19, 20, 37, 38, 39, 40, 41, 42, 43, 44, 45, 46, 47, 48, 49, 50, 51, 52, 53, 54, 55] (by decide +kernel) (by decide +kernel)
set_option maxRecDepth 20000 in
theorem gX8_byShare_X8_paint : GoodIn wsX8_byShare (wsV RX8 69 RX8 yX8_paint wsX8_paint) := goodIn_app (goodIn_of _ (by decide +kernel)) ggX8_byShare_X8_paint
set_option maxRecDepth 20000 in
theorem ggX8_byShare_X8_isAhead : GoodIn wsX8_byShare wsX8_isAhead := goodIn_r _ [24, 25, 26, 27, 5, 28, 12, 29, 30, 31, 32, 17, 18, 19, 20, 1, 33, 34, 35, 36, 37, 38, 39, 40, 41, 42, 43, 44, 45, 46, 47, 48, 49, 50, 51, 52, 53, 54, 55] (by decide +kernel) (by decide +kernel)
set_option maxRecDepth 20000 in
theorem gX8_byShare_X8_isAhead : GoodIn wsX8_byShare (wsV RX8 236 RX8 yX8_isAhead wsX8_isAhead) := goodIn_app (goodIn_of _ (by decide +kernel)) ggX8_byShare_X8_isAhead
theorem dX8_byShare_0 : decode cX8_byShare 0 = .ok (.iload_n 1, 1) := by decide +kernel
theorem dX8_byShare_1 : decode cX8_byShare 1 = .ok (.ifCond .ge 6, 3) := by decide +kernel
theorem dX8_byShare_4 : decode cX8_byShare 4 = .ok (.bipush (-101), 2) := by decide +kernel
theorem dX8_byShare_6 : decode cX8_byShare 6 = .ok (.ireturn, 1) := by decide +kernel
theorem dX8_byShare_7 : decode cX8_byShare 7 = .ok (.aload_n 0, 1) := by decide +kernel
theorem dX8_byShare_8 : decode cX8_byShare 8 = .ok (.invokevirtual 69, 3) := by decide +kernel
theorem dX8_byShare_11 : decode cX8_byShare 11 = .ok (.iconst 0, 1) := by decide +kernel
theorem dX8_byShare_12 : decode cX8_byShare 12 = .ok (.istore_n 2, 1) := by decide +kernel
theorem dX8_byShare_13 : decode cX8_byShare 13 = .ok (.iload_n 2, 1) := by decide +kernel
theorem dX8_byShare_14 : decode cX8_byShare 14 = .ok (.aload_n 0, 1) := by decide +kernel
theorem dX8_byShare_15 : decode cX8_byShare 15 = .ok (.getfield 7, 3) := by decide +kernel
theorem dX8_byShare_18 : decode cX8_byShare 18 = .ok (.iconst 2, 1) := by decide +kernel
theorem dX8_byShare_19 : decode cX8_byShare 19 = .ok (.iaload, 1) := by decide +kernel
theorem dX8_byShare_20 : decode cX8_byShare 20 = .ok (.if_icmp .ge 56, 3) := by decide +kernel
theorem dX8_byShare_23 : decode cX8_byShare 23 = .ok (.iconst 0, 1) := by decide +kernel
theorem dX8_byShare_24 : decode cX8_byShare 24 = .ok (.istore_n 3, 1) := by decide +kernel
theorem dX8_byShare_25 : decode cX8_byShare 25 = .ok (.iconst 0, 1) := by decide +kernel
theorem dX8_byShare_26 : decode cX8_byShare 26 = .ok (.istore 4, 2) := by decide +kernel
theorem dX8_byShare_28 : decode cX8_byShare 28 = .ok (.iload 4, 2) := by decide +kernel
theorem dX8_byShare_30 : decode cX8_byShare 30 = .ok (.aload_n 0, 1) := by decide +kernel
theorem dX8_byShare_31 : decode cX8_byShare 31 = .ok (.getfield 7, 3) := by decide +kernel
theorem dX8_byShare_34 : decode cX8_byShare 34 = .ok (.iconst 2, 1) := by decide +kernel
theorem dX8_byShare_35 : decode cX8_byShare 35 = .ok (.iaload, 1) := by decide +kernel
theorem dX8_byShare_36 : decode cX8_byShare 36 = .ok (.if_icmp .ge 27, 3) := by decide +kernel
theorem dX8_byShare_39 : decode cX8_byShare 39 = .ok (.iload_n 3, 1) := by decide +kernel
theorem dX8_byShare_40 : decode cX8_byShare 40 = .ok (.aload_n 0, 1) := by decide +kernel
theorem dX8_byShare_41 : decode cX8_byShare 41 = .ok (.iload 4, 2) := by decide +kernel
theorem dX8_byShare_43 : decode cX8_byShare 43 = .ok (.iload_n 2, 1) := by decide +kernel
theorem dX8_byShare_44 : decode cX8_byShare 44 = .ok (.invokevirtual 236, 3) := by decide +kernel
theorem dX8_byShare_47 : decode cX8_byShare 47 = .ok (.ifCond .eq 7, 3) := by decide +kernel
theorem dX8_byShare_50 : decode cX8_byShare 50 = .ok (.iconst 1, 1) := by decide +kernel
theorem dX8_byShare_51 : decode cX8_byShare 51 = .ok (.goto 4, 3) := by decide +kernel
theorem dX8_byShare_54 : decode cX8_byShare 54 = .ok (.iconst 0, 1) := by decide +kernel
theorem dX8_byShare_55 : decode cX8_byShare 55 = .ok (.iadd, 1) := by decide +kernel
theorem dX8_byShare_56 : decode cX8_byShare 56 = .ok (.istore_n 3, 1) := by decide +kernel
theorem dX8_byShare_57 : decode cX8_byShare 57 = .ok (.iinc 4 1, 3) := by decide +kernel
theorem dX8_byShare_60 : decode cX8_byShare 60 = .ok (.goto (-32), 3) := by decide +kernel
theorem dX8_byShare_63 : decode cX8_byShare 63 = .ok (.iload_n 3, 1) := by decide +kernel
theorem dX8_byShare_64 : decode cX8_byShare 64 = .ok (.iload_n 1, 1) := by decide +kernel
theorem dX8_byShare_65 : decode cX8_byShare 65 = .ok (.if_icmp .ne 5, 3) := by decide +kernel
theorem dX8_byShare_68 : decode cX8_byShare 68 = .ok (.iload_n 2, 1) := by decide +kernel
theorem dX8_byShare_69 : decode cX8_byShare 69 = .ok (.ireturn, 1) := by decide +kernel
theorem dX8_byShare_70 : decode cX8_byShare 70 = .ok (.iinc 2 1, 3) := by decide +kernel
theorem dX8_byShare_73 : decode cX8_byShare 73 = .ok (.goto (-60), 3) := by decide +kernel
theorem dX8_byShare_76 : decode cX8_byShare 76 = .ok (.bipush (-109), 2) := by decide +kernel
theorem dX8_byShare_78 : decode cX8_byShare 78 = .ok (.ireturn, 1) := by decide +kernel
set_option maxRecDepth 20000 in
theorem ggX8_leastShift_X8_isPiece : GoodIn wsX8_leastShift wsX8_isPiece := goodIn_r _ [7, 8, 9, 10, 6, 11, 68, 69, 70, 71, 72, 73, 74, 75, 76, 77, 78, 79, 80, 81, 82, 83, 84, 85, 86] (by decide +kernel) (by decide +kernel)
set_option maxRecDepth 20000 in
theorem gX8_leastShift_X8_isPiece : GoodIn wsX8_leastShift (wsV RX8 85 RX8 yX8_isPiece wsX8_isPiece) := goodIn_app (goodIn_of _ (by decide +kernel)) ggX8_leastShift_X8_isPiece
set_option maxRecDepth 20000 in
theorem ggX8_leastShift_X8_in : GoodIn wsX8_leastShift wsX8_in := goodIn_r _ [11] (by decide +kernel) (by decide +kernel)
set_option maxRecDepth 20000 in
theorem gX8_leastShift_X8_in : GoodIn wsX8_leastShift (va_wsS RX8 42 yX8_in wsX8_in) := goodIn_app (goodIn_of _ (by decide +kernel)) ggX8_leastShift_X8_in
set_option maxRecDepth 20000 in
theorem ggX8_leastShift_X8_findLeast : GoodIn wsX8_leastShift wsX8_findLeast := goodIn_r _ [15, 1, 2, 16, 17, 18, 6, 19, 20, 21, 22, 23, 8, 24, 25, 26, 27, 28, 29, 30, 31, 32, 33, 34, 35, 36, 37, 38, 39, 40, 41, 42, 43, 44, 45, 46, 47, 48, 49, 50, 51, 52, 53, 54, 55, 56, 57, 58, 59, 9, 10, 11, 60, 61, 62, 63, 64, 65, 66, 67, 68, 69, 70, 71, 72, 73, 74, 75, 76, 77, 78, 79, 80, 81, 82, 83, 84, 85, 86] (by decide +kernel) (by decide +kernel)
set_option maxRecDepth 20000 in
theorem gX8_leastShift_X8_findLeast : GoodIn wsX8_leastShift (wsV RX8 120 RX8 yX8_findLeast wsX8_findLeast) := goodIn_app (goodIn_of _ (by decide +kernel)) ggX8_leastShift_X8_findLeast
theorem dX8_leastShift_0 : decode cX8_leastShift 0 = .ok (.aload_n 0, 1) := by decide +kernel
theorem dX8_leastShift_1 : decode cX8_leastShift 1 = .ok (.iload_n 1, 1) := by decide +kernel
theorem dX8_leastShift_2 : decode cX8_leastShift 2 = .ok (.invokevirtual 85, 3) := by decide +kernel
theorem dX8_leastShift_5 : decode cX8_leastShift 5 = .ok (.ifCond .eq 21, 3) := by decide +kernel
theorem dX8_leastShift_8 : decode cX8_leastShift 8 = .ok (.iload_n 2, 1) := by decide +kernel
theorem dX8_leastShift_9 : decode cX8_leastShift 9 = .ok (.iconst 0, 1) := by decide +kernel
theorem dX8_leastShift_10 : decode cX8_leastShift 10 = .ok (.iconst 2, 1) := by decide +kernel
theorem dX8_leastShift_11 : decode cX8_leastShift 11 = .ok (.invokestatic 42, 3) := by decide +kernel
theorem dX8_leastShift_14 : decode cX8_leastShift 14 = .ok (.ifCond .eq 12, 3) := by decide +kernel
theorem dX8_leastShift_17 : decode cX8_leastShift 17 = .ok (.iload_n 3, 1) := by decide +kernel
theorem dX8_leastShift_18 : decode cX8_leastShift 18 = .ok (.iconst 0, 1) := by decide +kernel
theorem dX8_leastShift_19 : decode cX8_leastShift 19 = .ok (.iconst 2, 1) := by decide +kernel
theorem dX8_leastShift_20 : decode cX8_leastShift 20 = .ok (.invokestatic 42, 3) := by decide +kernel
theorem dX8_leastShift_23 : decode cX8_leastShift 23 = .ok (.ifCond .ne 6, 3) := by decide +kernel
theorem dX8_leastShift_26 : decode cX8_leastShift 26 = .ok (.bipush (-101), 2) := by decide +kernel
theorem dX8_leastShift_28 : decode cX8_leastShift 28 = .ok (.ireturn, 1) := by decide +kernel
theorem dX8_leastShift_29 : decode cX8_leastShift 29 = .ok (.aload_n 0, 1) := by decide +kernel
theorem dX8_leastShift_30 : decode cX8_leastShift 30 = .ok (.iload_n 1, 1) := by decide +kernel
theorem dX8_leastShift_31 : decode cX8_leastShift 31 = .ok (.iload_n 2, 1) := by decide +kernel
theorem dX8_leastShift_32 : decode cX8_leastShift 32 = .ok (.invokevirtual 120, 3) := by decide +kernel
theorem dX8_leastShift_35 : decode cX8_leastShift 35 = .ok (.istore 4, 2) := by decide +kernel
theorem dX8_leastShift_37 : decode cX8_leastShift 37 = .ok (.iload 4, 2) := by decide +kernel
theorem dX8_leastShift_39 : decode cX8_leastShift 39 = .ok (.bipush (-109), 2) := by decide +kernel
theorem dX8_leastShift_41 : decode cX8_leastShift 41 = .ok (.if_icmp .ne 8, 3) := by decide +kernel
theorem dX8_leastShift_44 : decode cX8_leastShift 44 = .ok (.bipush (-109), 2) := by decide +kernel
theorem dX8_leastShift_46 : decode cX8_leastShift 46 = .ok (.goto 28, 3) := by decide +kernel
theorem dX8_leastShift_49 : decode cX8_leastShift 49 = .ok (.iload_n 3, 1) := by decide +kernel
theorem dX8_leastShift_50 : decode cX8_leastShift 50 = .ok (.ifCond .ne 8, 3) := by decide +kernel
theorem dX8_leastShift_53 : decode cX8_leastShift 53 = .ok (.iload 4, 2) := by decide +kernel
theorem dX8_leastShift_55 : decode cX8_leastShift 55 = .ok (.goto 19, 3) := by decide +kernel
theorem dX8_leastShift_58 : decode cX8_leastShift 58 = .ok (.iload_n 3, 1) := by decide +kernel
theorem dX8_leastShift_59 : decode cX8_leastShift 59 = .ok (.iconst 1, 1) := by decide +kernel
theorem dX8_leastShift_60 : decode cX8_leastShift 60 = .ok (.if_icmp .ne 10, 3) := by decide +kernel
theorem dX8_leastShift_63 : decode cX8_leastShift 63 = .ok (.aload_n 0, 1) := by decide +kernel
theorem dX8_leastShift_64 : decode cX8_leastShift 64 = .ok (.getfield 114, 3) := by decide +kernel
theorem dX8_leastShift_67 : decode cX8_leastShift 67 = .ok (.goto 7, 3) := by decide +kernel
theorem dX8_leastShift_70 : decode cX8_leastShift 70 = .ok (.aload_n 0, 1) := by decide +kernel
theorem dX8_leastShift_71 : decode cX8_leastShift 71 = .ok (.getfield 117, 3) := by decide +kernel
theorem dX8_leastShift_74 : decode cX8_leastShift 74 = .ok (.ireturn, 1) := by decide +kernel
set_option maxRecDepth 20000 in
theorem ggX8_layerFor_X8_isPiece : GoodIn wsX8_layerFor wsX8_isPiece := goodIn_r _ [6, 1, 7, 8, 5, 9, 44, 45, 46, 47, 48, 49, 50, 51, 52, 53, 54, 55, 56, 57, 58, 59, 60, 61, 62] (by decide +kernel) (by decide +kernel)
set_option maxRecDepth 20000 in
theorem gX8_layerFor_X8_isPiece : GoodIn wsX8_layerFor (wsV RX8 85 RX8 yX8_isPiece wsX8_isPiece) := goodIn_app (goodIn_of _ (by decide +kernel)) ggX8_layerFor_X8_isPiece
set_option maxRecDepth 20000 in
theorem ggX8_layerFor_X8_layerOf : GoodIn wsX8_layerFor wsX8_layerOf := goodIn_r _ [13, 1, 44, 45, 46, 47, 48, 49, 50, 51, 52, 53, 54, 55, 56, 57, 58, 59, 60, 61, 62] (by decide +kernel) (by decide +kernel)
set_option maxRecDepth 20000 in
theorem gX8_layerFor_X8_layerOf : GoodIn wsX8_layerFor (wsV RX8 88 RX8 yX8_layerOf wsX8_layerOf) := goodIn_app (goodIn_of _ (by decide +kernel)) ggX8_layerFor_X8_layerOf
set_option maxRecDepth 20000 in
theorem ggX8_layerFor_X8_lays : GoodIn wsX8_layerFor wsX8_lays := goodIn_r _ [17, 1, 10, 11, 12, 5, 13, 44, 45, 46, 47, 48, 49, 50, 51, 52, 53, 54, 55, 56, 57, 58, 59, 60, 61, 62] (by decide +kernel) (by decide +kernel)
set_option maxRecDepth 20000 in
theorem gX8_layerFor_X8_lays : GoodIn wsX8_layerFor (wsV RX8 104 RX8 yX8_lays wsX8_lays) := goodIn_app (goodIn_of _ (by decide +kernel)) ggX8_layerFor_X8_lays
set_option maxRecDepth 20000 in
theorem ggX8_layerFor_X8_paint : GoodIn wsX8_layerFor wsX8_paint := goodIn_r _ [21, 22, 23, 24, 5, 25, 1, 26, 27, 28, 29, 30, 31, 32, 33, 34, 35, 44, 45, 46, 47, 48, 49, 50, 51, 52, 53, 54, 55, 56, 57, 58, 59, 60, 61, 62] (by decide +kernel) (by decide +kernel)
set_option maxRecDepth 20000 in
theorem gX8_layerFor_X8_paint : GoodIn wsX8_layerFor (wsV RX8 69 RX8 yX8_paint wsX8_paint) := goodIn_app (goodIn_of _ (by decide +kernel)) ggX8_layerFor_X8_paint
set_option maxRecDepth 20000 in
theorem ggX8_layerFor_X8_isContent : GoodIn wsX8_layerFor wsX8_isContent := goodIn_r _ [39, 27, 32, 33, 34, 5, 35, 1, 40, 41, 42, 43, 44, 45, 46, 47, 48, 49, 50, 51, 52, 53, 54, 55, 56, 57, 58, 59, 60, 61, 62] (by decide +kernel) (by decide +kernel)
set_option maxRecDepth 20000 in
theorem gX8_layerFor_X8_isContent : GoodIn wsX8_layerFor (wsV RX8 61 RX8 yX8_isContent wsX8_isContent) := goodIn_app (goodIn_of _ (by decide +kernel)) ggX8_layerFor_X8_isContent
theorem dX8_layerFor_0 : decode cX8_layerFor 0 = .ok (.aload_n 0, 1) := by decide +kernel
theorem dX8_layerFor_1 : decode cX8_layerFor 1 = .ok (.iload_n 1, 1) := by decide +kernel
theorem dX8_layerFor_2 : decode cX8_layerFor 2 = .ok (.invokevirtual 85, 3) := by decide +kernel
theorem dX8_layerFor_5 : decode cX8_layerFor 5 = .ok (.ifCond .ne 6, 3) := by decide +kernel
theorem dX8_layerFor_8 : decode cX8_layerFor 8 = .ok (.bipush (-101), 2) := by decide +kernel
theorem dX8_layerFor_10 : decode cX8_layerFor 10 = .ok (.ireturn, 1) := by decide +kernel
theorem dX8_layerFor_11 : decode cX8_layerFor 11 = .ok (.aload_n 0, 1) := by decide +kernel
theorem dX8_layerFor_12 : decode cX8_layerFor 12 = .ok (.iload_n 1, 1) := by decide +kernel
theorem dX8_layerFor_13 : decode cX8_layerFor 13 = .ok (.invokevirtual 88, 3) := by decide +kernel
theorem dX8_layerFor_16 : decode cX8_layerFor 16 = .ok (.istore_n 2, 1) := by decide +kernel
theorem dX8_layerFor_17 : decode cX8_layerFor 17 = .ok (.bipush (-109), 2) := by decide +kernel
theorem dX8_layerFor_19 : decode cX8_layerFor 19 = .ok (.istore_n 3, 1) := by decide +kernel
