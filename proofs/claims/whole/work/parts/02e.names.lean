theorem dX4_nextToken_151 : decode cX4_nextToken 151 = .ok (.aload_n 0, 1) := by decide +kernel
theorem dX4_nextToken_152 : decode cX4_nextToken 152 = .ok (.getfield 22, 3) := by decide +kernel
theorem dX4_nextToken_155 : decode cX4_nextToken 155 = .ok (.iconst 1, 1) := by decide +kernel
theorem dX4_nextToken_156 : decode cX4_nextToken 156 = .ok (.iadd, 1) := by decide +kernel
theorem dX4_nextToken_157 : decode cX4_nextToken 157 = .ok (.putfield 25, 3) := by decide +kernel
theorem dX4_nextToken_160 : decode cX4_nextToken 160 = .ok (.return_, 1) := by decide +kernel
set_option maxRecDepth 20000 in
theorem ggX4_takeWord_X6_length : GoodIn wsX4_takeWord wsX6_length := goodIn_r _ [8, 9, 23, 24] (by decide +kernel) (by decide +kernel)
set_option maxRecDepth 20000 in
theorem gX4_takeWord_X6_length : GoodIn wsX4_takeWord (wsV RX4 100 RX6 yX6_length wsX6_length) := goodIn_app (goodIn_of _ (by decide +kernel)) ggX4_takeWord_X6_length
set_option maxRecDepth 20000 in
theorem ggX4_takeWord_X6_characterAt : GoodIn wsX4_takeWord wsX6_characterAt := goodIn_r _ [13, 9, 14, 23, 24] (by decide +kernel) (by decide +kernel)
set_option maxRecDepth 20000 in
theorem gX4_takeWord_X6_characterAt : GoodIn wsX4_takeWord (wsV RX4 90 RX6 yX6_characterAt wsX6_characterAt) := goodIn_app (goodIn_of _ (by decide +kernel)) ggX4_takeWord_X6_characterAt
set_option maxRecDepth 20000 in
theorem ggX4_takeWord_X7_isWithin : GoodIn wsX4_takeWord wsX7_isWithin := goodIn_r _ [17] (by decide +kernel) (by decide +kernel)
set_option maxRecDepth 20000 in
theorem gX4_takeWord_X7_isWithin_n81 : GoodIn wsX4_takeWord (wsX7_isWithin) := ggX4_takeWord_X7_isWithin
theorem dX4_takeWord_0 : decode cX4_takeWord 0 = .ok (.aload_n 0, 1) := by decide +kernel
theorem dX4_takeWord_1 : decode cX4_takeWord 1 = .ok (.iconst 1, 1) := by decide +kernel
theorem dX4_takeWord_2 : decode cX4_takeWord 2 = .ok (.putfield 15, 3) := by decide +kernel
theorem dX4_takeWord_5 : decode cX4_takeWord 5 = .ok (.aload_n 0, 1) := by decide +kernel
theorem dX4_takeWord_6 : decode cX4_takeWord 6 = .ok (.getfield 25, 3) := by decide +kernel
theorem dX4_takeWord_9 : decode cX4_takeWord 9 = .ok (.aload_n 0, 1) := by decide +kernel
theorem dX4_takeWord_10 : decode cX4_takeWord 10 = .ok (.getfield 9, 3) := by decide +kernel
theorem dX4_takeWord_13 : decode cX4_takeWord 13 = .ok (.invokevirtual 100, 3) := by decide +kernel
theorem dX4_takeWord_16 : decode cX4_takeWord 16 = .ok (.if_icmp .ge 37, 3) := by decide +kernel
theorem dX4_takeWord_19 : decode cX4_takeWord 19 = .ok (.aload_n 0, 1) := by decide +kernel
theorem dX4_takeWord_20 : decode cX4_takeWord 20 = .ok (.getfield 9, 3) := by decide +kernel
theorem dX4_takeWord_23 : decode cX4_takeWord 23 = .ok (.aload_n 0, 1) := by decide +kernel
theorem dX4_takeWord_24 : decode cX4_takeWord 24 = .ok (.getfield 25, 3) := by decide +kernel
theorem dX4_takeWord_27 : decode cX4_takeWord 27 = .ok (.invokevirtual 90, 3) := by decide +kernel
theorem dX4_takeWord_30 : decode cX4_takeWord 30 = .ok (.bipush 97, 2) := by decide +kernel
theorem dX4_takeWord_32 : decode cX4_takeWord 32 = .ok (.bipush 122, 2) := by decide +kernel
theorem dX4_takeWord_34 : decode cX4_takeWord 34 = .ok (.invokestatic 81, 3) := by decide +kernel
theorem dX4_takeWord_37 : decode cX4_takeWord 37 = .ok (.ifCond .eq 16, 3) := by decide +kernel
theorem dX4_takeWord_40 : decode cX4_takeWord 40 = .ok (.aload_n 0, 1) := by decide +kernel
theorem dX4_takeWord_41 : decode cX4_takeWord 41 = .ok (.dup, 1) := by decide +kernel
theorem dX4_takeWord_42 : decode cX4_takeWord 42 = .ok (.getfield 25, 3) := by decide +kernel
theorem dX4_takeWord_45 : decode cX4_takeWord 45 = .ok (.iconst 1, 1) := by decide +kernel
theorem dX4_takeWord_46 : decode cX4_takeWord 46 = .ok (.iadd, 1) := by decide +kernel
theorem dX4_takeWord_47 : decode cX4_takeWord 47 = .ok (.putfield 25, 3) := by decide +kernel
theorem dX4_takeWord_50 : decode cX4_takeWord 50 = .ok (.goto (-45), 3) := by decide +kernel
theorem dX4_takeWord_53 : decode cX4_takeWord 53 = .ok (.return_, 1) := by decide +kernel
set_option maxRecDepth 20000 in
theorem ggX4_takeNumber_X6_characterAt : GoodIn wsX4_takeNumber wsX6_characterAt := goodIn_r _ [14, 15, 16, 29, 30] (by decide +kernel) (by decide +kernel)
set_option maxRecDepth 20000 in
theorem gX4_takeNumber_X6_characterAt : GoodIn wsX4_takeNumber (wsV RX4 90 RX6 yX6_characterAt wsX6_characterAt) := goodIn_app (goodIn_of _ (by decide +kernel)) ggX4_takeNumber_X6_characterAt
set_option maxRecDepth 20000 in
theorem ggX4_takeNumber_X6_length : GoodIn wsX4_takeNumber wsX6_length := goodIn_r _ [20, 15, 29, 30] (by decide +kernel) (by decide +kernel)
set_option maxRecDepth 20000 in
theorem gX4_takeNumber_X6_length : GoodIn wsX4_takeNumber (wsV RX4 100 RX6 yX6_length wsX6_length) := goodIn_app (goodIn_of _ (by decide +kernel)) ggX4_takeNumber_X6_length
set_option maxRecDepth 20000 in
theorem ggX4_takeNumber_X7_isWithin : GoodIn wsX4_takeNumber wsX7_isWithin := goodIn_r _ [23] (by decide +kernel) (by decide +kernel)
set_option maxRecDepth 20000 in
theorem gX4_takeNumber_X7_isWithin_n81 : GoodIn wsX4_takeNumber (wsX7_isWithin) := ggX4_takeNumber_X7_isWithin
theorem dX4_takeNumber_0 : decode cX4_takeNumber 0 = .ok (.aload_n 0, 1) := by decide +kernel
theorem dX4_takeNumber_1 : decode cX4_takeNumber 1 = .ok (.getfield 9, 3) := by decide +kernel
theorem dX4_takeNumber_4 : decode cX4_takeNumber 4 = .ok (.aload_n 0, 1) := by decide +kernel
theorem dX4_takeNumber_5 : decode cX4_takeNumber 5 = .ok (.getfield 22, 3) := by decide +kernel
theorem dX4_takeNumber_8 : decode cX4_takeNumber 8 = .ok (.invokevirtual 90, 3) := by decide +kernel
theorem dX4_takeNumber_11 : decode cX4_takeNumber 11 = .ok (.bipush 45, 2) := by decide +kernel
theorem dX4_takeNumber_13 : decode cX4_takeNumber 13 = .ok (.if_icmp .ne 7, 3) := by decide +kernel
theorem dX4_takeNumber_16 : decode cX4_takeNumber 16 = .ok (.iconst 1, 1) := by decide +kernel
theorem dX4_takeNumber_17 : decode cX4_takeNumber 17 = .ok (.goto 4, 3) := by decide +kernel
theorem dX4_takeNumber_20 : decode cX4_takeNumber 20 = .ok (.iconst 0, 1) := by decide +kernel
theorem dX4_takeNumber_21 : decode cX4_takeNumber 21 = .ok (.istore_n 1, 1) := by decide +kernel
theorem dX4_takeNumber_22 : decode cX4_takeNumber 22 = .ok (.iload_n 1, 1) := by decide +kernel
theorem dX4_takeNumber_23 : decode cX4_takeNumber 23 = .ok (.ifCond .eq 12, 3) := by decide +kernel
theorem dX4_takeNumber_26 : decode cX4_takeNumber 26 = .ok (.aload_n 0, 1) := by decide +kernel
theorem dX4_takeNumber_27 : decode cX4_takeNumber 27 = .ok (.getfield 22, 3) := by decide +kernel
theorem dX4_takeNumber_30 : decode cX4_takeNumber 30 = .ok (.iconst 1, 1) := by decide +kernel
theorem dX4_takeNumber_31 : decode cX4_takeNumber 31 = .ok (.iadd, 1) := by decide +kernel
theorem dX4_takeNumber_32 : decode cX4_takeNumber 32 = .ok (.goto 7, 3) := by decide +kernel
theorem dX4_takeNumber_35 : decode cX4_takeNumber 35 = .ok (.aload_n 0, 1) := by decide +kernel
theorem dX4_takeNumber_36 : decode cX4_takeNumber 36 = .ok (.getfield 22, 3) := by decide +kernel
theorem dX4_takeNumber_39 : decode cX4_takeNumber 39 = .ok (.istore_n 2, 1) := by decide +kernel
theorem dX4_takeNumber_40 : decode cX4_takeNumber 40 = .ok (.aload_n 0, 1) := by decide +kernel
theorem dX4_takeNumber_41 : decode cX4_takeNumber 41 = .ok (.iload_n 2, 1) := by decide +kernel
theorem dX4_takeNumber_42 : decode cX4_takeNumber 42 = .ok (.putfield 25, 3) := by decide +kernel
theorem dX4_takeNumber_45 : decode cX4_takeNumber 45 = .ok (.aload_n 0, 1) := by decide +kernel
theorem dX4_takeNumber_46 : decode cX4_takeNumber 46 = .ok (.iconst 0, 1) := by decide +kernel
theorem dX4_takeNumber_47 : decode cX4_takeNumber 47 = .ok (.putfield 19, 3) := by decide +kernel
theorem dX4_takeNumber_50 : decode cX4_takeNumber 50 = .ok (.aload_n 0, 1) := by decide +kernel
theorem dX4_takeNumber_51 : decode cX4_takeNumber 51 = .ok (.getfield 25, 3) := by decide +kernel
theorem dX4_takeNumber_54 : decode cX4_takeNumber 54 = .ok (.aload_n 0, 1) := by decide +kernel
theorem dX4_takeNumber_55 : decode cX4_takeNumber 55 = .ok (.getfield 9, 3) := by decide +kernel
theorem dX4_takeNumber_58 : decode cX4_takeNumber 58 = .ok (.invokevirtual 100, 3) := by decide +kernel
theorem dX4_takeNumber_61 : decode cX4_takeNumber 61 = .ok (.if_icmp .ge 69, 3) := by decide +kernel
theorem dX4_takeNumber_64 : decode cX4_takeNumber 64 = .ok (.aload_n 0, 1) := by decide +kernel
theorem dX4_takeNumber_65 : decode cX4_takeNumber 65 = .ok (.getfield 9, 3) := by decide +kernel
theorem dX4_takeNumber_68 : decode cX4_takeNumber 68 = .ok (.aload_n 0, 1) := by decide +kernel
theorem dX4_takeNumber_69 : decode cX4_takeNumber 69 = .ok (.getfield 25, 3) := by decide +kernel
theorem dX4_takeNumber_72 : decode cX4_takeNumber 72 = .ok (.invokevirtual 90, 3) := by decide +kernel
theorem dX4_takeNumber_75 : decode cX4_takeNumber 75 = .ok (.bipush 48, 2) := by decide +kernel
theorem dX4_takeNumber_77 : decode cX4_takeNumber 77 = .ok (.bipush 57, 2) := by decide +kernel
theorem dX4_takeNumber_79 : decode cX4_takeNumber 79 = .ok (.invokestatic 81, 3) := by decide +kernel
theorem dX4_takeNumber_82 : decode cX4_takeNumber 82 = .ok (.ifCond .eq 48, 3) := by decide +kernel
theorem dX4_takeNumber_85 : decode cX4_takeNumber 85 = .ok (.aload_n 0, 1) := by decide +kernel
theorem dX4_takeNumber_86 : decode cX4_takeNumber 86 = .ok (.aload_n 0, 1) := by decide +kernel
theorem dX4_takeNumber_87 : decode cX4_takeNumber 87 = .ok (.getfield 19, 3) := by decide +kernel
theorem dX4_takeNumber_90 : decode cX4_takeNumber 90 = .ok (.bipush 10, 2) := by decide +kernel
theorem dX4_takeNumber_92 : decode cX4_takeNumber 92 = .ok (.imul, 1) := by decide +kernel
theorem dX4_takeNumber_93 : decode cX4_takeNumber 93 = .ok (.aload_n 0, 1) := by decide +kernel
theorem dX4_takeNumber_94 : decode cX4_takeNumber 94 = .ok (.getfield 9, 3) := by decide +kernel
theorem dX4_takeNumber_97 : decode cX4_takeNumber 97 = .ok (.aload_n 0, 1) := by decide +kernel
theorem dX4_takeNumber_98 : decode cX4_takeNumber 98 = .ok (.getfield 25, 3) := by decide +kernel
theorem dX4_takeNumber_101 : decode cX4_takeNumber 101 = .ok (.invokevirtual 90, 3) := by decide +kernel
theorem dX4_takeNumber_104 : decode cX4_takeNumber 104 = .ok (.iadd, 1) := by decide +kernel
theorem dX4_takeNumber_105 : decode cX4_takeNumber 105 = .ok (.bipush 48, 2) := by decide +kernel
theorem dX4_takeNumber_107 : decode cX4_takeNumber 107 = .ok (.isub, 1) := by decide +kernel
theorem dX4_takeNumber_108 : decode cX4_takeNumber 108 = .ok (.sipush 1000, 3) := by decide +kernel
theorem dX4_takeNumber_111 : decode cX4_takeNumber 111 = .ok (.invokestatic 107, 3) := by decide +kernel
theorem dX4_takeNumber_114 : decode cX4_takeNumber 114 = .ok (.putfield 19, 3) := by decide +kernel
theorem dX4_takeNumber_117 : decode cX4_takeNumber 117 = .ok (.aload_n 0, 1) := by decide +kernel
theorem dX4_takeNumber_118 : decode cX4_takeNumber 118 = .ok (.dup, 1) := by decide +kernel
theorem dX4_takeNumber_119 : decode cX4_takeNumber 119 = .ok (.getfield 25, 3) := by decide +kernel
theorem dX4_takeNumber_122 : decode cX4_takeNumber 122 = .ok (.iconst 1, 1) := by decide +kernel
theorem dX4_takeNumber_123 : decode cX4_takeNumber 123 = .ok (.iadd, 1) := by decide +kernel
theorem dX4_takeNumber_124 : decode cX4_takeNumber 124 = .ok (.putfield 25, 3) := by decide +kernel
theorem dX4_takeNumber_127 : decode cX4_takeNumber 127 = .ok (.goto (-77), 3) := by decide +kernel
theorem dX4_takeNumber_130 : decode cX4_takeNumber 130 = .ok (.aload_n 0, 1) := by decide +kernel
theorem dX4_takeNumber_131 : decode cX4_takeNumber 131 = .ok (.getfield 25, 3) := by decide +kernel
theorem dX4_takeNumber_134 : decode cX4_takeNumber 134 = .ok (.iload_n 2, 1) := by decide +kernel
theorem dX4_takeNumber_135 : decode cX4_takeNumber 135 = .ok (.isub, 1) := by decide +kernel
theorem dX4_takeNumber_136 : decode cX4_takeNumber 136 = .ok (.iconst 1, 1) := by decide +kernel
theorem dX4_takeNumber_137 : decode cX4_takeNumber 137 = .ok (.if_icmp .le 20, 3) := by decide +kernel
theorem dX4_takeNumber_140 : decode cX4_takeNumber 140 = .ok (.aload_n 0, 1) := by decide +kernel
theorem dX4_takeNumber_141 : decode cX4_takeNumber 141 = .ok (.getfield 9, 3) := by decide +kernel
theorem dX4_takeNumber_144 : decode cX4_takeNumber 144 = .ok (.iload_n 2, 1) := by decide +kernel
theorem dX4_takeNumber_145 : decode cX4_takeNumber 145 = .ok (.invokevirtual 90, 3) := by decide +kernel
theorem dX4_takeNumber_148 : decode cX4_takeNumber 148 = .ok (.bipush 48, 2) := by decide +kernel
theorem dX4_takeNumber_150 : decode cX4_takeNumber 150 = .ok (.if_icmp .ne 7, 3) := by decide +kernel
theorem dX4_takeNumber_153 : decode cX4_takeNumber 153 = .ok (.iconst 1, 1) := by decide +kernel
theorem dX4_takeNumber_154 : decode cX4_takeNumber 154 = .ok (.goto 4, 3) := by decide +kernel
theorem dX4_takeNumber_157 : decode cX4_takeNumber 157 = .ok (.iconst 0, 1) := by decide +kernel
theorem dX4_takeNumber_158 : decode cX4_takeNumber 158 = .ok (.istore_n 3, 1) := by decide +kernel
theorem dX4_takeNumber_159 : decode cX4_takeNumber 159 = .ok (.aload_n 0, 1) := by decide +kernel
theorem dX4_takeNumber_160 : decode cX4_takeNumber 160 = .ok (.aload_n 0, 1) := by decide +kernel
theorem dX4_takeNumber_161 : decode cX4_takeNumber 161 = .ok (.getfield 25, 3) := by decide +kernel
theorem dX4_takeNumber_164 : decode cX4_takeNumber 164 = .ok (.iload_n 2, 1) := by decide +kernel
theorem dX4_takeNumber_165 : decode cX4_takeNumber 165 = .ok (.if_icmp .le 11, 3) := by decide +kernel
theorem dX4_takeNumber_168 : decode cX4_takeNumber 168 = .ok (.iload_n 3, 1) := by decide +kernel
theorem dX4_takeNumber_169 : decode cX4_takeNumber 169 = .ok (.ifCond .ne 7, 3) := by decide +kernel
theorem dX4_takeNumber_172 : decode cX4_takeNumber 172 = .ok (.iconst 2, 1) := by decide +kernel
theorem dX4_takeNumber_173 : decode cX4_takeNumber 173 = .ok (.goto 4, 3) := by decide +kernel
theorem dX4_takeNumber_176 : decode cX4_takeNumber 176 = .ok (.iconst 4, 1) := by decide +kernel
theorem dX4_takeNumber_177 : decode cX4_takeNumber 177 = .ok (.putfield 15, 3) := by decide +kernel
theorem dX4_takeNumber_180 : decode cX4_takeNumber 180 = .ok (.aload_n 0, 1) := by decide +kernel
theorem dX4_takeNumber_181 : decode cX4_takeNumber 181 = .ok (.iload_n 1, 1) := by decide +kernel
theorem dX4_takeNumber_182 : decode cX4_takeNumber 182 = .ok (.ifCond .eq 11, 3) := by decide +kernel
theorem dX4_takeNumber_185 : decode cX4_takeNumber 185 = .ok (.aload_n 0, 1) := by decide +kernel
theorem dX4_takeNumber_186 : decode cX4_takeNumber 186 = .ok (.getfield 19, 3) := by decide +kernel
theorem dX4_takeNumber_189 : decode cX4_takeNumber 189 = .ok (.ineg, 1) := by decide +kernel
theorem dX4_takeNumber_190 : decode cX4_takeNumber 190 = .ok (.goto 7, 3) := by decide +kernel
theorem dX4_takeNumber_193 : decode cX4_takeNumber 193 = .ok (.aload_n 0, 1) := by decide +kernel
theorem dX4_takeNumber_194 : decode cX4_takeNumber 194 = .ok (.getfield 19, 3) := by decide +kernel
theorem dX4_takeNumber_197 : decode cX4_takeNumber 197 = .ok (.putfield 19, 3) := by decide +kernel
theorem dX4_takeNumber_200 : decode cX4_takeNumber 200 = .ok (.return_, 1) := by decide +kernel
theorem dX5_init_0 : decode cX5_init 0 = .ok (.aload_n 0, 1) := by decide +kernel
theorem dX5_init_1 : decode cX5_init 1 = .ok (.invokespecial 3, 3) := by decide +kernel
theorem dX5_init_4 : decode cX5_init 4 = .ok (.aload_n 0, 1) := by decide +kernel
theorem dX5_init_5 : decode cX5_init 5 = .ok (.aload_n 1, 1) := by decide +kernel
theorem dX5_init_6 : decode cX5_init 6 = .ok (.putfield 9, 3) := by decide +kernel
theorem dX5_init_9 : decode cX5_init 9 = .ok (.aload_n 0, 1) := by decide +kernel
theorem dX5_init_10 : decode cX5_init 10 = .ok (.sipush 144, 3) := by decide +kernel
theorem dX5_init_13 : decode cX5_init 13 = .ok (.newarray .int, 2) := by decide +kernel
theorem dX5_init_15 : decode cX5_init 15 = .ok (.putfield 15, 3) := by decide +kernel
theorem dX5_init_18 : decode cX5_init 18 = .ok (.aload_n 0, 1) := by decide +kernel
theorem dX5_init_19 : decode cX5_init 19 = .ok (.bipush 24, 2) := by decide +kernel
theorem dX5_init_21 : decode cX5_init 21 = .ok (.newarray .int, 2) := by decide +kernel
theorem dX5_init_23 : decode cX5_init 23 = .ok (.putfield 19, 3) := by decide +kernel
theorem dX5_init_26 : decode cX5_init 26 = .ok (.aload_n 0, 1) := by decide +kernel
theorem dX5_init_27 : decode cX5_init 27 = .ok (.bipush 12, 2) := by decide +kernel
theorem dX5_init_29 : decode cX5_init 29 = .ok (.newarray .int, 2) := by decide +kernel
theorem dX5_init_31 : decode cX5_init 31 = .ok (.putfield 22, 3) := by decide +kernel
theorem dX5_init_34 : decode cX5_init 34 = .ok (.return_, 1) := by decide +kernel
set_option maxRecDepth 20000 in
theorem ggX5_look_J7_fill_53178 : GoodIn wsX5_look wsJ7_fill_53178 := goodIn_r _ [6] (by decide +kernel) (by decide +kernel)
set_option maxRecDepth 20000 in
theorem gX5_look_J7_fill_53178 : GoodIn wsX5_look (va_wsS RX5 25 yJ7_fill_53178 wsJ7_fill_53178) := goodIn_app (goodIn_of _ (by decide +kernel)) ggX5_look_J7_fill_53178
set_option maxRecDepth 20000 in
theorem ggX5_look_X1_pieces : GoodIn wsX5_look wsX1_pieces := goodIn_r _ [11, 12, 56, 57, 58, 59, 60, 61] (by decide +kernel) (by decide +kernel)
set_option maxRecDepth 20000 in
theorem gX5_look_X1_pieces : GoodIn wsX5_look (wsV RX5 31 RX1 yX1_pieces wsX1_pieces) := goodIn_app (goodIn_of _ (by decide +kernel)) ggX5_look_X1_pieces
set_option maxRecDepth 20000 in
theorem ggX5_look_X1_pieceIn : GoodIn wsX5_look wsX1_pieceIn := goodIn_r _ [16, 17, 18, 19, 20, 56, 57, 58, 59, 60, 61] (by decide +kernel) (by decide +kernel)
set_option maxRecDepth 20000 in
theorem gX5_look_X1_pieceIn : GoodIn wsX5_look (wsV RX5 37 RX1 yX1_pieceIn wsX1_pieceIn) := goodIn_app (goodIn_of _ (by decide +kernel)) ggX5_look_X1_pieceIn
set_option maxRecDepth 20000 in
theorem ggX5_look_X5_lookAt : GoodIn wsX5_look wsX5_lookAt := goodIn_r _ [25, 2, 1, 26, 27, 28, 29, 30, 10, 31, 32, 33, 34, 35, 36, 37, 18, 19, 20, 38, 39, 40, 41, 42, 43, 44, 45, 46, 47, 48, 49, 50, 51, 52, 53, 54, 55, 56, 57, 58, 59, 60, 61] (by decide +kernel) (by decide +kernel)
set_option maxRecDepth 20000 in
theorem gX5_look_X5_lookAt : GoodIn wsX5_look (wsV RX5 41 RX5 yX5_lookAt wsX5_lookAt) := goodIn_app (goodIn_of _ (by decide +kernel)) ggX5_look_X5_lookAt
theorem dX5_look_0 : decode cX5_look 0 = .ok (.aload_n 0, 1) := by decide +kernel
theorem dX5_look_1 : decode cX5_look 1 = .ok (.getfield 19, 3) := by decide +kernel
theorem dX5_look_4 : decode cX5_look 4 = .ok (.iconst 0, 1) := by decide +kernel
theorem dX5_look_5 : decode cX5_look 5 = .ok (.invokestatic 25, 3) := by decide +kernel
theorem dX5_look_8 : decode cX5_look 8 = .ok (.aload_n 0, 1) := by decide +kernel
theorem dX5_look_9 : decode cX5_look 9 = .ok (.getfield 9, 3) := by decide +kernel
theorem dX5_look_12 : decode cX5_look 12 = .ok (.invokevirtual 31, 3) := by decide +kernel
theorem dX5_look_15 : decode cX5_look 15 = .ok (.iconst 1, 1) := by decide +kernel
theorem dX5_look_16 : decode cX5_look 16 = .ok (.isub, 1) := by decide +kernel
theorem dX5_look_17 : decode cX5_look 17 = .ok (.istore_n 1, 1) := by decide +kernel
theorem dX5_look_18 : decode cX5_look 18 = .ok (.iload_n 1, 1) := by decide +kernel
theorem dX5_look_19 : decode cX5_look 19 = .ok (.ifCond .lt 21, 3) := by decide +kernel
theorem dX5_look_22 : decode cX5_look 22 = .ok (.aload_n 0, 1) := by decide +kernel
theorem dX5_look_23 : decode cX5_look 23 = .ok (.aload_n 0, 1) := by decide +kernel
theorem dX5_look_24 : decode cX5_look 24 = .ok (.getfield 9, 3) := by decide +kernel
theorem dX5_look_27 : decode cX5_look 27 = .ok (.iload_n 1, 1) := by decide +kernel
theorem dX5_look_28 : decode cX5_look 28 = .ok (.invokevirtual 37, 3) := by decide +kernel
theorem dX5_look_31 : decode cX5_look 31 = .ok (.invokevirtual 41, 3) := by decide +kernel
theorem dX5_look_34 : decode cX5_look 34 = .ok (.iinc 1 (-1), 3) := by decide +kernel
theorem dX5_look_37 : decode cX5_look 37 = .ok (.goto (-19), 3) := by decide +kernel
theorem dX5_look_40 : decode cX5_look 40 = .ok (.return_, 1) := by decide +kernel
set_option maxRecDepth 20000 in
theorem ggX5_lookAt_X1_get : GoodIn wsX5_lookAt wsX1_get := goodIn_r _ [9, 10, 37, 38, 39, 40, 41, 42] (by decide +kernel) (by decide +kernel)
set_option maxRecDepth 20000 in
theorem gX5_lookAt_X1_get : GoodIn wsX5_lookAt (wsV RX5 45 RX1 yX1_get wsX1_get) := goodIn_app (goodIn_of _ (by decide +kernel)) ggX5_lookAt_X1_get
set_option maxRecDepth 20000 in
theorem ggX5_lookAt_X1_span : GoodIn wsX5_lookAt wsX1_span := goodIn_r _ [14, 15, 37, 38, 39, 40, 41, 42] (by decide +kernel) (by decide +kernel)
set_option maxRecDepth 20000 in
theorem gX5_lookAt_X1_span : GoodIn wsX5_lookAt (wsV RX5 49 RX1 yX1_span wsX1_span) := goodIn_app (goodIn_of _ (by decide +kernel)) ggX5_lookAt_X1_span
set_option maxRecDepth 20000 in
theorem ggX5_lookAt_X7_at : GoodIn wsX5_lookAt wsX7_at := goodIn_r _ [18] (by decide +kernel) (by decide +kernel)
set_option maxRecDepth 20000 in
theorem gX5_lookAt_X7_at_n52 : GoodIn wsX5_lookAt (wsX7_at) := ggX5_lookAt_X7_at
set_option maxRecDepth 20000 in
theorem ggX5_lookAt_X1_hasRow : GoodIn wsX5_lookAt wsX1_hasRow := goodIn_r _ [22, 23, 37, 38, 39, 40, 41, 42] (by decide +kernel) (by decide +kernel)
set_option maxRecDepth 20000 in
theorem gX5_lookAt_X1_hasRow : GoodIn wsX5_lookAt (wsV RX5 56 RX1 yX1_hasRow wsX1_hasRow) := goodIn_app (goodIn_of _ (by decide +kernel)) ggX5_lookAt_X1_hasRow
set_option maxRecDepth 20000 in
theorem ggX5_lookAt_X7_put : GoodIn wsX5_lookAt wsX7_put := goodIn_r _ [25] (by decide +kernel) (by decide +kernel)
set_option maxRecDepth 20000 in
theorem gX5_lookAt_X7_put_n60 : GoodIn wsX5_lookAt (wsX7_put) := ggX5_lookAt_X7_put
set_option maxRecDepth 20000 in
theorem ggX5_lookAt_J6_bitCount_0f7a4 : GoodIn wsX5_lookAt wsJ6_bitCount_0f7a4 := goodIn_r _ [29, 30, 31, 32] (by decide +kernel) (by decide +kernel)
set_option maxRecDepth 20000 in
theorem gX5_lookAt_J6_bitCount_0f7a4 : GoodIn wsX5_lookAt (va_wsS RX5 64 yJ6_bitCount_0f7a4 wsJ6_bitCount_0f7a4) := goodIn_app (goodIn_of _ (by decide +kernel)) ggX5_lookAt_J6_bitCount_0f7a4
theorem dX5_lookAt_0 : decode cX5_lookAt 0 = .ok (.aload_n 0, 1) := by decide +kernel
theorem dX5_lookAt_1 : decode cX5_lookAt 1 = .ok (.getfield 9, 3) := by decide +kernel
theorem dX5_lookAt_4 : decode cX5_lookAt 4 = .ok (.iload_n 1, 1) := by decide +kernel
theorem dX5_lookAt_5 : decode cX5_lookAt 5 = .ok (.iconst 1, 1) := by decide +kernel
theorem dX5_lookAt_6 : decode cX5_lookAt 6 = .ok (.invokevirtual 45, 3) := by decide +kernel
theorem dX5_lookAt_9 : decode cX5_lookAt 9 = .ok (.istore_n 2, 1) := by decide +kernel
theorem dX5_lookAt_10 : decode cX5_lookAt 10 = .ok (.aload_n 0, 1) := by decide +kernel
theorem dX5_lookAt_11 : decode cX5_lookAt 11 = .ok (.getfield 9, 3) := by decide +kernel
theorem dX5_lookAt_14 : decode cX5_lookAt 14 = .ok (.iload_n 1, 1) := by decide +kernel
theorem dX5_lookAt_15 : decode cX5_lookAt 15 = .ok (.iconst 3, 1) := by decide +kernel
theorem dX5_lookAt_16 : decode cX5_lookAt 16 = .ok (.invokevirtual 45, 3) := by decide +kernel
theorem dX5_lookAt_19 : decode cX5_lookAt 19 = .ok (.istore_n 3, 1) := by decide +kernel
theorem dX5_lookAt_20 : decode cX5_lookAt 20 = .ok (.aload_n 0, 1) := by decide +kernel
theorem dX5_lookAt_21 : decode cX5_lookAt 21 = .ok (.getfield 9, 3) := by decide +kernel
theorem dX5_lookAt_24 : decode cX5_lookAt 24 = .ok (.aload_n 0, 1) := by decide +kernel
theorem dX5_lookAt_25 : decode cX5_lookAt 25 = .ok (.getfield 9, 3) := by decide +kernel
theorem dX5_lookAt_28 : decode cX5_lookAt 28 = .ok (.iload_n 1, 1) := by decide +kernel
theorem dX5_lookAt_29 : decode cX5_lookAt 29 = .ok (.iconst 0, 1) := by decide +kernel
theorem dX5_lookAt_30 : decode cX5_lookAt 30 = .ok (.invokevirtual 45, 3) := by decide +kernel
theorem dX5_lookAt_33 : decode cX5_lookAt 33 = .ok (.aload_n 0, 1) := by decide +kernel
theorem dX5_lookAt_34 : decode cX5_lookAt 34 = .ok (.getfield 9, 3) := by decide +kernel
theorem dX5_lookAt_37 : decode cX5_lookAt 37 = .ok (.iload_n 1, 1) := by decide +kernel
theorem dX5_lookAt_38 : decode cX5_lookAt 38 = .ok (.iconst 2, 1) := by decide +kernel
theorem dX5_lookAt_39 : decode cX5_lookAt 39 = .ok (.invokevirtual 45, 3) := by decide +kernel
theorem dX5_lookAt_42 : decode cX5_lookAt 42 = .ok (.invokevirtual 49, 3) := by decide +kernel
theorem dX5_lookAt_45 : decode cX5_lookAt 45 = .ok (.istore 4, 2) := by decide +kernel
theorem dX5_lookAt_47 : decode cX5_lookAt 47 = .ok (.iconst 0, 1) := by decide +kernel
theorem dX5_lookAt_48 : decode cX5_lookAt 48 = .ok (.istore 5, 2) := by decide +kernel
theorem dX5_lookAt_50 : decode cX5_lookAt 50 = .ok (.iconst 0, 1) := by decide +kernel
theorem dX5_lookAt_51 : decode cX5_lookAt 51 = .ok (.istore 6, 2) := by decide +kernel
theorem dX5_lookAt_53 : decode cX5_lookAt 53 = .ok (.iload 6, 2) := by decide +kernel
theorem dX5_lookAt_55 : decode cX5_lookAt 55 = .ok (.iload_n 3, 1) := by decide +kernel
theorem dX5_lookAt_56 : decode cX5_lookAt 56 = .ok (.if_icmp .ge 91, 3) := by decide +kernel
theorem dX5_lookAt_59 : decode cX5_lookAt 59 = .ok (.iload_n 2, 1) := by decide +kernel
theorem dX5_lookAt_60 : decode cX5_lookAt 60 = .ok (.iload 6, 2) := by decide +kernel
theorem dX5_lookAt_62 : decode cX5_lookAt 62 = .ok (.iadd, 1) := by decide +kernel
theorem dX5_lookAt_63 : decode cX5_lookAt 63 = .ok (.istore 7, 2) := by decide +kernel
theorem dX5_lookAt_65 : decode cX5_lookAt 65 = .ok (.aload_n 0, 1) := by decide +kernel
theorem dX5_lookAt_66 : decode cX5_lookAt 66 = .ok (.getfield 19, 3) := by decide +kernel
theorem dX5_lookAt_69 : decode cX5_lookAt 69 = .ok (.iload 7, 2) := by decide +kernel
theorem dX5_lookAt_71 : decode cX5_lookAt 71 = .ok (.invokestatic 52, 3) := by decide +kernel
theorem dX5_lookAt_74 : decode cX5_lookAt 74 = .ok (.istore 8, 2) := by decide +kernel
theorem dX5_lookAt_76 : decode cX5_lookAt 76 = .ok (.aload_n 0, 1) := by decide +kernel
theorem dX5_lookAt_77 : decode cX5_lookAt 77 = .ok (.getfield 9, 3) := by decide +kernel
theorem dX5_lookAt_80 : decode cX5_lookAt 80 = .ok (.iload 7, 2) := by decide +kernel
theorem dX5_lookAt_82 : decode cX5_lookAt 82 = .ok (.invokevirtual 56, 3) := by decide +kernel
theorem dX5_lookAt_85 : decode cX5_lookAt 85 = .ok (.ifCond .eq 13, 3) := by decide +kernel
theorem dX5_lookAt_88 : decode cX5_lookAt 88 = .ok (.iload 4, 2) := by decide +kernel
theorem dX5_lookAt_90 : decode cX5_lookAt 90 = .ok (.iload 8, 2) := by decide +kernel
theorem dX5_lookAt_92 : decode cX5_lookAt 92 = .ok (.iconst (-1), 1) := by decide +kernel
theorem dX5_lookAt_93 : decode cX5_lookAt 93 = .ok (.ixor, 1) := by decide +kernel
theorem dX5_lookAt_94 : decode cX5_lookAt 94 = .ok (.iand, 1) := by decide +kernel
theorem dX5_lookAt_95 : decode cX5_lookAt 95 = .ok (.goto 4, 3) := by decide +kernel
theorem dX5_lookAt_98 : decode cX5_lookAt 98 = .ok (.iconst 0, 1) := by decide +kernel
theorem dX5_lookAt_99 : decode cX5_lookAt 99 = .ok (.istore 9, 2) := by decide +kernel
theorem dX5_lookAt_101 : decode cX5_lookAt 101 = .ok (.aload_n 0, 1) := by decide +kernel
theorem dX5_lookAt_102 : decode cX5_lookAt 102 = .ok (.getfield 15, 3) := by decide +kernel
theorem dX5_lookAt_105 : decode cX5_lookAt 105 = .ok (.iload_n 1, 1) := by decide +kernel
theorem dX5_lookAt_106 : decode cX5_lookAt 106 = .ok (.bipush 12, 2) := by decide +kernel
theorem dX5_lookAt_108 : decode cX5_lookAt 108 = .ok (.imul, 1) := by decide +kernel
theorem dX5_lookAt_109 : decode cX5_lookAt 109 = .ok (.iload 6, 2) := by decide +kernel
theorem dX5_lookAt_111 : decode cX5_lookAt 111 = .ok (.iadd, 1) := by decide +kernel
theorem dX5_lookAt_112 : decode cX5_lookAt 112 = .ok (.iload 9, 2) := by decide +kernel
theorem dX5_lookAt_114 : decode cX5_lookAt 114 = .ok (.invokestatic 60, 3) := by decide +kernel
theorem dX5_lookAt_117 : decode cX5_lookAt 117 = .ok (.aload_n 0, 1) := by decide +kernel
theorem dX5_lookAt_118 : decode cX5_lookAt 118 = .ok (.getfield 19, 3) := by decide +kernel
theorem dX5_lookAt_121 : decode cX5_lookAt 121 = .ok (.iload 7, 2) := by decide +kernel
theorem dX5_lookAt_123 : decode cX5_lookAt 123 = .ok (.iload 8, 2) := by decide +kernel
theorem dX5_lookAt_125 : decode cX5_lookAt 125 = .ok (.iload 9, 2) := by decide +kernel
theorem dX5_lookAt_127 : decode cX5_lookAt 127 = .ok (.ior, 1) := by decide +kernel
theorem dX5_lookAt_128 : decode cX5_lookAt 128 = .ok (.invokestatic 60, 3) := by decide +kernel
theorem dX5_lookAt_131 : decode cX5_lookAt 131 = .ok (.iload 5, 2) := by decide +kernel
theorem dX5_lookAt_133 : decode cX5_lookAt 133 = .ok (.iload 9, 2) := by decide +kernel
theorem dX5_lookAt_135 : decode cX5_lookAt 135 = .ok (.invokestatic 64, 3) := by decide +kernel
theorem dX5_lookAt_138 : decode cX5_lookAt 138 = .ok (.iadd, 1) := by decide +kernel
theorem dX5_lookAt_139 : decode cX5_lookAt 139 = .ok (.istore 5, 2) := by decide +kernel
theorem dX5_lookAt_141 : decode cX5_lookAt 141 = .ok (.iinc 6 1, 3) := by decide +kernel
theorem dX5_lookAt_144 : decode cX5_lookAt 144 = .ok (.goto (-91), 3) := by decide +kernel
theorem dX5_lookAt_147 : decode cX5_lookAt 147 = .ok (.aload_n 0, 1) := by decide +kernel
theorem dX5_lookAt_148 : decode cX5_lookAt 148 = .ok (.getfield 22, 3) := by decide +kernel
theorem dX5_lookAt_151 : decode cX5_lookAt 151 = .ok (.iload_n 1, 1) := by decide +kernel
theorem dX5_lookAt_152 : decode cX5_lookAt 152 = .ok (.iload 5, 2) := by decide +kernel
theorem dX5_lookAt_154 : decode cX5_lookAt 154 = .ok (.invokestatic 60, 3) := by decide +kernel
theorem dX5_lookAt_157 : decode cX5_lookAt 157 = .ok (.return_, 1) := by decide +kernel
set_option maxRecDepth 20000 in
theorem ggX5_rowOf_X1_columns : GoodIn wsX5_rowOf wsX1_columns := goodIn_r _ [8, 9, 31, 32, 33, 34, 35, 36] (by decide +kernel) (by decide +kernel)
set_option maxRecDepth 20000 in
theorem gX5_rowOf_X1_columns : GoodIn wsX5_rowOf (wsV RX5 69 RX1 yX1_columns wsX1_columns) := goodIn_app (goodIn_of _ (by decide +kernel)) ggX5_rowOf_X1_columns
set_option maxRecDepth 20000 in
theorem ggX5_rowOf_X1_span : GoodIn wsX5_rowOf wsX1_span := goodIn_r _ [13, 9, 31, 32, 33, 34, 35, 36] (by decide +kernel) (by decide +kernel)
set_option maxRecDepth 20000 in
theorem gX5_rowOf_X1_span : GoodIn wsX5_rowOf (wsV RX5 49 RX1 yX1_span wsX1_span) := goodIn_app (goodIn_of _ (by decide +kernel)) ggX5_rowOf_X1_span
set_option maxRecDepth 20000 in
theorem ggX5_rowOf_X1_hasRow : GoodIn wsX5_rowOf wsX1_hasRow := goodIn_r _ [17, 18, 31, 32, 33, 34, 35, 36] (by decide +kernel) (by decide +kernel)
set_option maxRecDepth 20000 in
theorem gX5_rowOf_X1_hasRow : GoodIn wsX5_rowOf (wsV RX5 56 RX1 yX1_hasRow wsX1_hasRow) := goodIn_app (goodIn_of _ (by decide +kernel)) ggX5_rowOf_X1_hasRow
set_option maxRecDepth 20000 in
theorem ggX5_rowOf_X7_at : GoodIn wsX5_rowOf wsX7_at := goodIn_r _ [21] (by decide +kernel) (by decide +kernel)
set_option maxRecDepth 20000 in
theorem gX5_rowOf_X7_at_n52 : GoodIn wsX5_rowOf (wsX7_at) := ggX5_rowOf_X7_at
set_option maxRecDepth 20000 in
theorem ggX5_rowOf_X1_get : GoodIn wsX5_rowOf wsX1_get := goodIn_r _ [25, 26, 31, 32, 33, 34, 35, 36] (by decide +kernel) (by decide +kernel)
set_option maxRecDepth 20000 in
theorem gX5_rowOf_X1_get : GoodIn wsX5_rowOf (wsV RX5 45 RX1 yX1_get wsX1_get) := goodIn_app (goodIn_of _ (by decide +kernel)) ggX5_rowOf_X1_get
theorem dX5_rowOf_0 : decode cX5_rowOf 0 = .ok (.iload_n 1, 1) := by decide +kernel
theorem dX5_rowOf_1 : decode cX5_rowOf 1 = .ok (.iconst (-1), 1) := by decide +kernel
theorem dX5_rowOf_2 : decode cX5_rowOf 2 = .ok (.if_icmp .ne 47, 3) := by decide +kernel
theorem dX5_rowOf_5 : decode cX5_rowOf 5 = .ok (.aload_n 0, 1) := by decide +kernel
theorem dX5_rowOf_6 : decode cX5_rowOf 6 = .ok (.getfield 9, 3) := by decide +kernel
theorem dX5_rowOf_9 : decode cX5_rowOf 9 = .ok (.iconst 0, 1) := by decide +kernel
theorem dX5_rowOf_10 : decode cX5_rowOf 10 = .ok (.aload_n 0, 1) := by decide +kernel
theorem dX5_rowOf_11 : decode cX5_rowOf 11 = .ok (.getfield 9, 3) := by decide +kernel
theorem dX5_rowOf_14 : decode cX5_rowOf 14 = .ok (.invokevirtual 69, 3) := by decide +kernel
theorem dX5_rowOf_17 : decode cX5_rowOf 17 = .ok (.invokevirtual 49, 3) := by decide +kernel
theorem dX5_rowOf_20 : decode cX5_rowOf 20 = .ok (.istore_n 3, 1) := by decide +kernel
theorem dX5_rowOf_21 : decode cX5_rowOf 21 = .ok (.aload_n 0, 1) := by decide +kernel
theorem dX5_rowOf_22 : decode cX5_rowOf 22 = .ok (.getfield 9, 3) := by decide +kernel
theorem dX5_rowOf_25 : decode cX5_rowOf 25 = .ok (.iload_n 2, 1) := by decide +kernel
theorem dX5_rowOf_26 : decode cX5_rowOf 26 = .ok (.invokevirtual 56, 3) := by decide +kernel
theorem dX5_rowOf_29 : decode cX5_rowOf 29 = .ok (.ifCond .eq 18, 3) := by decide +kernel
theorem dX5_rowOf_32 : decode cX5_rowOf 32 = .ok (.iload_n 3, 1) := by decide +kernel
theorem dX5_rowOf_33 : decode cX5_rowOf 33 = .ok (.aload_n 0, 1) := by decide +kernel
theorem dX5_rowOf_34 : decode cX5_rowOf 34 = .ok (.getfield 19, 3) := by decide +kernel
theorem dX5_rowOf_37 : decode cX5_rowOf 37 = .ok (.iload_n 2, 1) := by decide +kernel
theorem dX5_rowOf_38 : decode cX5_rowOf 38 = .ok (.invokestatic 52, 3) := by decide +kernel
theorem dX5_rowOf_41 : decode cX5_rowOf 41 = .ok (.iconst (-1), 1) := by decide +kernel
theorem dX5_rowOf_42 : decode cX5_rowOf 42 = .ok (.ixor, 1) := by decide +kernel
theorem dX5_rowOf_43 : decode cX5_rowOf 43 = .ok (.iand, 1) := by decide +kernel
theorem dX5_rowOf_44 : decode cX5_rowOf 44 = .ok (.goto 4, 3) := by decide +kernel
theorem dX5_rowOf_47 : decode cX5_rowOf 47 = .ok (.iconst 0, 1) := by decide +kernel
theorem dX5_rowOf_48 : decode cX5_rowOf 48 = .ok (.ireturn, 1) := by decide +kernel
theorem dX5_rowOf_49 : decode cX5_rowOf 49 = .ok (.iload_n 2, 1) := by decide +kernel
theorem dX5_rowOf_50 : decode cX5_rowOf 50 = .ok (.aload_n 0, 1) := by decide +kernel
theorem dX5_rowOf_51 : decode cX5_rowOf 51 = .ok (.getfield 9, 3) := by decide +kernel
theorem dX5_rowOf_54 : decode cX5_rowOf 54 = .ok (.iload_n 1, 1) := by decide +kernel
theorem dX5_rowOf_55 : decode cX5_rowOf 55 = .ok (.iconst 1, 1) := by decide +kernel
theorem dX5_rowOf_56 : decode cX5_rowOf 56 = .ok (.invokevirtual 45, 3) := by decide +kernel
theorem dX5_rowOf_59 : decode cX5_rowOf 59 = .ok (.isub, 1) := by decide +kernel
theorem dX5_rowOf_60 : decode cX5_rowOf 60 = .ok (.istore_n 3, 1) := by decide +kernel
theorem dX5_rowOf_61 : decode cX5_rowOf 61 = .ok (.iload_n 3, 1) := by decide +kernel
theorem dX5_rowOf_62 : decode cX5_rowOf 62 = .ok (.ifCond .lt 20, 3) := by decide +kernel
theorem dX5_rowOf_65 : decode cX5_rowOf 65 = .ok (.iload_n 3, 1) := by decide +kernel
theorem dX5_rowOf_66 : decode cX5_rowOf 66 = .ok (.aload_n 0, 1) := by decide +kernel
theorem dX5_rowOf_67 : decode cX5_rowOf 67 = .ok (.getfield 9, 3) := by decide +kernel
theorem dX5_rowOf_70 : decode cX5_rowOf 70 = .ok (.iload_n 1, 1) := by decide +kernel
theorem dX5_rowOf_71 : decode cX5_rowOf 71 = .ok (.iconst 3, 1) := by decide +kernel
theorem dX5_rowOf_72 : decode cX5_rowOf 72 = .ok (.invokevirtual 45, 3) := by decide +kernel
theorem dX5_rowOf_75 : decode cX5_rowOf 75 = .ok (.if_icmp .ge 7, 3) := by decide +kernel
theorem dX5_rowOf_78 : decode cX5_rowOf 78 = .ok (.iconst 1, 1) := by decide +kernel
theorem dX5_rowOf_79 : decode cX5_rowOf 79 = .ok (.goto 4, 3) := by decide +kernel
theorem dX5_rowOf_82 : decode cX5_rowOf 82 = .ok (.iconst 0, 1) := by decide +kernel
theorem dX5_rowOf_83 : decode cX5_rowOf 83 = .ok (.istore 4, 2) := by decide +kernel
theorem dX5_rowOf_85 : decode cX5_rowOf 85 = .ok (.iload 4, 2) := by decide +kernel
theorem dX5_rowOf_87 : decode cX5_rowOf 87 = .ok (.ifCond .eq 19, 3) := by decide +kernel
theorem dX5_rowOf_90 : decode cX5_rowOf 90 = .ok (.aload_n 0, 1) := by decide +kernel
theorem dX5_rowOf_91 : decode cX5_rowOf 91 = .ok (.getfield 15, 3) := by decide +kernel
theorem dX5_rowOf_94 : decode cX5_rowOf 94 = .ok (.iload_n 1, 1) := by decide +kernel
theorem dX5_rowOf_95 : decode cX5_rowOf 95 = .ok (.bipush 12, 2) := by decide +kernel
theorem dX5_rowOf_97 : decode cX5_rowOf 97 = .ok (.imul, 1) := by decide +kernel
theorem dX5_rowOf_98 : decode cX5_rowOf 98 = .ok (.iload_n 3, 1) := by decide +kernel
theorem dX5_rowOf_99 : decode cX5_rowOf 99 = .ok (.iadd, 1) := by decide +kernel
theorem dX5_rowOf_100 : decode cX5_rowOf 100 = .ok (.invokestatic 52, 3) := by decide +kernel
theorem dX5_rowOf_103 : decode cX5_rowOf 103 = .ok (.goto 4, 3) := by decide +kernel
theorem dX5_rowOf_106 : decode cX5_rowOf 106 = .ok (.iconst 0, 1) := by decide +kernel
theorem dX5_rowOf_107 : decode cX5_rowOf 107 = .ok (.ireturn, 1) := by decide +kernel
set_option maxRecDepth 20000 in
theorem ggX5_cells_X7_at : GoodIn wsX5_cells wsX7_at := goodIn_r _ [4] (by decide +kernel) (by decide +kernel)
set_option maxRecDepth 20000 in
theorem gX5_cells_X7_at_n52 : GoodIn wsX5_cells (wsX7_at) := ggX5_cells_X7_at
theorem dX5_cells_0 : decode cX5_cells 0 = .ok (.aload_n 0, 1) := by decide +kernel
theorem dX5_cells_1 : decode cX5_cells 1 = .ok (.getfield 22, 3) := by decide +kernel
theorem dX5_cells_4 : decode cX5_cells 4 = .ok (.iload_n 1, 1) := by decide +kernel
theorem dX5_cells_5 : decode cX5_cells 5 = .ok (.invokestatic 52, 3) := by decide +kernel
theorem dX5_cells_8 : decode cX5_cells 8 = .ok (.ireturn, 1) := by decide +kernel
set_option maxRecDepth 20000 in
theorem ggX5_isContent_X1_get : GoodIn wsX5_isContent wsX1_get := goodIn_r _ [7, 8, 16, 17, 18, 19, 20, 21] (by decide +kernel) (by decide +kernel)
set_option maxRecDepth 20000 in
theorem gX5_isContent_X1_get : GoodIn wsX5_isContent (wsV RX5 45 RX1 yX1_get wsX1_get) := goodIn_app (goodIn_of _ (by decide +kernel)) ggX5_isContent_X1_get
set_option maxRecDepth 20000 in
theorem ggX5_isContent_X7_at : GoodIn wsX5_isContent wsX7_at := goodIn_r _ [11] (by decide +kernel) (by decide +kernel)
set_option maxRecDepth 20000 in
theorem gX5_isContent_X7_at_n52 : GoodIn wsX5_isContent (wsX7_at) := ggX5_isContent_X7_at
theorem dX5_isContent_0 : decode cX5_isContent 0 = .ok (.aload_n 0, 1) := by decide +kernel
theorem dX5_isContent_1 : decode cX5_isContent 1 = .ok (.getfield 9, 3) := by decide +kernel
theorem dX5_isContent_4 : decode cX5_isContent 4 = .ok (.iload_n 1, 1) := by decide +kernel
theorem dX5_isContent_5 : decode cX5_isContent 5 = .ok (.iconst 4, 1) := by decide +kernel
theorem dX5_isContent_6 : decode cX5_isContent 6 = .ok (.invokevirtual 45, 3) := by decide +kernel
theorem dX5_isContent_9 : decode cX5_isContent 9 = .ok (.aload_n 0, 1) := by decide +kernel
theorem dX5_isContent_10 : decode cX5_isContent 10 = .ok (.getfield 9, 3) := by decide +kernel
theorem dX5_isContent_13 : decode cX5_isContent 13 = .ok (.iload_n 1, 1) := by decide +kernel
theorem dX5_isContent_14 : decode cX5_isContent 14 = .ok (.iconst 2, 1) := by decide +kernel
theorem dX5_isContent_15 : decode cX5_isContent 15 = .ok (.invokevirtual 45, 3) := by decide +kernel
theorem dX5_isContent_18 : decode cX5_isContent 18 = .ok (.imul, 1) := by decide +kernel
theorem dX5_isContent_19 : decode cX5_isContent 19 = .ok (.aload_n 0, 1) := by decide +kernel
theorem dX5_isContent_20 : decode cX5_isContent 20 = .ok (.getfield 9, 3) := by decide +kernel
theorem dX5_isContent_23 : decode cX5_isContent 23 = .ok (.iload_n 1, 1) := by decide +kernel
theorem dX5_isContent_24 : decode cX5_isContent 24 = .ok (.iconst 3, 1) := by decide +kernel
theorem dX5_isContent_25 : decode cX5_isContent 25 = .ok (.invokevirtual 45, 3) := by decide +kernel
theorem dX5_isContent_28 : decode cX5_isContent 28 = .ok (.imul, 1) := by decide +kernel
theorem dX5_isContent_29 : decode cX5_isContent 29 = .ok (.istore_n 2, 1) := by decide +kernel
theorem dX5_isContent_30 : decode cX5_isContent 30 = .ok (.aload_n 0, 1) := by decide +kernel
theorem dX5_isContent_31 : decode cX5_isContent 31 = .ok (.getfield 22, 3) := by decide +kernel
theorem dX5_isContent_34 : decode cX5_isContent 34 = .ok (.iload_n 1, 1) := by decide +kernel
theorem dX5_isContent_35 : decode cX5_isContent 35 = .ok (.invokestatic 52, 3) := by decide +kernel
theorem dX5_isContent_38 : decode cX5_isContent 38 = .ok (.bipush 100, 2) := by decide +kernel
theorem dX5_isContent_40 : decode cX5_isContent 40 = .ok (.imul, 1) := by decide +kernel
theorem dX5_isContent_41 : decode cX5_isContent 41 = .ok (.iload_n 2, 1) := by decide +kernel
theorem dX5_isContent_42 : decode cX5_isContent 42 = .ok (.if_icmp .lt 7, 3) := by decide +kernel
theorem dX5_isContent_45 : decode cX5_isContent 45 = .ok (.iconst 1, 1) := by decide +kernel
theorem dX5_isContent_46 : decode cX5_isContent 46 = .ok (.goto 4, 3) := by decide +kernel
theorem dX5_isContent_49 : decode cX5_isContent 49 = .ok (.iconst 0, 1) := by decide +kernel
theorem dX5_isContent_50 : decode cX5_isContent 50 = .ok (.ireturn, 1) := by decide +kernel
set_option maxRecDepth 20000 in
theorem ggX5_contentPieces_X1_pieces : GoodIn wsX5_contentPieces wsX1_pieces := goodIn_r _ [6, 7, 26, 27, 28, 29, 30, 31] (by decide +kernel) (by decide +kernel)
set_option maxRecDepth 20000 in
theorem gX5_contentPieces_X1_pieces : GoodIn wsX5_contentPieces (wsV RX5 31 RX1 yX1_pieces wsX1_pieces) := goodIn_app (goodIn_of _ (by decide +kernel)) ggX5_contentPieces_X1_pieces
set_option maxRecDepth 20000 in
theorem ggX5_contentPieces_X5_isContent : GoodIn wsX5_contentPieces wsX5_isContent := goodIn_r _ [12, 1, 13, 14, 15, 16, 5, 17, 18, 19, 20, 21, 22, 23, 24, 25, 26, 27, 28, 29, 30, 31] (by decide +kernel) (by decide +kernel)
set_option maxRecDepth 20000 in
theorem gX5_contentPieces_X5_isContent : GoodIn wsX5_contentPieces (wsV RX5 72 RX5 yX5_isContent wsX5_isContent) := goodIn_app (goodIn_of _ (by decide +kernel)) ggX5_contentPieces_X5_isContent
theorem dX5_contentPieces_0 : decode cX5_contentPieces 0 = .ok (.iconst 0, 1) := by decide +kernel
theorem dX5_contentPieces_1 : decode cX5_contentPieces 1 = .ok (.istore_n 1, 1) := by decide +kernel
theorem dX5_contentPieces_2 : decode cX5_contentPieces 2 = .ok (.iconst 0, 1) := by decide +kernel
theorem dX5_contentPieces_3 : decode cX5_contentPieces 3 = .ok (.istore_n 2, 1) := by decide +kernel
theorem dX5_contentPieces_4 : decode cX5_contentPieces 4 = .ok (.iload_n 2, 1) := by decide +kernel
theorem dX5_contentPieces_5 : decode cX5_contentPieces 5 = .ok (.aload_n 0, 1) := by decide +kernel
theorem dX5_contentPieces_6 : decode cX5_contentPieces 6 = .ok (.getfield 9, 3) := by decide +kernel
theorem dX5_contentPieces_9 : decode cX5_contentPieces 9 = .ok (.invokevirtual 31, 3) := by decide +kernel
theorem dX5_contentPieces_12 : decode cX5_contentPieces 12 = .ok (.if_icmp .ge 20, 3) := by decide +kernel
theorem dX5_contentPieces_15 : decode cX5_contentPieces 15 = .ok (.aload_n 0, 1) := by decide +kernel
theorem dX5_contentPieces_16 : decode cX5_contentPieces 16 = .ok (.iload_n 2, 1) := by decide +kernel
theorem dX5_contentPieces_17 : decode cX5_contentPieces 17 = .ok (.invokevirtual 72, 3) := by decide +kernel
theorem dX5_contentPieces_20 : decode cX5_contentPieces 20 = .ok (.ifCond .eq 6, 3) := by decide +kernel
theorem dX5_contentPieces_23 : decode cX5_contentPieces 23 = .ok (.iinc 1 1, 3) := by decide +kernel
theorem dX5_contentPieces_26 : decode cX5_contentPieces 26 = .ok (.iinc 2 1, 3) := by decide +kernel
theorem dX5_contentPieces_29 : decode cX5_contentPieces 29 = .ok (.goto (-25), 3) := by decide +kernel
theorem dX5_contentPieces_32 : decode cX5_contentPieces 32 = .ok (.iload_n 1, 1) := by decide +kernel
theorem dX5_contentPieces_33 : decode cX5_contentPieces 33 = .ok (.ireturn, 1) := by decide +kernel
set_option maxRecDepth 20000 in
theorem ggX5_unseenPieces_X1_pieces : GoodIn wsX5_unseenPieces wsX1_pieces := goodIn_r _ [7, 8, 16, 17, 18, 19, 20, 21] (by decide +kernel) (by decide +kernel)
set_option maxRecDepth 20000 in
theorem gX5_unseenPieces_X1_pieces : GoodIn wsX5_unseenPieces (wsV RX5 31 RX1 yX1_pieces wsX1_pieces) := goodIn_app (goodIn_of _ (by decide +kernel)) ggX5_unseenPieces_X1_pieces
set_option maxRecDepth 20000 in
theorem ggX5_unseenPieces_X7_at : GoodIn wsX5_unseenPieces wsX7_at := goodIn_r _ [11] (by decide +kernel) (by decide +kernel)
set_option maxRecDepth 20000 in
theorem gX5_unseenPieces_X7_at_n52 : GoodIn wsX5_unseenPieces (wsX7_at) := ggX5_unseenPieces_X7_at
theorem dX5_unseenPieces_0 : decode cX5_unseenPieces 0 = .ok (.iconst 0, 1) := by decide +kernel
theorem dX5_unseenPieces_1 : decode cX5_unseenPieces 1 = .ok (.istore_n 1, 1) := by decide +kernel
theorem dX5_unseenPieces_2 : decode cX5_unseenPieces 2 = .ok (.iconst 0, 1) := by decide +kernel
theorem dX5_unseenPieces_3 : decode cX5_unseenPieces 3 = .ok (.istore_n 2, 1) := by decide +kernel
theorem dX5_unseenPieces_4 : decode cX5_unseenPieces 4 = .ok (.iload_n 2, 1) := by decide +kernel
theorem dX5_unseenPieces_5 : decode cX5_unseenPieces 5 = .ok (.aload_n 0, 1) := by decide +kernel
theorem dX5_unseenPieces_6 : decode cX5_unseenPieces 6 = .ok (.getfield 9, 3) := by decide +kernel
theorem dX5_unseenPieces_9 : decode cX5_unseenPieces 9 = .ok (.invokevirtual 31, 3) := by decide +kernel
theorem dX5_unseenPieces_12 : decode cX5_unseenPieces 12 = .ok (.if_icmp .ge 23, 3) := by decide +kernel
theorem dX5_unseenPieces_15 : decode cX5_unseenPieces 15 = .ok (.aload_n 0, 1) := by decide +kernel
theorem dX5_unseenPieces_16 : decode cX5_unseenPieces 16 = .ok (.getfield 22, 3) := by decide +kernel
theorem dX5_unseenPieces_19 : decode cX5_unseenPieces 19 = .ok (.iload_n 2, 1) := by decide +kernel
theorem dX5_unseenPieces_20 : decode cX5_unseenPieces 20 = .ok (.invokestatic 52, 3) := by decide +kernel
theorem dX5_unseenPieces_23 : decode cX5_unseenPieces 23 = .ok (.ifCond .ne 6, 3) := by decide +kernel
theorem dX5_unseenPieces_26 : decode cX5_unseenPieces 26 = .ok (.iinc 1 1, 3) := by decide +kernel
theorem dX5_unseenPieces_29 : decode cX5_unseenPieces 29 = .ok (.iinc 2 1, 3) := by decide +kernel
theorem dX5_unseenPieces_32 : decode cX5_unseenPieces 32 = .ok (.goto (-28), 3) := by decide +kernel
theorem dX5_unseenPieces_35 : decode cX5_unseenPieces 35 = .ok (.iload_n 1, 1) := by decide +kernel
theorem dX5_unseenPieces_36 : decode cX5_unseenPieces 36 = .ok (.ireturn, 1) := by decide +kernel
set_option maxRecDepth 20000 in
theorem ggX5_pageCells_X1_rows : GoodIn wsX5_pageCells wsX1_rows := goodIn_r _ [6, 7, 47, 48, 49, 50, 51, 52] (by decide +kernel) (by decide +kernel)
set_option maxRecDepth 20000 in
theorem gX5_pageCells_X1_rows : GoodIn wsX5_pageCells (wsV RX5 75 RX1 yX1_rows wsX1_rows) := goodIn_app (goodIn_of _ (by decide +kernel)) ggX5_pageCells_X1_rows
set_option maxRecDepth 20000 in
theorem ggX5_pageCells_X5_rowOf : GoodIn wsX5_pageCells wsX5_rowOf := goodIn_r _ [12, 1, 13, 14, 15, 16, 17, 5, 18, 19, 20, 21, 22, 23, 24, 25, 26, 27, 7, 28, 29, 30, 31, 32, 33, 34, 35, 43, 44, 45, 46, 47, 48, 49, 50, 51, 52] (by decide +kernel) (by decide +kernel)
set_option maxRecDepth 20000 in
theorem gX5_pageCells_X5_rowOf : GoodIn wsX5_pageCells (wsV RX5 78 RX5 yX5_rowOf wsX5_rowOf) := goodIn_app (goodIn_of _ (by decide +kernel)) ggX5_pageCells_X5_rowOf
set_option maxRecDepth 20000 in
theorem ggX5_pageCells_J6_bitCount_0f7a4 : GoodIn wsX5_pageCells wsJ6_bitCount_0f7a4 := goodIn_r _ [39, 40, 41, 42] (by decide +kernel) (by decide +kernel)
set_option maxRecDepth 20000 in
theorem gX5_pageCells_J6_bitCount_0f7a4 : GoodIn wsX5_pageCells (va_wsS RX5 64 yJ6_bitCount_0f7a4 wsJ6_bitCount_0f7a4) := goodIn_app (goodIn_of _ (by decide +kernel)) ggX5_pageCells_J6_bitCount_0f7a4
theorem dX5_pageCells_0 : decode cX5_pageCells 0 = .ok (.iconst 0, 1) := by decide +kernel
theorem dX5_pageCells_1 : decode cX5_pageCells 1 = .ok (.istore_n 1, 1) := by decide +kernel
theorem dX5_pageCells_2 : decode cX5_pageCells 2 = .ok (.iconst 0, 1) := by decide +kernel
theorem dX5_pageCells_3 : decode cX5_pageCells 3 = .ok (.istore_n 2, 1) := by decide +kernel
theorem dX5_pageCells_4 : decode cX5_pageCells 4 = .ok (.iload_n 2, 1) := by decide +kernel
theorem dX5_pageCells_5 : decode cX5_pageCells 5 = .ok (.aload_n 0, 1) := by decide +kernel
theorem dX5_pageCells_6 : decode cX5_pageCells 6 = .ok (.getfield 9, 3) := by decide +kernel
theorem dX5_pageCells_9 : decode cX5_pageCells 9 = .ok (.invokevirtual 75, 3) := by decide +kernel
theorem dX5_pageCells_12 : decode cX5_pageCells 12 = .ok (.if_icmp .ge 21, 3) := by decide +kernel
theorem dX5_pageCells_15 : decode cX5_pageCells 15 = .ok (.iload_n 1, 1) := by decide +kernel
theorem dX5_pageCells_16 : decode cX5_pageCells 16 = .ok (.aload_n 0, 1) := by decide +kernel
theorem dX5_pageCells_17 : decode cX5_pageCells 17 = .ok (.iconst (-1), 1) := by decide +kernel
theorem dX5_pageCells_18 : decode cX5_pageCells 18 = .ok (.iload_n 2, 1) := by decide +kernel
theorem dX5_pageCells_19 : decode cX5_pageCells 19 = .ok (.invokevirtual 78, 3) := by decide +kernel
theorem dX5_pageCells_22 : decode cX5_pageCells 22 = .ok (.invokestatic 64, 3) := by decide +kernel
theorem dX5_pageCells_25 : decode cX5_pageCells 25 = .ok (.iadd, 1) := by decide +kernel
theorem dX5_pageCells_26 : decode cX5_pageCells 26 = .ok (.istore_n 1, 1) := by decide +kernel
theorem dX5_pageCells_27 : decode cX5_pageCells 27 = .ok (.iinc 2 1, 3) := by decide +kernel
theorem dX5_pageCells_30 : decode cX5_pageCells 30 = .ok (.goto (-26), 3) := by decide +kernel
theorem dX5_pageCells_33 : decode cX5_pageCells 33 = .ok (.iload_n 1, 1) := by decide +kernel
theorem dX5_pageCells_34 : decode cX5_pageCells 34 = .ok (.ireturn, 1) := by decide +kernel
set_option maxRecDepth 20000 in
theorem ggX5_wholeFrames_X1_pieces : GoodIn wsX5_wholeFrames wsX1_pieces := goodIn_r _ [6, 7, 60, 61, 62, 63, 64, 65] (by decide +kernel) (by decide +kernel)
set_option maxRecDepth 20000 in
theorem gX5_wholeFrames_X1_pieces : GoodIn wsX5_wholeFrames (wsV RX5 31 RX1 yX1_pieces wsX1_pieces) := goodIn_app (goodIn_of _ (by decide +kernel)) ggX5_wholeFrames_X1_pieces
set_option maxRecDepth 20000 in
theorem ggX5_wholeFrames_X1_get : GoodIn wsX5_wholeFrames wsX1_get := goodIn_r _ [11, 12, 60, 61, 62, 63, 64, 65] (by decide +kernel) (by decide +kernel)
set_option maxRecDepth 20000 in
theorem gX5_wholeFrames_X1_get : GoodIn wsX5_wholeFrames (wsV RX5 45 RX1 yX1_get wsX1_get) := goodIn_app (goodIn_of _ (by decide +kernel)) ggX5_wholeFrames_X1_get
set_option maxRecDepth 20000 in
theorem ggX5_wholeFrames_X5_cutStrips : GoodIn wsX5_wholeFrames wsX5_cutStrips := goodIn_r _ [17, 1, 18, 19, 20, 21, 8, 9, 10, 5, 11, 12, 22, 23, 24, 16, 25, 26, 27, 28, 29, 30, 31, 32, 33, 34, 35, 36, 37, 38, 39, 40, 41, 42, 43, 44, 45, 46, 47, 48, 49, 50, 51, 52, 53, 54, 55, 56, 57, 58, 59, 60, 61, 62, 63, 64, 65] (by decide +kernel) (by decide +kernel)
set_option maxRecDepth 20000 in
theorem gX5_wholeFrames_X5_cutStrips : GoodIn wsX5_wholeFrames (wsV RX5 81 RX5 yX5_cutStrips wsX5_cutStrips) := goodIn_app (goodIn_of _ (by decide +kernel)) ggX5_wholeFrames_X5_cutStrips
theorem dX5_wholeFrames_0 : decode cX5_wholeFrames 0 = .ok (.iconst 0, 1) := by decide +kernel
theorem dX5_wholeFrames_1 : decode cX5_wholeFrames 1 = .ok (.istore_n 1, 1) := by decide +kernel
theorem dX5_wholeFrames_2 : decode cX5_wholeFrames 2 = .ok (.iconst 0, 1) := by decide +kernel
theorem dX5_wholeFrames_3 : decode cX5_wholeFrames 3 = .ok (.istore_n 2, 1) := by decide +kernel
theorem dX5_wholeFrames_4 : decode cX5_wholeFrames 4 = .ok (.iload_n 2, 1) := by decide +kernel
theorem dX5_wholeFrames_5 : decode cX5_wholeFrames 5 = .ok (.aload_n 0, 1) := by decide +kernel
theorem dX5_wholeFrames_6 : decode cX5_wholeFrames 6 = .ok (.getfield 9, 3) := by decide +kernel
theorem dX5_wholeFrames_9 : decode cX5_wholeFrames 9 = .ok (.invokevirtual 31, 3) := by decide +kernel
theorem dX5_wholeFrames_12 : decode cX5_wholeFrames 12 = .ok (.if_icmp .ge 32, 3) := by decide +kernel
theorem dX5_wholeFrames_15 : decode cX5_wholeFrames 15 = .ok (.aload_n 0, 1) := by decide +kernel
theorem dX5_wholeFrames_16 : decode cX5_wholeFrames 16 = .ok (.getfield 9, 3) := by decide +kernel
theorem dX5_wholeFrames_19 : decode cX5_wholeFrames 19 = .ok (.iload_n 2, 1) := by decide +kernel
theorem dX5_wholeFrames_20 : decode cX5_wholeFrames 20 = .ok (.iconst 5, 1) := by decide +kernel
theorem dX5_wholeFrames_21 : decode cX5_wholeFrames 21 = .ok (.invokevirtual 45, 3) := by decide +kernel
theorem dX5_wholeFrames_24 : decode cX5_wholeFrames 24 = .ok (.ifCond .le 14, 3) := by decide +kernel
theorem dX5_wholeFrames_27 : decode cX5_wholeFrames 27 = .ok (.aload_n 0, 1) := by decide +kernel
theorem dX5_wholeFrames_28 : decode cX5_wholeFrames 28 = .ok (.iload_n 2, 1) := by decide +kernel
theorem dX5_wholeFrames_29 : decode cX5_wholeFrames 29 = .ok (.invokevirtual 81, 3) := by decide +kernel
theorem dX5_wholeFrames_32 : decode cX5_wholeFrames 32 = .ok (.ifCond .ne 6, 3) := by decide +kernel
theorem dX5_wholeFrames_35 : decode cX5_wholeFrames 35 = .ok (.iinc 1 1, 3) := by decide +kernel
theorem dX5_wholeFrames_38 : decode cX5_wholeFrames 38 = .ok (.iinc 2 1, 3) := by decide +kernel
theorem dX5_wholeFrames_41 : decode cX5_wholeFrames 41 = .ok (.goto (-37), 3) := by decide +kernel
theorem dX5_wholeFrames_44 : decode cX5_wholeFrames 44 = .ok (.iload_n 1, 1) := by decide +kernel
theorem dX5_wholeFrames_45 : decode cX5_wholeFrames 45 = .ok (.ireturn, 1) := by decide +kernel
set_option maxRecDepth 20000 in
theorem ggX5_cutStrips_X1_get : GoodIn wsX5_cutStrips wsX1_get := goodIn_r _ [10, 11, 51, 52, 53, 54, 55, 56] (by decide +kernel) (by decide +kernel)
set_option maxRecDepth 20000 in
theorem gX5_cutStrips_X1_get : GoodIn wsX5_cutStrips (wsV RX5 45 RX1 yX1_get wsX1_get) := goodIn_app (goodIn_of _ (by decide +kernel)) ggX5_cutStrips_X1_get
set_option maxRecDepth 20000 in
theorem ggX5_cutStrips_X5_isWholly : GoodIn wsX5_cutStrips wsX5_isWholly := goodIn_r _ [16, 1, 17, 18, 19, 9, 20, 21, 22, 23, 24, 15, 25, 26, 27, 28, 29, 30, 31, 32, 33, 34, 35, 36, 37, 38, 39, 6, 7, 8, 10, 11, 40, 41, 42, 43, 44, 45, 46, 47, 48, 49, 50, 51, 52, 53, 54, 55, 56] (by decide +kernel) (by decide +kernel)
set_option maxRecDepth 20000 in
theorem gX5_cutStrips_X5_isWholly : GoodIn wsX5_cutStrips (wsV RX5 89 RX5 yX5_isWholly wsX5_isWholly) := goodIn_app (goodIn_of _ (by decide +kernel)) ggX5_cutStrips_X5_isWholly
theorem dX5_cutStrips_0 : decode cX5_cutStrips 0 = .ok (.aload_n 0, 1) := by decide +kernel
theorem dX5_cutStrips_1 : decode cX5_cutStrips 1 = .ok (.getfield 9, 3) := by decide +kernel
theorem dX5_cutStrips_4 : decode cX5_cutStrips 4 = .ok (.iload_n 1, 1) := by decide +kernel
theorem dX5_cutStrips_5 : decode cX5_cutStrips 5 = .ok (.iconst 0, 1) := by decide +kernel
theorem dX5_cutStrips_6 : decode cX5_cutStrips 6 = .ok (.invokevirtual 45, 3) := by decide +kernel
theorem dX5_cutStrips_9 : decode cX5_cutStrips 9 = .ok (.istore_n 2, 1) := by decide +kernel
theorem dX5_cutStrips_10 : decode cX5_cutStrips 10 = .ok (.aload_n 0, 1) := by decide +kernel
theorem dX5_cutStrips_11 : decode cX5_cutStrips 11 = .ok (.getfield 9, 3) := by decide +kernel
theorem dX5_cutStrips_14 : decode cX5_cutStrips 14 = .ok (.iload_n 1, 1) := by decide +kernel
theorem dX5_cutStrips_15 : decode cX5_cutStrips 15 = .ok (.iconst 1, 1) := by decide +kernel
theorem dX5_cutStrips_16 : decode cX5_cutStrips 16 = .ok (.invokevirtual 45, 3) := by decide +kernel
theorem dX5_cutStrips_19 : decode cX5_cutStrips 19 = .ok (.istore_n 3, 1) := by decide +kernel
theorem dX5_cutStrips_20 : decode cX5_cutStrips 20 = .ok (.aload_n 0, 1) := by decide +kernel
theorem dX5_cutStrips_21 : decode cX5_cutStrips 21 = .ok (.getfield 9, 3) := by decide +kernel
theorem dX5_cutStrips_24 : decode cX5_cutStrips 24 = .ok (.iload_n 1, 1) := by decide +kernel
theorem dX5_cutStrips_25 : decode cX5_cutStrips 25 = .ok (.iconst 2, 1) := by decide +kernel
theorem dX5_cutStrips_26 : decode cX5_cutStrips 26 = .ok (.invokevirtual 45, 3) := by decide +kernel
theorem dX5_cutStrips_29 : decode cX5_cutStrips 29 = .ok (.istore 4, 2) := by decide +kernel
theorem dX5_cutStrips_31 : decode cX5_cutStrips 31 = .ok (.aload_n 0, 1) := by decide +kernel
theorem dX5_cutStrips_32 : decode cX5_cutStrips 32 = .ok (.getfield 9, 3) := by decide +kernel
theorem dX5_cutStrips_35 : decode cX5_cutStrips 35 = .ok (.iload_n 1, 1) := by decide +kernel
theorem dX5_cutStrips_36 : decode cX5_cutStrips 36 = .ok (.iconst 3, 1) := by decide +kernel
theorem dX5_cutStrips_37 : decode cX5_cutStrips 37 = .ok (.invokevirtual 45, 3) := by decide +kernel
theorem dX5_cutStrips_40 : decode cX5_cutStrips 40 = .ok (.istore 5, 2) := by decide +kernel
theorem dX5_cutStrips_42 : decode cX5_cutStrips 42 = .ok (.aload_n 0, 1) := by decide +kernel
theorem dX5_cutStrips_43 : decode cX5_cutStrips 43 = .ok (.getfield 9, 3) := by decide +kernel
theorem dX5_cutStrips_46 : decode cX5_cutStrips 46 = .ok (.iload_n 1, 1) := by decide +kernel
theorem dX5_cutStrips_47 : decode cX5_cutStrips 47 = .ok (.iconst 5, 1) := by decide +kernel
theorem dX5_cutStrips_48 : decode cX5_cutStrips 48 = .ok (.invokevirtual 45, 3) := by decide +kernel
theorem dX5_cutStrips_51 : decode cX5_cutStrips 51 = .ok (.iload 4, 2) := by decide +kernel
theorem dX5_cutStrips_53 : decode cX5_cutStrips 53 = .ok (.invokestatic 84, 3) := by decide +kernel
theorem dX5_cutStrips_56 : decode cX5_cutStrips 56 = .ok (.istore 6, 2) := by decide +kernel
theorem dX5_cutStrips_58 : decode cX5_cutStrips 58 = .ok (.aload_n 0, 1) := by decide +kernel
theorem dX5_cutStrips_59 : decode cX5_cutStrips 59 = .ok (.getfield 9, 3) := by decide +kernel
theorem dX5_cutStrips_62 : decode cX5_cutStrips 62 = .ok (.iload_n 1, 1) := by decide +kernel
theorem dX5_cutStrips_63 : decode cX5_cutStrips 63 = .ok (.iconst 5, 1) := by decide +kernel
theorem dX5_cutStrips_64 : decode cX5_cutStrips 64 = .ok (.invokevirtual 45, 3) := by decide +kernel
theorem dX5_cutStrips_67 : decode cX5_cutStrips 67 = .ok (.iload 5, 2) := by decide +kernel
theorem dX5_cutStrips_69 : decode cX5_cutStrips 69 = .ok (.invokestatic 84, 3) := by decide +kernel
theorem dX5_cutStrips_72 : decode cX5_cutStrips 72 = .ok (.istore 7, 2) := by decide +kernel
theorem dX5_cutStrips_74 : decode cX5_cutStrips 74 = .ok (.aload_n 0, 1) := by decide +kernel
theorem dX5_cutStrips_75 : decode cX5_cutStrips 75 = .ok (.iload_n 1, 1) := by decide +kernel
theorem dX5_cutStrips_76 : decode cX5_cutStrips 76 = .ok (.iload_n 2, 1) := by decide +kernel
theorem dX5_cutStrips_77 : decode cX5_cutStrips 77 = .ok (.iload_n 3, 1) := by decide +kernel
theorem dX5_cutStrips_78 : decode cX5_cutStrips 78 = .ok (.iload 6, 2) := by decide +kernel
theorem dX5_cutStrips_80 : decode cX5_cutStrips 80 = .ok (.iload 5, 2) := by decide +kernel
theorem dX5_cutStrips_82 : decode cX5_cutStrips 82 = .ok (.invokevirtual 89, 3) := by decide +kernel
theorem dX5_cutStrips_85 : decode cX5_cutStrips 85 = .ok (.ifCond .eq 7, 3) := by decide +kernel
theorem dX5_cutStrips_88 : decode cX5_cutStrips 88 = .ok (.iconst 0, 1) := by decide +kernel
theorem dX5_cutStrips_89 : decode cX5_cutStrips 89 = .ok (.goto 4, 3) := by decide +kernel
theorem dX5_cutStrips_92 : decode cX5_cutStrips 92 = .ok (.iconst 1, 1) := by decide +kernel
theorem dX5_cutStrips_93 : decode cX5_cutStrips 93 = .ok (.istore 8, 2) := by decide +kernel
theorem dX5_cutStrips_95 : decode cX5_cutStrips 95 = .ok (.iload 8, 2) := by decide +kernel
theorem dX5_cutStrips_97 : decode cX5_cutStrips 97 = .ok (.aload_n 0, 1) := by decide +kernel
theorem dX5_cutStrips_98 : decode cX5_cutStrips 98 = .ok (.iload_n 1, 1) := by decide +kernel
theorem dX5_cutStrips_99 : decode cX5_cutStrips 99 = .ok (.iload_n 2, 1) := by decide +kernel
theorem dX5_cutStrips_100 : decode cX5_cutStrips 100 = .ok (.iload_n 3, 1) := by decide +kernel
theorem dX5_cutStrips_101 : decode cX5_cutStrips 101 = .ok (.iload 4, 2) := by decide +kernel
theorem dX5_cutStrips_103 : decode cX5_cutStrips 103 = .ok (.iload 7, 2) := by decide +kernel
theorem dX5_cutStrips_105 : decode cX5_cutStrips 105 = .ok (.invokevirtual 89, 3) := by decide +kernel
theorem dX5_cutStrips_108 : decode cX5_cutStrips 108 = .ok (.ifCond .eq 7, 3) := by decide +kernel
theorem dX5_cutStrips_111 : decode cX5_cutStrips 111 = .ok (.iconst 0, 1) := by decide +kernel
theorem dX5_cutStrips_112 : decode cX5_cutStrips 112 = .ok (.goto 4, 3) := by decide +kernel
theorem dX5_cutStrips_115 : decode cX5_cutStrips 115 = .ok (.iconst 2, 1) := by decide +kernel
theorem dX5_cutStrips_116 : decode cX5_cutStrips 116 = .ok (.ior, 1) := by decide +kernel
theorem dX5_cutStrips_117 : decode cX5_cutStrips 117 = .ok (.istore 8, 2) := by decide +kernel
theorem dX5_cutStrips_119 : decode cX5_cutStrips 119 = .ok (.iload 8, 2) := by decide +kernel
theorem dX5_cutStrips_121 : decode cX5_cutStrips 121 = .ok (.aload_n 0, 1) := by decide +kernel
theorem dX5_cutStrips_122 : decode cX5_cutStrips 122 = .ok (.iload_n 1, 1) := by decide +kernel
theorem dX5_cutStrips_123 : decode cX5_cutStrips 123 = .ok (.iload_n 2, 1) := by decide +kernel
theorem dX5_cutStrips_124 : decode cX5_cutStrips 124 = .ok (.iload 4, 2) := by decide +kernel
theorem dX5_cutStrips_126 : decode cX5_cutStrips 126 = .ok (.iadd, 1) := by decide +kernel
theorem dX5_cutStrips_127 : decode cX5_cutStrips 127 = .ok (.iload 6, 2) := by decide +kernel
theorem dX5_cutStrips_129 : decode cX5_cutStrips 129 = .ok (.isub, 1) := by decide +kernel
theorem dX5_cutStrips_130 : decode cX5_cutStrips 130 = .ok (.iload_n 3, 1) := by decide +kernel
theorem dX5_cutStrips_131 : decode cX5_cutStrips 131 = .ok (.iload 6, 2) := by decide +kernel
theorem dX5_cutStrips_133 : decode cX5_cutStrips 133 = .ok (.iload 5, 2) := by decide +kernel
theorem dX5_cutStrips_135 : decode cX5_cutStrips 135 = .ok (.invokevirtual 89, 3) := by decide +kernel
theorem dX5_cutStrips_138 : decode cX5_cutStrips 138 = .ok (.ifCond .eq 7, 3) := by decide +kernel
theorem dX5_cutStrips_141 : decode cX5_cutStrips 141 = .ok (.iconst 0, 1) := by decide +kernel
theorem dX5_cutStrips_142 : decode cX5_cutStrips 142 = .ok (.goto 4, 3) := by decide +kernel
theorem dX5_cutStrips_145 : decode cX5_cutStrips 145 = .ok (.iconst 4, 1) := by decide +kernel
theorem dX5_cutStrips_146 : decode cX5_cutStrips 146 = .ok (.ior, 1) := by decide +kernel
theorem dX5_cutStrips_147 : decode cX5_cutStrips 147 = .ok (.istore 8, 2) := by decide +kernel
theorem dX5_cutStrips_149 : decode cX5_cutStrips 149 = .ok (.iload 8, 2) := by decide +kernel
theorem dX5_cutStrips_151 : decode cX5_cutStrips 151 = .ok (.aload_n 0, 1) := by decide +kernel
theorem dX5_cutStrips_152 : decode cX5_cutStrips 152 = .ok (.iload_n 1, 1) := by decide +kernel
theorem dX5_cutStrips_153 : decode cX5_cutStrips 153 = .ok (.iload_n 2, 1) := by decide +kernel
theorem dX5_cutStrips_154 : decode cX5_cutStrips 154 = .ok (.iload_n 3, 1) := by decide +kernel
theorem dX5_cutStrips_155 : decode cX5_cutStrips 155 = .ok (.iload 5, 2) := by decide +kernel
theorem dX5_cutStrips_157 : decode cX5_cutStrips 157 = .ok (.iadd, 1) := by decide +kernel
theorem dX5_cutStrips_158 : decode cX5_cutStrips 158 = .ok (.iload 7, 2) := by decide +kernel
theorem dX5_cutStrips_160 : decode cX5_cutStrips 160 = .ok (.isub, 1) := by decide +kernel
theorem dX5_cutStrips_161 : decode cX5_cutStrips 161 = .ok (.iload 4, 2) := by decide +kernel
theorem dX5_cutStrips_163 : decode cX5_cutStrips 163 = .ok (.iload 7, 2) := by decide +kernel
theorem dX5_cutStrips_165 : decode cX5_cutStrips 165 = .ok (.invokevirtual 89, 3) := by decide +kernel
theorem dX5_cutStrips_168 : decode cX5_cutStrips 168 = .ok (.ifCond .eq 7, 3) := by decide +kernel
theorem dX5_cutStrips_171 : decode cX5_cutStrips 171 = .ok (.iconst 0, 1) := by decide +kernel
theorem dX5_cutStrips_172 : decode cX5_cutStrips 172 = .ok (.goto 5, 3) := by decide +kernel
theorem dX5_cutStrips_175 : decode cX5_cutStrips 175 = .ok (.bipush 8, 2) := by decide +kernel
theorem dX5_cutStrips_177 : decode cX5_cutStrips 177 = .ok (.ior, 1) := by decide +kernel
theorem dX5_cutStrips_178 : decode cX5_cutStrips 178 = .ok (.istore 8, 2) := by decide +kernel
theorem dX5_cutStrips_180 : decode cX5_cutStrips 180 = .ok (.iload 8, 2) := by decide +kernel
theorem dX5_cutStrips_182 : decode cX5_cutStrips 182 = .ok (.ireturn, 1) := by decide +kernel
set_option maxRecDepth 20000 in
theorem ggX5_isWholly_X1_span : GoodIn wsX5_isWholly wsX1_span := goodIn_r _ [6, 7, 43, 44, 45, 46, 47, 48] (by decide +kernel) (by decide +kernel)
set_option maxRecDepth 20000 in
theorem gX5_isWholly_X1_span : GoodIn wsX5_isWholly (wsV RX5 49 RX1 yX1_span wsX1_span) := goodIn_app (goodIn_of _ (by decide +kernel)) ggX5_isWholly_X1_span
set_option maxRecDepth 20000 in
theorem ggX5_isWholly_X5_rowOf : GoodIn wsX5_isWholly wsX5_rowOf := goodIn_r _ [12, 1, 13, 14, 15, 16, 17, 5, 18, 7, 2, 3, 4, 6, 19, 20, 21, 22, 23, 24, 25, 26, 27, 28, 29, 30, 31, 39, 40, 41, 42, 43, 44, 45, 46, 47, 48] (by decide +kernel) (by decide +kernel)
set_option maxRecDepth 20000 in
theorem gX5_isWholly_X5_rowOf : GoodIn wsX5_isWholly (wsV RX5 78 RX5 yX5_rowOf wsX5_rowOf) := goodIn_app (goodIn_of _ (by decide +kernel)) ggX5_isWholly_X5_rowOf
set_option maxRecDepth 20000 in
theorem ggX5_isWholly_J6_bitCount_0f7a4 : GoodIn wsX5_isWholly wsJ6_bitCount_0f7a4 := goodIn_r _ [35, 36, 37, 38] (by decide +kernel) (by decide +kernel)
set_option maxRecDepth 20000 in
theorem gX5_isWholly_J6_bitCount_0f7a4 : GoodIn wsX5_isWholly (va_wsS RX5 64 yJ6_bitCount_0f7a4 wsJ6_bitCount_0f7a4) := goodIn_app (goodIn_of _ (by decide +kernel)) ggX5_isWholly_J6_bitCount_0f7a4
theorem dX5_isWholly_0 : decode cX5_isWholly 0 = .ok (.aload_n 0, 1) := by decide +kernel
theorem dX5_isWholly_1 : decode cX5_isWholly 1 = .ok (.getfield 9, 3) := by decide +kernel
theorem dX5_isWholly_4 : decode cX5_isWholly 4 = .ok (.iload_n 2, 1) := by decide +kernel
theorem dX5_isWholly_5 : decode cX5_isWholly 5 = .ok (.iload 4, 2) := by decide +kernel
