theorem dX8_readPiece_130 : decode cX8_readPiece 130 = .ok (.aload_n 0, 1) := by decide +kernel
theorem dX8_readPiece_131 : decode cX8_readPiece 131 = .ok (.aload_n 0, 1) := by decide +kernel
theorem dX8_readPiece_132 : decode cX8_readPiece 132 = .ok (.getfield 25, 3) := by decide +kernel
theorem dX8_readPiece_135 : decode cX8_readPiece 135 = .ok (.iconst 0, 1) := by decide +kernel
theorem dX8_readPiece_136 : decode cX8_readPiece 136 = .ok (.iaload, 1) := by decide +kernel
theorem dX8_readPiece_137 : decode cX8_readPiece 137 = .ok (.aload_n 0, 1) := by decide +kernel
theorem dX8_readPiece_138 : decode cX8_readPiece 138 = .ok (.getfield 25, 3) := by decide +kernel
theorem dX8_readPiece_141 : decode cX8_readPiece 141 = .ok (.iconst 1, 1) := by decide +kernel
theorem dX8_readPiece_142 : decode cX8_readPiece 142 = .ok (.iaload, 1) := by decide +kernel
theorem dX8_readPiece_143 : decode cX8_readPiece 143 = .ok (.aload_n 0, 1) := by decide +kernel
theorem dX8_readPiece_144 : decode cX8_readPiece 144 = .ok (.getfield 25, 3) := by decide +kernel
theorem dX8_readPiece_147 : decode cX8_readPiece 147 = .ok (.iconst 2, 1) := by decide +kernel
theorem dX8_readPiece_148 : decode cX8_readPiece 148 = .ok (.iaload, 1) := by decide +kernel
theorem dX8_readPiece_149 : decode cX8_readPiece 149 = .ok (.aload_n 0, 1) := by decide +kernel
theorem dX8_readPiece_150 : decode cX8_readPiece 150 = .ok (.getfield 25, 3) := by decide +kernel
theorem dX8_readPiece_153 : decode cX8_readPiece 153 = .ok (.iconst 3, 1) := by decide +kernel
theorem dX8_readPiece_154 : decode cX8_readPiece 154 = .ok (.iaload, 1) := by decide +kernel
theorem dX8_readPiece_155 : decode cX8_readPiece 155 = .ok (.aload_n 0, 1) := by decide +kernel
theorem dX8_readPiece_156 : decode cX8_readPiece 156 = .ok (.getfield 25, 3) := by decide +kernel
theorem dX8_readPiece_159 : decode cX8_readPiece 159 = .ok (.iconst 4, 1) := by decide +kernel
theorem dX8_readPiece_160 : decode cX8_readPiece 160 = .ok (.iaload, 1) := by decide +kernel
theorem dX8_readPiece_161 : decode cX8_readPiece 161 = .ok (.iload_n 2, 1) := by decide +kernel
theorem dX8_readPiece_162 : decode cX8_readPiece 162 = .ok (.invokevirtual 81, 3) := by decide +kernel
theorem dX8_readPiece_165 : decode cX8_readPiece 165 = .ok (.iconst 1, 1) := by decide +kernel
theorem dX8_readPiece_166 : decode cX8_readPiece 166 = .ok (.ireturn, 1) := by decide +kernel
set_option maxRecDepth 20000 in
theorem ggX8_readPage_X8_next : GoodIn wsX8_readPage wsX8_next := goodIn_r _ [8, 9, 10, 11, 1, 12, 13, 14, 7, 15, 16, 17, 18, 19, 20, 21, 22, 23, 24, 25, 26, 27, 28, 29, 30, 31, 32, 33, 34, 35, 36, 37, 38, 43, 44, 45, 46, 47, 48, 49, 50, 51, 52, 53, 54, 55, 56, 57, 58, 59, 60, 61] (by decide +kernel) (by decide +kernel)
set_option maxRecDepth 20000 in
theorem gX8_readPage_X8_next : GoodIn wsX8_readPage (wsV RX8 167 RX8 yX8_next wsX8_next) := goodIn_app (goodIn_of _ (by decide +kernel)) ggX8_readPage_X8_next
set_option maxRecDepth 20000 in
theorem ggX8_readPage_X8_takes : GoodIn wsX8_readPage wsX8_takes := goodIn_r _ [42, 1, 38, 3, 17, 18, 7, 19, 4, 5, 6, 8, 9, 10, 11, 12, 13, 14, 15, 16, 20, 21, 22, 23, 24, 25, 26, 27, 28, 29, 30, 31, 32, 33, 34, 35, 36, 37, 43, 44, 45, 46, 47, 48, 49, 50, 51, 52, 53, 54, 55, 56, 57, 58, 59, 60, 61] (by decide +kernel) (by decide +kernel)
set_option maxRecDepth 20000 in
theorem gX8_readPage_X8_takes : GoodIn wsX8_readPage (wsV RX8 170 RX8 yX8_takes wsX8_takes) := goodIn_app (goodIn_of _ (by decide +kernel)) ggX8_readPage_X8_takes
theorem dX8_readPage_0 : decode cX8_readPage 0 = .ok (.aload_n 0, 1) := by decide +kernel
theorem dX8_readPage_1 : decode cX8_readPage 1 = .ok (.invokevirtual 167, 3) := by decide +kernel
theorem dX8_readPage_4 : decode cX8_readPage 4 = .ok (.aload_n 0, 1) := by decide +kernel
theorem dX8_readPage_5 : decode cX8_readPage 5 = .ok (.iconst 0, 1) := by decide +kernel
theorem dX8_readPage_6 : decode cX8_readPage 6 = .ok (.iconst 4, 1) := by decide +kernel
theorem dX8_readPage_7 : decode cX8_readPage 7 = .ok (.bipush 24, 2) := by decide +kernel
theorem dX8_readPage_9 : decode cX8_readPage 9 = .ok (.invokevirtual 170, 3) := by decide +kernel
theorem dX8_readPage_12 : decode cX8_readPage 12 = .ok (.ifCond .eq 23, 3) := by decide +kernel
theorem dX8_readPage_15 : decode cX8_readPage 15 = .ok (.aload_n 0, 1) := by decide +kernel
theorem dX8_readPage_16 : decode cX8_readPage 16 = .ok (.iconst 1, 1) := by decide +kernel
theorem dX8_readPage_17 : decode cX8_readPage 17 = .ok (.iconst 4, 1) := by decide +kernel
theorem dX8_readPage_18 : decode cX8_readPage 18 = .ok (.bipush 24, 2) := by decide +kernel
theorem dX8_readPage_20 : decode cX8_readPage 20 = .ok (.invokevirtual 170, 3) := by decide +kernel
theorem dX8_readPage_23 : decode cX8_readPage 23 = .ok (.ifCond .eq 12, 3) := by decide +kernel
theorem dX8_readPage_26 : decode cX8_readPage 26 = .ok (.aload_n 0, 1) := by decide +kernel
theorem dX8_readPage_27 : decode cX8_readPage 27 = .ok (.getfield 149, 3) := by decide +kernel
theorem dX8_readPage_30 : decode cX8_readPage 30 = .ok (.bipush 6, 2) := by decide +kernel
theorem dX8_readPage_32 : decode cX8_readPage 32 = .ok (.if_icmp .eq 5, 3) := by decide +kernel
theorem dX8_readPage_35 : decode cX8_readPage 35 = .ok (.iconst 0, 1) := by decide +kernel
theorem dX8_readPage_36 : decode cX8_readPage 36 = .ok (.ireturn, 1) := by decide +kernel
theorem dX8_readPage_37 : decode cX8_readPage 37 = .ok (.aload_n 0, 1) := by decide +kernel
theorem dX8_readPage_38 : decode cX8_readPage 38 = .ok (.getfield 7, 3) := by decide +kernel
theorem dX8_readPage_41 : decode cX8_readPage 41 = .ok (.iconst 0, 1) := by decide +kernel
theorem dX8_readPage_42 : decode cX8_readPage 42 = .ok (.aload_n 0, 1) := by decide +kernel
theorem dX8_readPage_43 : decode cX8_readPage 43 = .ok (.getfield 25, 3) := by decide +kernel
theorem dX8_readPage_46 : decode cX8_readPage 46 = .ok (.iconst 0, 1) := by decide +kernel
theorem dX8_readPage_47 : decode cX8_readPage 47 = .ok (.iaload, 1) := by decide +kernel
theorem dX8_readPage_48 : decode cX8_readPage 48 = .ok (.iastore, 1) := by decide +kernel
theorem dX8_readPage_49 : decode cX8_readPage 49 = .ok (.aload_n 0, 1) := by decide +kernel
theorem dX8_readPage_50 : decode cX8_readPage 50 = .ok (.getfield 7, 3) := by decide +kernel
theorem dX8_readPage_53 : decode cX8_readPage 53 = .ok (.iconst 1, 1) := by decide +kernel
theorem dX8_readPage_54 : decode cX8_readPage 54 = .ok (.aload_n 0, 1) := by decide +kernel
theorem dX8_readPage_55 : decode cX8_readPage 55 = .ok (.getfield 25, 3) := by decide +kernel
theorem dX8_readPage_58 : decode cX8_readPage 58 = .ok (.iconst 1, 1) := by decide +kernel
theorem dX8_readPage_59 : decode cX8_readPage 59 = .ok (.iaload, 1) := by decide +kernel
theorem dX8_readPage_60 : decode cX8_readPage 60 = .ok (.iastore, 1) := by decide +kernel
theorem dX8_readPage_61 : decode cX8_readPage 61 = .ok (.iconst 1, 1) := by decide +kernel
theorem dX8_readPage_62 : decode cX8_readPage 62 = .ok (.ireturn, 1) := by decide +kernel
set_option maxRecDepth 20000 in
theorem ggX8_readItem_X8_readPiece : GoodIn wsX8_readItem wsX8_readPiece := goodIn_r _ [7, 8, 1, 9, 10, 11, 12, 6, 13, 14, 15, 16, 17, 18, 19, 20, 21, 22, 23, 24, 25, 26, 27, 28, 29, 30, 31, 32, 33, 34, 35, 36, 37, 38, 39, 40, 41, 42, 43, 44, 45, 46, 47, 48, 49, 50, 51, 56, 57, 58, 59, 60, 61, 62, 63, 64, 65, 66, 67, 68, 69, 70, 71, 72, 73, 74] (by decide +kernel) (by decide +kernel)
set_option maxRecDepth 20000 in
theorem gX8_readItem_X8_readPiece : GoodIn wsX8_readItem (wsV RX8 173 RX8 yX8_readPiece wsX8_readPiece) := goodIn_app (goodIn_of _ (by decide +kernel)) ggX8_readItem_X8_readPiece
set_option maxRecDepth 20000 in
theorem ggX8_readItem_X8_readPage : GoodIn wsX8_readItem wsX8_readPage := goodIn_r _ [55, 1, 8, 9, 10, 11, 12, 6, 13, 14, 15, 16, 17, 18, 19, 20, 21, 22, 23, 24, 25, 26, 27, 28, 29, 30, 31, 32, 33, 34, 35, 36, 37, 38, 39, 40, 41, 42, 43, 44, 45, 46, 47, 56, 57, 58, 59, 60, 61, 62, 63, 64, 65, 66, 67, 68, 69, 70, 71, 72, 73, 74] (by decide +kernel) (by decide +kernel)
set_option maxRecDepth 20000 in
theorem gX8_readItem_X8_readPage : GoodIn wsX8_readItem (wsV RX8 179 RX8 yX8_readPage wsX8_readPage) := goodIn_app (goodIn_of _ (by decide +kernel)) ggX8_readItem_X8_readPage
theorem dX8_readItem_0 : decode cX8_readItem 0 = .ok (.aload_n 0, 1) := by decide +kernel
theorem dX8_readItem_1 : decode cX8_readItem 1 = .ok (.getfield 149, 3) := by decide +kernel
theorem dX8_readItem_4 : decode cX8_readItem 4 = .ok (.iconst 1, 1) := by decide +kernel
theorem dX8_readItem_5 : decode cX8_readItem 5 = .ok (.if_icmp .ne 10, 3) := by decide +kernel
theorem dX8_readItem_8 : decode cX8_readItem 8 = .ok (.aload_n 0, 1) := by decide +kernel
theorem dX8_readItem_9 : decode cX8_readItem 9 = .ok (.invokevirtual 173, 3) := by decide +kernel
theorem dX8_readItem_12 : decode cX8_readItem 12 = .ok (.goto 30, 3) := by decide +kernel
theorem dX8_readItem_15 : decode cX8_readItem 15 = .ok (.aload_n 0, 1) := by decide +kernel
theorem dX8_readItem_16 : decode cX8_readItem 16 = .ok (.getfield 149, 3) := by decide +kernel
theorem dX8_readItem_19 : decode cX8_readItem 19 = .ok (.iconst 2, 1) := by decide +kernel
theorem dX8_readItem_20 : decode cX8_readItem 20 = .ok (.if_icmp .ne 21, 3) := by decide +kernel
theorem dX8_readItem_23 : decode cX8_readItem 23 = .ok (.aload_n 0, 1) := by decide +kernel
theorem dX8_readItem_24 : decode cX8_readItem 24 = .ok (.getfield 176, 3) := by decide +kernel
theorem dX8_readItem_27 : decode cX8_readItem 27 = .ok (.ifCond .ne 14, 3) := by decide +kernel
theorem dX8_readItem_30 : decode cX8_readItem 30 = .ok (.aload_n 0, 1) := by decide +kernel
theorem dX8_readItem_31 : decode cX8_readItem 31 = .ok (.invokevirtual 179, 3) := by decide +kernel
theorem dX8_readItem_34 : decode cX8_readItem 34 = .ok (.ifCond .eq 7, 3) := by decide +kernel
theorem dX8_readItem_37 : decode cX8_readItem 37 = .ok (.iconst 1, 1) := by decide +kernel
theorem dX8_readItem_38 : decode cX8_readItem 38 = .ok (.goto 4, 3) := by decide +kernel
theorem dX8_readItem_41 : decode cX8_readItem 41 = .ok (.iconst 0, 1) := by decide +kernel
theorem dX8_readItem_42 : decode cX8_readItem 42 = .ok (.ireturn, 1) := by decide +kernel
set_option maxRecDepth 20000 in
theorem ggX8_readAll_X8_next : GoodIn wsX8_readAll wsX8_next := goodIn_r _ [8, 1, 9, 10, 3, 11, 12, 13, 7, 14, 15, 16, 17, 18, 19, 20, 21, 22, 23, 24, 25, 26, 27, 28, 29, 30, 31, 32, 33, 34, 35, 36, 37, 60, 61, 62, 63, 64, 65, 66, 67, 68, 69, 70, 71, 72, 73, 74, 75, 76, 77, 78] (by decide +kernel) (by decide +kernel)
set_option maxRecDepth 20000 in
theorem gX8_readAll_X8_next : GoodIn wsX8_readAll (wsV RX8 167 RX8 yX8_next wsX8_next) := goodIn_app (goodIn_of _ (by decide +kernel)) ggX8_readAll_X8_next
set_option maxRecDepth 20000 in
theorem ggX8_readAll_X8_readItem : GoodIn wsX8_readAll wsX8_readItem := goodIn_r _ [41, 3, 2, 42, 43, 44, 7, 45, 46, 47, 4, 5, 6, 8, 1, 9, 10, 11, 12, 13, 14, 15, 16, 17, 18, 19, 20, 21, 22, 23, 24, 25, 26, 27, 28, 29, 30, 31, 32, 33, 34, 35, 36, 37, 48, 49, 50, 51, 52, 53, 54, 55, 56, 57, 58, 59, 60, 61, 62, 63, 64, 65, 66, 67, 68, 69, 70, 71, 72, 73, 74, 75, 76, 77, 78] (by decide +kernel) (by decide +kernel)
set_option maxRecDepth 20000 in
theorem gX8_readAll_X8_readItem : GoodIn wsX8_readAll (wsV RX8 182 RX8 yX8_readItem wsX8_readItem) := goodIn_app (goodIn_of _ (by decide +kernel)) ggX8_readAll_X8_readItem
theorem dX8_readAll_0 : decode cX8_readAll 0 = .ok (.aload_n 0, 1) := by decide +kernel
theorem dX8_readAll_1 : decode cX8_readAll 1 = .ok (.iconst 0, 1) := by decide +kernel
theorem dX8_readAll_2 : decode cX8_readAll 2 = .ok (.putfield 130, 3) := by decide +kernel
theorem dX8_readAll_5 : decode cX8_readAll 5 = .ok (.aload_n 0, 1) := by decide +kernel
theorem dX8_readAll_6 : decode cX8_readAll 6 = .ok (.iconst 0, 1) := by decide +kernel
theorem dX8_readAll_7 : decode cX8_readAll 7 = .ok (.putfield 176, 3) := by decide +kernel
theorem dX8_readAll_10 : decode cX8_readAll 10 = .ok (.aload_n 0, 1) := by decide +kernel
theorem dX8_readAll_11 : decode cX8_readAll 11 = .ok (.invokevirtual 167, 3) := by decide +kernel
theorem dX8_readAll_14 : decode cX8_readAll 14 = .ok (.aload_n 0, 1) := by decide +kernel
theorem dX8_readAll_15 : decode cX8_readAll 15 = .ok (.getfield 149, 3) := by decide +kernel
theorem dX8_readAll_18 : decode cX8_readAll 18 = .ok (.bipush 7, 2) := by decide +kernel
theorem dX8_readAll_20 : decode cX8_readAll 20 = .ok (.if_icmp .eq 29, 3) := by decide +kernel
theorem dX8_readAll_23 : decode cX8_readAll 23 = .ok (.aload_n 0, 1) := by decide +kernel
theorem dX8_readAll_24 : decode cX8_readAll 24 = .ok (.invokevirtual 182, 3) := by decide +kernel
theorem dX8_readAll_27 : decode cX8_readAll 27 = .ok (.ifCond .ne 5, 3) := by decide +kernel
theorem dX8_readAll_30 : decode cX8_readAll 30 = .ok (.iconst 0, 1) := by decide +kernel
theorem dX8_readAll_31 : decode cX8_readAll 31 = .ok (.ireturn, 1) := by decide +kernel
theorem dX8_readAll_32 : decode cX8_readAll 32 = .ok (.aload_n 0, 1) := by decide +kernel
theorem dX8_readAll_33 : decode cX8_readAll 33 = .ok (.dup, 1) := by decide +kernel
theorem dX8_readAll_34 : decode cX8_readAll 34 = .ok (.getfield 176, 3) := by decide +kernel
theorem dX8_readAll_37 : decode cX8_readAll 37 = .ok (.iconst 1, 1) := by decide +kernel
theorem dX8_readAll_38 : decode cX8_readAll 38 = .ok (.iadd, 1) := by decide +kernel
theorem dX8_readAll_39 : decode cX8_readAll 39 = .ok (.putfield 176, 3) := by decide +kernel
theorem dX8_readAll_42 : decode cX8_readAll 42 = .ok (.aload_n 0, 1) := by decide +kernel
theorem dX8_readAll_43 : decode cX8_readAll 43 = .ok (.invokevirtual 167, 3) := by decide +kernel
theorem dX8_readAll_46 : decode cX8_readAll 46 = .ok (.goto (-32), 3) := by decide +kernel
theorem dX8_readAll_49 : decode cX8_readAll 49 = .ok (.iconst 1, 1) := by decide +kernel
theorem dX8_readAll_50 : decode cX8_readAll 50 = .ok (.ireturn, 1) := by decide +kernel
set_option maxRecDepth 20000 in
theorem ggX8_load_X8_readAll : GoodIn wsX8_load wsX8_readAll := goodIn_r _ [10, 11, 5, 12, 13, 14, 15, 9, 16, 3, 4, 17, 18, 19, 20, 21, 22, 23, 24, 25, 26, 27, 28, 29, 30, 31, 32, 33, 34, 35, 36, 37, 38, 39, 40, 41, 42, 43, 44, 45, 46, 47, 48, 49, 50, 51, 2, 52, 53, 54, 55, 56, 57, 58, 59, 60, 61, 62, 63, 64, 71, 72, 73, 74, 75, 76, 77, 78, 79, 80, 81, 82, 83, 84, 85, 86, 87, 88, 89] (by decide +kernel) (by decide +kernel)
set_option maxRecDepth 20000 in
theorem gX8_load_X8_readAll : GoodIn wsX8_load (wsV RX8 185 RX8 yX8_readAll wsX8_readAll) := goodIn_app (goodIn_of _ (by decide +kernel)) ggX8_load_X8_readAll
set_option maxRecDepth 20000 in
theorem ggX8_load_X8_record : GoodIn wsX8_load wsX8_record := goodIn_r _ [68, 69, 70, 71, 72, 73, 74, 75, 76, 77, 78, 79, 80, 81, 82, 83, 84, 85, 86, 87, 88, 89] (by decide +kernel) (by decide +kernel)
set_option maxRecDepth 20000 in
theorem gX8_load_X8_record : GoodIn wsX8_load (wsV RX8 65 RX8 yX8_record wsX8_record) := goodIn_app (goodIn_of _ (by decide +kernel)) ggX8_load_X8_record
theorem dX8_load_0 : decode cX8_load 0 = .ok (.iconst 0, 1) := by decide +kernel
theorem dX8_load_1 : decode cX8_load 1 = .ok (.istore_n 1, 1) := by decide +kernel
theorem dX8_load_2 : decode cX8_load 2 = .ok (.iload_n 1, 1) := by decide +kernel
theorem dX8_load_3 : decode cX8_load 3 = .ok (.bipush 88, 2) := by decide +kernel
theorem dX8_load_5 : decode cX8_load 5 = .ok (.if_icmp .ge 21, 3) := by decide +kernel
theorem dX8_load_8 : decode cX8_load 8 = .ok (.aload_n 0, 1) := by decide +kernel
theorem dX8_load_9 : decode cX8_load 9 = .ok (.getfield 28, 3) := by decide +kernel
theorem dX8_load_12 : decode cX8_load 12 = .ok (.iload_n 1, 1) := by decide +kernel
theorem dX8_load_13 : decode cX8_load 13 = .ok (.aload_n 0, 1) := by decide +kernel
theorem dX8_load_14 : decode cX8_load 14 = .ok (.getfield 7, 3) := by decide +kernel
theorem dX8_load_17 : decode cX8_load 17 = .ok (.iload_n 1, 1) := by decide +kernel
theorem dX8_load_18 : decode cX8_load 18 = .ok (.iaload, 1) := by decide +kernel
theorem dX8_load_19 : decode cX8_load 19 = .ok (.iastore, 1) := by decide +kernel
theorem dX8_load_20 : decode cX8_load 20 = .ok (.iinc 1 1, 3) := by decide +kernel
theorem dX8_load_23 : decode cX8_load 23 = .ok (.goto (-21), 3) := by decide +kernel
theorem dX8_load_26 : decode cX8_load 26 = .ok (.aload_n 0, 1) := by decide +kernel
theorem dX8_load_27 : decode cX8_load 27 = .ok (.invokevirtual 185, 3) := by decide +kernel
theorem dX8_load_30 : decode cX8_load 30 = .ok (.ifCond .ne 38, 3) := by decide +kernel
theorem dX8_load_33 : decode cX8_load 33 = .ok (.iconst 0, 1) := by decide +kernel
theorem dX8_load_34 : decode cX8_load 34 = .ok (.istore_n 1, 1) := by decide +kernel
theorem dX8_load_35 : decode cX8_load 35 = .ok (.iload_n 1, 1) := by decide +kernel
theorem dX8_load_36 : decode cX8_load 36 = .ok (.bipush 88, 2) := by decide +kernel
theorem dX8_load_38 : decode cX8_load 38 = .ok (.if_icmp .ge 21, 3) := by decide +kernel
theorem dX8_load_41 : decode cX8_load 41 = .ok (.aload_n 0, 1) := by decide +kernel
theorem dX8_load_42 : decode cX8_load 42 = .ok (.getfield 7, 3) := by decide +kernel
theorem dX8_load_45 : decode cX8_load 45 = .ok (.iload_n 1, 1) := by decide +kernel
theorem dX8_load_46 : decode cX8_load 46 = .ok (.aload_n 0, 1) := by decide +kernel
theorem dX8_load_47 : decode cX8_load 47 = .ok (.getfield 28, 3) := by decide +kernel
theorem dX8_load_50 : decode cX8_load 50 = .ok (.iload_n 1, 1) := by decide +kernel
theorem dX8_load_51 : decode cX8_load 51 = .ok (.iaload, 1) := by decide +kernel
theorem dX8_load_52 : decode cX8_load 52 = .ok (.iastore, 1) := by decide +kernel
theorem dX8_load_53 : decode cX8_load 53 = .ok (.iinc 1 1, 3) := by decide +kernel
theorem dX8_load_56 : decode cX8_load 56 = .ok (.goto (-21), 3) := by decide +kernel
theorem dX8_load_59 : decode cX8_load 59 = .ok (.sipush (-1000), 3) := by decide +kernel
theorem dX8_load_62 : decode cX8_load 62 = .ok (.aload_n 0, 1) := by decide +kernel
theorem dX8_load_63 : decode cX8_load 63 = .ok (.getfield 158, 3) := by decide +kernel
theorem dX8_load_66 : decode cX8_load 66 = .ok (.isub, 1) := by decide +kernel
theorem dX8_load_67 : decode cX8_load 67 = .ok (.ireturn, 1) := by decide +kernel
theorem dX8_load_68 : decode cX8_load 68 = .ok (.aload_n 0, 1) := by decide +kernel
theorem dX8_load_69 : decode cX8_load 69 = .ok (.aload_n 0, 1) := by decide +kernel
theorem dX8_load_70 : decode cX8_load 70 = .ok (.getfield 28, 3) := by decide +kernel
theorem dX8_load_73 : decode cX8_load 73 = .ok (.invokevirtual 65, 3) := by decide +kernel
theorem dX8_load_76 : decode cX8_load 76 = .ok (.aload_n 0, 1) := by decide +kernel
theorem dX8_load_77 : decode cX8_load 77 = .ok (.iconst 0, 1) := by decide +kernel
theorem dX8_load_78 : decode cX8_load 78 = .ok (.putfield 127, 3) := by decide +kernel
theorem dX8_load_81 : decode cX8_load 81 = .ok (.aload_n 0, 1) := by decide +kernel
theorem dX8_load_82 : decode cX8_load 82 = .ok (.getfield 176, 3) := by decide +kernel
theorem dX8_load_85 : decode cX8_load 85 = .ok (.ireturn, 1) := by decide +kernel
theorem dX8_undo_0 : decode cX8_undo 0 = .ok (.aload_n 0, 1) := by decide +kernel
theorem dX8_undo_1 : decode cX8_undo 1 = .ok (.getfield 38, 3) := by decide +kernel
theorem dX8_undo_4 : decode cX8_undo 4 = .ok (.ifCond .ne 6, 3) := by decide +kernel
theorem dX8_undo_7 : decode cX8_undo 7 = .ok (.bipush (-102), 2) := by decide +kernel
theorem dX8_undo_9 : decode cX8_undo 9 = .ok (.ireturn, 1) := by decide +kernel
theorem dX8_undo_10 : decode cX8_undo 10 = .ok (.aload_n 0, 1) := by decide +kernel
theorem dX8_undo_11 : decode cX8_undo 11 = .ok (.dup, 1) := by decide +kernel
theorem dX8_undo_12 : decode cX8_undo 12 = .ok (.getfield 38, 3) := by decide +kernel
theorem dX8_undo_15 : decode cX8_undo 15 = .ok (.iconst 1, 1) := by decide +kernel
theorem dX8_undo_16 : decode cX8_undo 16 = .ok (.isub, 1) := by decide +kernel
theorem dX8_undo_17 : decode cX8_undo 17 = .ok (.putfield 38, 3) := by decide +kernel
theorem dX8_undo_20 : decode cX8_undo 20 = .ok (.iconst 0, 1) := by decide +kernel
theorem dX8_undo_21 : decode cX8_undo 21 = .ok (.istore_n 1, 1) := by decide +kernel
theorem dX8_undo_22 : decode cX8_undo 22 = .ok (.iload_n 1, 1) := by decide +kernel
theorem dX8_undo_23 : decode cX8_undo 23 = .ok (.bipush 88, 2) := by decide +kernel
theorem dX8_undo_25 : decode cX8_undo 25 = .ok (.if_icmp .ge 29, 3) := by decide +kernel
theorem dX8_undo_28 : decode cX8_undo 28 = .ok (.aload_n 0, 1) := by decide +kernel
theorem dX8_undo_29 : decode cX8_undo 29 = .ok (.getfield 7, 3) := by decide +kernel
theorem dX8_undo_32 : decode cX8_undo 32 = .ok (.iload_n 1, 1) := by decide +kernel
theorem dX8_undo_33 : decode cX8_undo 33 = .ok (.aload_n 0, 1) := by decide +kernel
theorem dX8_undo_34 : decode cX8_undo 34 = .ok (.getfield 13, 3) := by decide +kernel
theorem dX8_undo_37 : decode cX8_undo 37 = .ok (.bipush 88, 2) := by decide +kernel
theorem dX8_undo_39 : decode cX8_undo 39 = .ok (.aload_n 0, 1) := by decide +kernel
theorem dX8_undo_40 : decode cX8_undo 40 = .ok (.getfield 38, 3) := by decide +kernel
theorem dX8_undo_43 : decode cX8_undo 43 = .ok (.imul, 1) := by decide +kernel
theorem dX8_undo_44 : decode cX8_undo 44 = .ok (.iload_n 1, 1) := by decide +kernel
theorem dX8_undo_45 : decode cX8_undo 45 = .ok (.iadd, 1) := by decide +kernel
theorem dX8_undo_46 : decode cX8_undo 46 = .ok (.iaload, 1) := by decide +kernel
theorem dX8_undo_47 : decode cX8_undo 47 = .ok (.iastore, 1) := by decide +kernel
theorem dX8_undo_48 : decode cX8_undo 48 = .ok (.iinc 1 1, 3) := by decide +kernel
theorem dX8_undo_51 : decode cX8_undo 51 = .ok (.goto (-29), 3) := by decide +kernel
theorem dX8_undo_54 : decode cX8_undo 54 = .ok (.aload_n 0, 1) := by decide +kernel
theorem dX8_undo_55 : decode cX8_undo 55 = .ok (.getfield 38, 3) := by decide +kernel
theorem dX8_undo_58 : decode cX8_undo 58 = .ok (.ireturn, 1) := by decide +kernel
theorem dX8_unseen_0 : decode cX8_unseen 0 = .ok (.iconst 0, 1) := by decide +kernel
theorem dX8_unseen_1 : decode cX8_unseen 1 = .ok (.istore_n 1, 1) := by decide +kernel
theorem dX8_unseen_2 : decode cX8_unseen 2 = .ok (.iconst 0, 1) := by decide +kernel
theorem dX8_unseen_3 : decode cX8_unseen 3 = .ok (.istore_n 2, 1) := by decide +kernel
theorem dX8_unseen_4 : decode cX8_unseen 4 = .ok (.iload_n 2, 1) := by decide +kernel
theorem dX8_unseen_5 : decode cX8_unseen 5 = .ok (.aload_n 0, 1) := by decide +kernel
theorem dX8_unseen_6 : decode cX8_unseen 6 = .ok (.getfield 7, 3) := by decide +kernel
theorem dX8_unseen_9 : decode cX8_unseen 9 = .ok (.iconst 2, 1) := by decide +kernel
theorem dX8_unseen_10 : decode cX8_unseen 10 = .ok (.iaload, 1) := by decide +kernel
theorem dX8_unseen_11 : decode cX8_unseen 11 = .ok (.if_icmp .ge 26, 3) := by decide +kernel
theorem dX8_unseen_14 : decode cX8_unseen 14 = .ok (.iload_n 1, 1) := by decide +kernel
theorem dX8_unseen_15 : decode cX8_unseen 15 = .ok (.aload_n 0, 1) := by decide +kernel
theorem dX8_unseen_16 : decode cX8_unseen 16 = .ok (.getfield 22, 3) := by decide +kernel
theorem dX8_unseen_19 : decode cX8_unseen 19 = .ok (.iload_n 2, 1) := by decide +kernel
theorem dX8_unseen_20 : decode cX8_unseen 20 = .ok (.iaload, 1) := by decide +kernel
theorem dX8_unseen_21 : decode cX8_unseen 21 = .ok (.ifCond .ne 7, 3) := by decide +kernel
theorem dX8_unseen_24 : decode cX8_unseen 24 = .ok (.iconst 1, 1) := by decide +kernel
theorem dX8_unseen_25 : decode cX8_unseen 25 = .ok (.goto 4, 3) := by decide +kernel
theorem dX8_unseen_28 : decode cX8_unseen 28 = .ok (.iconst 0, 1) := by decide +kernel
theorem dX8_unseen_29 : decode cX8_unseen 29 = .ok (.iadd, 1) := by decide +kernel
theorem dX8_unseen_30 : decode cX8_unseen 30 = .ok (.istore_n 1, 1) := by decide +kernel
theorem dX8_unseen_31 : decode cX8_unseen 31 = .ok (.iinc 2 1, 3) := by decide +kernel
theorem dX8_unseen_34 : decode cX8_unseen 34 = .ok (.goto (-30), 3) := by decide +kernel
theorem dX8_unseen_37 : decode cX8_unseen 37 = .ok (.iload_n 1, 1) := by decide +kernel
theorem dX8_unseen_38 : decode cX8_unseen 38 = .ok (.ireturn, 1) := by decide +kernel
set_option maxRecDepth 20000 in
theorem ggX8_isCut_X8_of : GoodIn wsX8_isCut wsX8_of := goodIn_r _ [5, 6, 15, 16, 17, 18, 19, 20, 21, 22, 23, 24, 25, 26, 27, 28, 29, 30, 31, 32, 33] (by decide +kernel) (by decide +kernel)
set_option maxRecDepth 20000 in
theorem gX8_isCut_X8_of : GoodIn wsX8_isCut (wsV RX8 46 RX8 yX8_of wsX8_of) := goodIn_app (goodIn_of _ (by decide +kernel)) ggX8_isCut_X8_of
set_option maxRecDepth 20000 in
theorem ggX8_isCut_X8_isSeen : GoodIn wsX8_isCut wsX8_isSeen := goodIn_r _ [10, 6, 11, 12, 13, 4, 14, 15, 16, 17, 18, 19, 20, 21, 22, 23, 24, 25, 26, 27, 28, 29, 30, 31, 32, 33] (by decide +kernel) (by decide +kernel)
set_option maxRecDepth 20000 in
theorem gX8_isCut_X8_isSeen : GoodIn wsX8_isCut (wsV RX8 188 RX8 yX8_isSeen wsX8_isSeen) := goodIn_app (goodIn_of _ (by decide +kernel)) ggX8_isCut_X8_isSeen
theorem dX8_isCut_0 : decode cX8_isCut 0 = .ok (.aload_n 0, 1) := by decide +kernel
theorem dX8_isCut_1 : decode cX8_isCut 1 = .ok (.iload_n 1, 1) := by decide +kernel
theorem dX8_isCut_2 : decode cX8_isCut 2 = .ok (.iconst 5, 1) := by decide +kernel
theorem dX8_isCut_3 : decode cX8_isCut 3 = .ok (.invokevirtual 46, 3) := by decide +kernel
theorem dX8_isCut_6 : decode cX8_isCut 6 = .ok (.istore_n 3, 1) := by decide +kernel
theorem dX8_isCut_7 : decode cX8_isCut 7 = .ok (.iconst 0, 1) := by decide +kernel
theorem dX8_isCut_8 : decode cX8_isCut 8 = .ok (.istore 4, 2) := by decide +kernel
theorem dX8_isCut_10 : decode cX8_isCut 10 = .ok (.iconst 0, 1) := by decide +kernel
theorem dX8_isCut_11 : decode cX8_isCut 11 = .ok (.istore 5, 2) := by decide +kernel
theorem dX8_isCut_13 : decode cX8_isCut 13 = .ok (.iload 5, 2) := by decide +kernel
theorem dX8_isCut_15 : decode cX8_isCut 15 = .ok (.aload_n 0, 1) := by decide +kernel
theorem dX8_isCut_16 : decode cX8_isCut 16 = .ok (.iload_n 1, 1) := by decide +kernel
theorem dX8_isCut_17 : decode cX8_isCut 17 = .ok (.iconst 3, 1) := by decide +kernel
theorem dX8_isCut_18 : decode cX8_isCut 18 = .ok (.invokevirtual 46, 3) := by decide +kernel
theorem dX8_isCut_21 : decode cX8_isCut 21 = .ok (.if_icmp .ge 124, 3) := by decide +kernel
theorem dX8_isCut_24 : decode cX8_isCut 24 = .ok (.iconst 0, 1) := by decide +kernel
theorem dX8_isCut_25 : decode cX8_isCut 25 = .ok (.istore 6, 2) := by decide +kernel
theorem dX8_isCut_27 : decode cX8_isCut 27 = .ok (.iload 6, 2) := by decide +kernel
theorem dX8_isCut_29 : decode cX8_isCut 29 = .ok (.aload_n 0, 1) := by decide +kernel
theorem dX8_isCut_30 : decode cX8_isCut 30 = .ok (.iload_n 1, 1) := by decide +kernel
theorem dX8_isCut_31 : decode cX8_isCut 31 = .ok (.iconst 2, 1) := by decide +kernel
theorem dX8_isCut_32 : decode cX8_isCut 32 = .ok (.invokevirtual 46, 3) := by decide +kernel
theorem dX8_isCut_35 : decode cX8_isCut 35 = .ok (.if_icmp .ge 104, 3) := by decide +kernel
theorem dX8_isCut_38 : decode cX8_isCut 38 = .ok (.iload_n 2, 1) := by decide +kernel
theorem dX8_isCut_39 : decode cX8_isCut 39 = .ok (.ifCond .ne 8, 3) := by decide +kernel
theorem dX8_isCut_42 : decode cX8_isCut 42 = .ok (.iload 6, 2) := by decide +kernel
theorem dX8_isCut_44 : decode cX8_isCut 44 = .ok (.goto 43, 3) := by decide +kernel
theorem dX8_isCut_47 : decode cX8_isCut 47 = .ok (.iload_n 2, 1) := by decide +kernel
theorem dX8_isCut_48 : decode cX8_isCut 48 = .ok (.iconst 1, 1) := by decide +kernel
theorem dX8_isCut_49 : decode cX8_isCut 49 = .ok (.if_icmp .ne 8, 3) := by decide +kernel
theorem dX8_isCut_52 : decode cX8_isCut 52 = .ok (.iload 5, 2) := by decide +kernel
theorem dX8_isCut_54 : decode cX8_isCut 54 = .ok (.goto 33, 3) := by decide +kernel
theorem dX8_isCut_57 : decode cX8_isCut 57 = .ok (.iload_n 2, 1) := by decide +kernel
theorem dX8_isCut_58 : decode cX8_isCut 58 = .ok (.iconst 2, 1) := by decide +kernel
theorem dX8_isCut_59 : decode cX8_isCut 59 = .ok (.if_icmp .ne 17, 3) := by decide +kernel
theorem dX8_isCut_62 : decode cX8_isCut 62 = .ok (.aload_n 0, 1) := by decide +kernel
theorem dX8_isCut_63 : decode cX8_isCut 63 = .ok (.iload_n 1, 1) := by decide +kernel
theorem dX8_isCut_64 : decode cX8_isCut 64 = .ok (.iconst 2, 1) := by decide +kernel
theorem dX8_isCut_65 : decode cX8_isCut 65 = .ok (.invokevirtual 46, 3) := by decide +kernel
theorem dX8_isCut_68 : decode cX8_isCut 68 = .ok (.iconst 1, 1) := by decide +kernel
theorem dX8_isCut_69 : decode cX8_isCut 69 = .ok (.isub, 1) := by decide +kernel
theorem dX8_isCut_70 : decode cX8_isCut 70 = .ok (.iload 6, 2) := by decide +kernel
theorem dX8_isCut_72 : decode cX8_isCut 72 = .ok (.isub, 1) := by decide +kernel
theorem dX8_isCut_73 : decode cX8_isCut 73 = .ok (.goto 14, 3) := by decide +kernel
theorem dX8_isCut_76 : decode cX8_isCut 76 = .ok (.aload_n 0, 1) := by decide +kernel
theorem dX8_isCut_77 : decode cX8_isCut 77 = .ok (.iload_n 1, 1) := by decide +kernel
theorem dX8_isCut_78 : decode cX8_isCut 78 = .ok (.iconst 3, 1) := by decide +kernel
theorem dX8_isCut_79 : decode cX8_isCut 79 = .ok (.invokevirtual 46, 3) := by decide +kernel
theorem dX8_isCut_82 : decode cX8_isCut 82 = .ok (.iconst 1, 1) := by decide +kernel
theorem dX8_isCut_83 : decode cX8_isCut 83 = .ok (.isub, 1) := by decide +kernel
theorem dX8_isCut_84 : decode cX8_isCut 84 = .ok (.iload 5, 2) := by decide +kernel
theorem dX8_isCut_86 : decode cX8_isCut 86 = .ok (.isub, 1) := by decide +kernel
theorem dX8_isCut_87 : decode cX8_isCut 87 = .ok (.istore 7, 2) := by decide +kernel
theorem dX8_isCut_89 : decode cX8_isCut 89 = .ok (.iload 4, 2) := by decide +kernel
theorem dX8_isCut_91 : decode cX8_isCut 91 = .ok (.ifCond .ne 35, 3) := by decide +kernel
theorem dX8_isCut_94 : decode cX8_isCut 94 = .ok (.iload 7, 2) := by decide +kernel
theorem dX8_isCut_96 : decode cX8_isCut 96 = .ok (.iload_n 3, 1) := by decide +kernel
theorem dX8_isCut_97 : decode cX8_isCut 97 = .ok (.if_icmp .ge 33, 3) := by decide +kernel
theorem dX8_isCut_100 : decode cX8_isCut 100 = .ok (.aload_n 0, 1) := by decide +kernel
theorem dX8_isCut_101 : decode cX8_isCut 101 = .ok (.iload_n 1, 1) := by decide +kernel
theorem dX8_isCut_102 : decode cX8_isCut 102 = .ok (.aload_n 0, 1) := by decide +kernel
theorem dX8_isCut_103 : decode cX8_isCut 103 = .ok (.iload_n 1, 1) := by decide +kernel
theorem dX8_isCut_104 : decode cX8_isCut 104 = .ok (.iconst 0, 1) := by decide +kernel
theorem dX8_isCut_105 : decode cX8_isCut 105 = .ok (.invokevirtual 46, 3) := by decide +kernel
theorem dX8_isCut_108 : decode cX8_isCut 108 = .ok (.iload 6, 2) := by decide +kernel
theorem dX8_isCut_110 : decode cX8_isCut 110 = .ok (.iadd, 1) := by decide +kernel
theorem dX8_isCut_111 : decode cX8_isCut 111 = .ok (.aload_n 0, 1) := by decide +kernel
theorem dX8_isCut_112 : decode cX8_isCut 112 = .ok (.iload_n 1, 1) := by decide +kernel
theorem dX8_isCut_113 : decode cX8_isCut 113 = .ok (.iconst 1, 1) := by decide +kernel
theorem dX8_isCut_114 : decode cX8_isCut 114 = .ok (.invokevirtual 46, 3) := by decide +kernel
theorem dX8_isCut_117 : decode cX8_isCut 117 = .ok (.iload 5, 2) := by decide +kernel
theorem dX8_isCut_119 : decode cX8_isCut 119 = .ok (.iadd, 1) := by decide +kernel
theorem dX8_isCut_120 : decode cX8_isCut 120 = .ok (.invokevirtual 188, 3) := by decide +kernel
theorem dX8_isCut_123 : decode cX8_isCut 123 = .ok (.ifCond .ne 7, 3) := by decide +kernel
theorem dX8_isCut_126 : decode cX8_isCut 126 = .ok (.iconst 1, 1) := by decide +kernel
theorem dX8_isCut_127 : decode cX8_isCut 127 = .ok (.goto 4, 3) := by decide +kernel
theorem dX8_isCut_130 : decode cX8_isCut 130 = .ok (.iconst 0, 1) := by decide +kernel
theorem dX8_isCut_131 : decode cX8_isCut 131 = .ok (.istore 4, 2) := by decide +kernel
theorem dX8_isCut_133 : decode cX8_isCut 133 = .ok (.iinc 6 1, 3) := by decide +kernel
theorem dX8_isCut_136 : decode cX8_isCut 136 = .ok (.goto (-109), 3) := by decide +kernel
theorem dX8_isCut_139 : decode cX8_isCut 139 = .ok (.iinc 5 1, 3) := by decide +kernel
theorem dX8_isCut_142 : decode cX8_isCut 142 = .ok (.goto (-129), 3) := by decide +kernel
theorem dX8_isCut_145 : decode cX8_isCut 145 = .ok (.iload 4, 2) := by decide +kernel
theorem dX8_isCut_147 : decode cX8_isCut 147 = .ok (.ireturn, 1) := by decide +kernel
set_option maxRecDepth 20000 in
theorem ggX8_cuts_X8_isCut : GoodIn wsX8_cuts wsX8_isCut := goodIn_r _ [5, 6, 7, 8, 4, 9, 10, 11, 12, 13, 14, 15, 16, 17, 18, 19, 20, 21, 22, 23, 24, 25, 26, 27, 28, 29, 30, 31, 32, 33, 34, 35, 36, 37] (by decide +kernel) (by decide +kernel)
set_option maxRecDepth 20000 in
theorem gX8_cuts_X8_isCut : GoodIn wsX8_cuts (wsV RX8 191 RX8 yX8_isCut wsX8_isCut) := goodIn_app (goodIn_of _ (by decide +kernel)) ggX8_cuts_X8_isCut
theorem dX8_cuts_0 : decode cX8_cuts 0 = .ok (.iconst 0, 1) := by decide +kernel
theorem dX8_cuts_1 : decode cX8_cuts 1 = .ok (.istore_n 2, 1) := by decide +kernel
theorem dX8_cuts_2 : decode cX8_cuts 2 = .ok (.iconst 0, 1) := by decide +kernel
theorem dX8_cuts_3 : decode cX8_cuts 3 = .ok (.istore_n 3, 1) := by decide +kernel
theorem dX8_cuts_4 : decode cX8_cuts 4 = .ok (.iload_n 3, 1) := by decide +kernel
theorem dX8_cuts_5 : decode cX8_cuts 5 = .ok (.iconst 4, 1) := by decide +kernel
theorem dX8_cuts_6 : decode cX8_cuts 6 = .ok (.if_icmp .ge 28, 3) := by decide +kernel
theorem dX8_cuts_9 : decode cX8_cuts 9 = .ok (.iload_n 2, 1) := by decide +kernel
theorem dX8_cuts_10 : decode cX8_cuts 10 = .ok (.aload_n 0, 1) := by decide +kernel
theorem dX8_cuts_11 : decode cX8_cuts 11 = .ok (.iload_n 1, 1) := by decide +kernel
theorem dX8_cuts_12 : decode cX8_cuts 12 = .ok (.iload_n 3, 1) := by decide +kernel
theorem dX8_cuts_13 : decode cX8_cuts 13 = .ok (.invokevirtual 191, 3) := by decide +kernel
theorem dX8_cuts_16 : decode cX8_cuts 16 = .ok (.ifCond .eq 9, 3) := by decide +kernel
theorem dX8_cuts_19 : decode cX8_cuts 19 = .ok (.iconst 1, 1) := by decide +kernel
theorem dX8_cuts_20 : decode cX8_cuts 20 = .ok (.iload_n 3, 1) := by decide +kernel
theorem dX8_cuts_21 : decode cX8_cuts 21 = .ok (.ishl, 1) := by decide +kernel
theorem dX8_cuts_22 : decode cX8_cuts 22 = .ok (.goto 4, 3) := by decide +kernel
theorem dX8_cuts_25 : decode cX8_cuts 25 = .ok (.iconst 0, 1) := by decide +kernel
theorem dX8_cuts_26 : decode cX8_cuts 26 = .ok (.ior, 1) := by decide +kernel
theorem dX8_cuts_27 : decode cX8_cuts 27 = .ok (.istore_n 2, 1) := by decide +kernel
theorem dX8_cuts_28 : decode cX8_cuts 28 = .ok (.iinc 3 1, 3) := by decide +kernel
theorem dX8_cuts_31 : decode cX8_cuts 31 = .ok (.goto (-27), 3) := by decide +kernel
theorem dX8_cuts_34 : decode cX8_cuts 34 = .ok (.iload_n 2, 1) := by decide +kernel
theorem dX8_cuts_35 : decode cX8_cuts 35 = .ok (.ireturn, 1) := by decide +kernel
set_option maxRecDepth 20000 in
theorem ggX8_whole_X8_of : GoodIn wsX8_whole wsX8_of := goodIn_r _ [6, 1, 23, 24, 25, 26, 27, 28, 29, 30, 31, 32, 33, 34, 35, 36, 37, 38, 39, 40, 41] (by decide +kernel) (by decide +kernel)
set_option maxRecDepth 20000 in
theorem gX8_whole_X8_of : GoodIn wsX8_whole (wsV RX8 46 RX8 yX8_of wsX8_of) := goodIn_app (goodIn_of _ (by decide +kernel)) ggX8_whole_X8_of
set_option maxRecDepth 20000 in
theorem ggX8_whole_X8_cuts : GoodIn wsX8_whole wsX8_cuts := goodIn_r _ [10, 11, 12, 13, 5, 14, 2, 3, 4, 6, 1, 15, 16, 17, 18, 19, 20, 21, 22, 23, 24, 25, 26, 27, 28, 29, 30, 31, 32, 33, 34, 35, 36, 37, 38, 39, 40, 41] (by decide +kernel) (by decide +kernel)
set_option maxRecDepth 20000 in
theorem gX8_whole_X8_cuts : GoodIn wsX8_whole (wsV RX8 195 RX8 yX8_cuts wsX8_cuts) := goodIn_app (goodIn_of _ (by decide +kernel)) ggX8_whole_X8_cuts
theorem dX8_whole_0 : decode cX8_whole 0 = .ok (.iconst 0, 1) := by decide +kernel
theorem dX8_whole_1 : decode cX8_whole 1 = .ok (.istore_n 1, 1) := by decide +kernel
theorem dX8_whole_2 : decode cX8_whole 2 = .ok (.iconst 0, 1) := by decide +kernel
theorem dX8_whole_3 : decode cX8_whole 3 = .ok (.istore_n 2, 1) := by decide +kernel
theorem dX8_whole_4 : decode cX8_whole 4 = .ok (.iload_n 2, 1) := by decide +kernel
theorem dX8_whole_5 : decode cX8_whole 5 = .ok (.aload_n 0, 1) := by decide +kernel
theorem dX8_whole_6 : decode cX8_whole 6 = .ok (.getfield 7, 3) := by decide +kernel
theorem dX8_whole_9 : decode cX8_whole 9 = .ok (.iconst 2, 1) := by decide +kernel
theorem dX8_whole_10 : decode cX8_whole 10 = .ok (.iaload, 1) := by decide +kernel
theorem dX8_whole_11 : decode cX8_whole 11 = .ok (.if_icmp .ge 34, 3) := by decide +kernel
theorem dX8_whole_14 : decode cX8_whole 14 = .ok (.iload_n 1, 1) := by decide +kernel
theorem dX8_whole_15 : decode cX8_whole 15 = .ok (.aload_n 0, 1) := by decide +kernel
theorem dX8_whole_16 : decode cX8_whole 16 = .ok (.iload_n 2, 1) := by decide +kernel
theorem dX8_whole_17 : decode cX8_whole 17 = .ok (.iconst 5, 1) := by decide +kernel
theorem dX8_whole_18 : decode cX8_whole 18 = .ok (.invokevirtual 46, 3) := by decide +kernel
theorem dX8_whole_21 : decode cX8_whole 21 = .ok (.ifCond .le 15, 3) := by decide +kernel
theorem dX8_whole_24 : decode cX8_whole 24 = .ok (.aload_n 0, 1) := by decide +kernel
theorem dX8_whole_25 : decode cX8_whole 25 = .ok (.iload_n 2, 1) := by decide +kernel
theorem dX8_whole_26 : decode cX8_whole 26 = .ok (.invokevirtual 195, 3) := by decide +kernel
theorem dX8_whole_29 : decode cX8_whole 29 = .ok (.ifCond .ne 7, 3) := by decide +kernel
theorem dX8_whole_32 : decode cX8_whole 32 = .ok (.iconst 1, 1) := by decide +kernel
theorem dX8_whole_33 : decode cX8_whole 33 = .ok (.goto 4, 3) := by decide +kernel
theorem dX8_whole_36 : decode cX8_whole 36 = .ok (.iconst 0, 1) := by decide +kernel
theorem dX8_whole_37 : decode cX8_whole 37 = .ok (.iadd, 1) := by decide +kernel
theorem dX8_whole_38 : decode cX8_whole 38 = .ok (.istore_n 1, 1) := by decide +kernel
theorem dX8_whole_39 : decode cX8_whole 39 = .ok (.iinc 2 1, 3) := by decide +kernel
theorem dX8_whole_42 : decode cX8_whole 42 = .ok (.goto (-38), 3) := by decide +kernel
theorem dX8_whole_45 : decode cX8_whole 45 = .ok (.iload_n 1, 1) := by decide +kernel
theorem dX8_whole_46 : decode cX8_whole 46 = .ok (.ireturn, 1) := by decide +kernel
theorem dX8_pageSeen_0 : decode cX8_pageSeen 0 = .ok (.aload_n 0, 1) := by decide +kernel
theorem dX8_pageSeen_1 : decode cX8_pageSeen 1 = .ok (.getfield 7, 3) := by decide +kernel
theorem dX8_pageSeen_4 : decode cX8_pageSeen 4 = .ok (.iconst 0, 1) := by decide +kernel
theorem dX8_pageSeen_5 : decode cX8_pageSeen 5 = .ok (.iaload, 1) := by decide +kernel
theorem dX8_pageSeen_6 : decode cX8_pageSeen 6 = .ok (.aload_n 0, 1) := by decide +kernel
theorem dX8_pageSeen_7 : decode cX8_pageSeen 7 = .ok (.getfield 7, 3) := by decide +kernel
theorem dX8_pageSeen_10 : decode cX8_pageSeen 10 = .ok (.iconst 1, 1) := by decide +kernel
theorem dX8_pageSeen_11 : decode cX8_pageSeen 11 = .ok (.iaload, 1) := by decide +kernel
theorem dX8_pageSeen_12 : decode cX8_pageSeen 12 = .ok (.imul, 1) := by decide +kernel
theorem dX8_pageSeen_13 : decode cX8_pageSeen 13 = .ok (.istore_n 1, 1) := by decide +kernel
theorem dX8_pageSeen_14 : decode cX8_pageSeen 14 = .ok (.iconst 0, 1) := by decide +kernel
theorem dX8_pageSeen_15 : decode cX8_pageSeen 15 = .ok (.istore_n 2, 1) := by decide +kernel
theorem dX8_pageSeen_16 : decode cX8_pageSeen 16 = .ok (.iload_n 2, 1) := by decide +kernel
theorem dX8_pageSeen_17 : decode cX8_pageSeen 17 = .ok (.aload_n 0, 1) := by decide +kernel
theorem dX8_pageSeen_18 : decode cX8_pageSeen 18 = .ok (.getfield 7, 3) := by decide +kernel
theorem dX8_pageSeen_21 : decode cX8_pageSeen 21 = .ok (.iconst 2, 1) := by decide +kernel
theorem dX8_pageSeen_22 : decode cX8_pageSeen 22 = .ok (.iaload, 1) := by decide +kernel
theorem dX8_pageSeen_23 : decode cX8_pageSeen 23 = .ok (.if_icmp .ge 18, 3) := by decide +kernel
theorem dX8_pageSeen_26 : decode cX8_pageSeen 26 = .ok (.iload_n 1, 1) := by decide +kernel
theorem dX8_pageSeen_27 : decode cX8_pageSeen 27 = .ok (.aload_n 0, 1) := by decide +kernel
theorem dX8_pageSeen_28 : decode cX8_pageSeen 28 = .ok (.getfield 22, 3) := by decide +kernel
theorem dX8_pageSeen_31 : decode cX8_pageSeen 31 = .ok (.iload_n 2, 1) := by decide +kernel
theorem dX8_pageSeen_32 : decode cX8_pageSeen 32 = .ok (.iaload, 1) := by decide +kernel
theorem dX8_pageSeen_33 : decode cX8_pageSeen 33 = .ok (.isub, 1) := by decide +kernel
theorem dX8_pageSeen_34 : decode cX8_pageSeen 34 = .ok (.istore_n 1, 1) := by decide +kernel
theorem dX8_pageSeen_35 : decode cX8_pageSeen 35 = .ok (.iinc 2 1, 3) := by decide +kernel
theorem dX8_pageSeen_38 : decode cX8_pageSeen 38 = .ok (.goto (-22), 3) := by decide +kernel
theorem dX8_pageSeen_41 : decode cX8_pageSeen 41 = .ok (.iload_n 1, 1) := by decide +kernel
theorem dX8_pageSeen_42 : decode cX8_pageSeen 42 = .ok (.ireturn, 1) := by decide +kernel
set_option maxRecDepth 20000 in
theorem ggX8_count_X8_paint : GoodIn wsX8_count wsX8_paint := goodIn_r _ [8, 9, 10, 11, 7, 12, 1, 13, 14, 15, 16, 17, 18, 19, 20, 21, 22, 62, 63, 64, 65, 66, 67, 68, 69, 70, 71, 72, 73, 74, 75, 76, 77, 78, 79, 80] (by decide +kernel) (by decide +kernel)
set_option maxRecDepth 20000 in
theorem gX8_count_X8_paint : GoodIn wsX8_count (wsV RX8 69 RX8 yX8_paint wsX8_paint) := goodIn_app (goodIn_of _ (by decide +kernel)) ggX8_count_X8_paint
set_option maxRecDepth 20000 in
theorem ggX8_count_X8_contents : GoodIn wsX8_count wsX8_contents := goodIn_r _ [26, 1, 27, 28, 29, 7, 30, 14, 19, 20, 21, 22, 31, 32, 33, 34, 62, 63, 64, 65, 66, 67, 68, 69, 70, 71, 72, 73, 74, 75, 76, 77, 78, 79, 80] (by decide +kernel) (by decide +kernel)
set_option maxRecDepth 20000 in
theorem gX8_count_X8_contents : GoodIn wsX8_count (wsV RX8 72 RX8 yX8_contents wsX8_contents) := goodIn_app (goodIn_of _ (by decide +kernel)) ggX8_count_X8_contents
set_option maxRecDepth 20000 in
theorem ggX8_count_X8_unseen : GoodIn wsX8_count wsX8_unseen := goodIn_r _ [38, 1, 14, 62, 63, 64, 65, 66, 67, 68, 69, 70, 71, 72, 73, 74, 75, 76, 77, 78, 79, 80] (by decide +kernel) (by decide +kernel)
set_option maxRecDepth 20000 in
theorem gX8_count_X8_unseen : GoodIn wsX8_count (wsV RX8 198 RX8 yX8_unseen wsX8_unseen) := goodIn_app (goodIn_of _ (by decide +kernel)) ggX8_count_X8_unseen
set_option maxRecDepth 20000 in
theorem ggX8_count_X8_whole : GoodIn wsX8_count wsX8_whole := goodIn_r _ [42, 1, 19, 20, 21, 7, 22, 43, 44, 45, 46, 47, 48, 49, 50, 51, 52, 53, 54, 13, 55, 56, 57, 62, 63, 64, 65, 66, 67, 68, 69, 70, 71, 72, 73, 74, 75, 76, 77, 78, 79, 80] (by decide +kernel) (by decide +kernel)
set_option maxRecDepth 20000 in
theorem gX8_count_X8_whole : GoodIn wsX8_count (wsV RX8 201 RX8 yX8_whole wsX8_whole) := goodIn_app (goodIn_of _ (by decide +kernel)) ggX8_count_X8_whole
set_option maxRecDepth 20000 in
theorem ggX8_count_X8_pageSeen : GoodIn wsX8_count wsX8_pageSeen := goodIn_r _ [61, 1, 14, 62, 63, 64, 65, 66, 67, 68, 69, 70, 71, 72, 73, 74, 75, 76, 77, 78, 79, 80] (by decide +kernel) (by decide +kernel)
set_option maxRecDepth 20000 in
theorem gX8_count_X8_pageSeen : GoodIn wsX8_count (wsV RX8 204 RX8 yX8_pageSeen wsX8_pageSeen) := goodIn_app (goodIn_of _ (by decide +kernel)) ggX8_count_X8_pageSeen
theorem dX8_count_0 : decode cX8_count 0 = .ok (.aload_n 0, 1) := by decide +kernel
theorem dX8_count_1 : decode cX8_count 1 = .ok (.invokevirtual 69, 3) := by decide +kernel
theorem dX8_count_4 : decode cX8_count 4 = .ok (.iload_n 1, 1) := by decide +kernel
theorem dX8_count_5 : decode cX8_count 5 = .ok (.tableswitch 115 0 9 #[55, 62, 69, 76, 83, 88, 93, 98, 105, 110], 55) := by decide +kernel
theorem dX8_count_60 : decode cX8_count 60 = .ok (.aload_n 0, 1) := by decide +kernel
theorem dX8_count_61 : decode cX8_count 61 = .ok (.getfield 7, 3) := by decide +kernel
theorem dX8_count_64 : decode cX8_count 64 = .ok (.iconst 2, 1) := by decide +kernel
theorem dX8_count_65 : decode cX8_count 65 = .ok (.iaload, 1) := by decide +kernel
theorem dX8_count_66 : decode cX8_count 66 = .ok (.ireturn, 1) := by decide +kernel
theorem dX8_count_67 : decode cX8_count 67 = .ok (.aload_n 0, 1) := by decide +kernel
theorem dX8_count_68 : decode cX8_count 68 = .ok (.getfield 7, 3) := by decide +kernel
theorem dX8_count_71 : decode cX8_count 71 = .ok (.iconst 0, 1) := by decide +kernel
theorem dX8_count_72 : decode cX8_count 72 = .ok (.iaload, 1) := by decide +kernel
theorem dX8_count_73 : decode cX8_count 73 = .ok (.ireturn, 1) := by decide +kernel
theorem dX8_count_74 : decode cX8_count 74 = .ok (.aload_n 0, 1) := by decide +kernel
theorem dX8_count_75 : decode cX8_count 75 = .ok (.getfield 7, 3) := by decide +kernel
theorem dX8_count_78 : decode cX8_count 78 = .ok (.iconst 1, 1) := by decide +kernel
theorem dX8_count_79 : decode cX8_count 79 = .ok (.iaload, 1) := by decide +kernel
theorem dX8_count_80 : decode cX8_count 80 = .ok (.ireturn, 1) := by decide +kernel
theorem dX8_count_81 : decode cX8_count 81 = .ok (.aload_n 0, 1) := by decide +kernel
theorem dX8_count_82 : decode cX8_count 82 = .ok (.bipush (-109), 2) := by decide +kernel
theorem dX8_count_84 : decode cX8_count 84 = .ok (.invokevirtual 72, 3) := by decide +kernel
theorem dX8_count_87 : decode cX8_count 87 = .ok (.ireturn, 1) := by decide +kernel
theorem dX8_count_88 : decode cX8_count 88 = .ok (.aload_n 0, 1) := by decide +kernel
theorem dX8_count_89 : decode cX8_count 89 = .ok (.invokevirtual 198, 3) := by decide +kernel
theorem dX8_count_92 : decode cX8_count 92 = .ok (.ireturn, 1) := by decide +kernel
theorem dX8_count_93 : decode cX8_count 93 = .ok (.aload_n 0, 1) := by decide +kernel
theorem dX8_count_94 : decode cX8_count 94 = .ok (.invokevirtual 201, 3) := by decide +kernel
theorem dX8_count_97 : decode cX8_count 97 = .ok (.ireturn, 1) := by decide +kernel
theorem dX8_count_98 : decode cX8_count 98 = .ok (.aload_n 0, 1) := by decide +kernel
theorem dX8_count_99 : decode cX8_count 99 = .ok (.invokevirtual 204, 3) := by decide +kernel
theorem dX8_count_102 : decode cX8_count 102 = .ok (.ireturn, 1) := by decide +kernel
theorem dX8_count_103 : decode cX8_count 103 = .ok (.aload_n 0, 1) := by decide +kernel
theorem dX8_count_104 : decode cX8_count 104 = .ok (.getfield 7, 3) := by decide +kernel
theorem dX8_count_107 : decode cX8_count 107 = .ok (.iconst 3, 1) := by decide +kernel
theorem dX8_count_108 : decode cX8_count 108 = .ok (.iaload, 1) := by decide +kernel
theorem dX8_count_109 : decode cX8_count 109 = .ok (.ireturn, 1) := by decide +kernel
theorem dX8_count_110 : decode cX8_count 110 = .ok (.aload_n 0, 1) := by decide +kernel
theorem dX8_count_111 : decode cX8_count 111 = .ok (.getfield 38, 3) := by decide +kernel
theorem dX8_count_114 : decode cX8_count 114 = .ok (.ireturn, 1) := by decide +kernel
theorem dX8_count_115 : decode cX8_count 115 = .ok (.aload_n 0, 1) := by decide +kernel
theorem dX8_count_116 : decode cX8_count 116 = .ok (.getfield 127, 3) := by decide +kernel
theorem dX8_count_119 : decode cX8_count 119 = .ok (.ireturn, 1) := by decide +kernel
theorem dX8_count_120 : decode cX8_count 120 = .ok (.bipush (-101), 2) := by decide +kernel
theorem dX8_count_122 : decode cX8_count 122 = .ok (.ireturn, 1) := by decide +kernel
set_option maxRecDepth 20000 in
theorem ggX8_goTo_X8_isSeen : GoodIn wsX8_goTo wsX8_isSeen := goodIn_r _ [9, 2, 10, 11, 12, 8, 13, 14, 15, 16, 17, 18, 19, 20, 21, 22, 23, 24, 25, 26, 27, 28, 29, 30, 31, 32] (by decide +kernel) (by decide +kernel)
set_option maxRecDepth 20000 in
theorem gX8_goTo_X8_isSeen : GoodIn wsX8_goTo (wsV RX8 188 RX8 yX8_isSeen wsX8_isSeen) := goodIn_app (goodIn_of _ (by decide +kernel)) ggX8_goTo_X8_isSeen
theorem dX8_goTo_0 : decode cX8_goTo 0 = .ok (.aload_n 0, 1) := by decide +kernel
theorem dX8_goTo_1 : decode cX8_goTo 1 = .ok (.iload_n 1, 1) := by decide +kernel
theorem dX8_goTo_2 : decode cX8_goTo 2 = .ok (.iload_n 2, 1) := by decide +kernel
theorem dX8_goTo_3 : decode cX8_goTo 3 = .ok (.iload_n 3, 1) := by decide +kernel
theorem dX8_goTo_4 : decode cX8_goTo 4 = .ok (.invokevirtual 188, 3) := by decide +kernel
theorem dX8_goTo_7 : decode cX8_goTo 7 = .ok (.ifCond .eq 66, 3) := by decide +kernel
theorem dX8_goTo_10 : decode cX8_goTo 10 = .ok (.aload_n 0, 1) := by decide +kernel
theorem dX8_goTo_11 : decode cX8_goTo 11 = .ok (.getfield 31, 3) := by decide +kernel
theorem dX8_goTo_14 : decode cX8_goTo 14 = .ok (.aload_n 0, 1) := by decide +kernel
theorem dX8_goTo_15 : decode cX8_goTo 15 = .ok (.getfield 7, 3) := by decide +kernel
theorem dX8_goTo_18 : decode cX8_goTo 18 = .ok (.iconst 0, 1) := by decide +kernel
theorem dX8_goTo_19 : decode cX8_goTo 19 = .ok (.iaload, 1) := by decide +kernel
theorem dX8_goTo_20 : decode cX8_goTo 20 = .ok (.iload_n 3, 1) := by decide +kernel
theorem dX8_goTo_21 : decode cX8_goTo 21 = .ok (.imul, 1) := by decide +kernel
theorem dX8_goTo_22 : decode cX8_goTo 22 = .ok (.iload_n 2, 1) := by decide +kernel
theorem dX8_goTo_23 : decode cX8_goTo 23 = .ok (.iadd, 1) := by decide +kernel
theorem dX8_goTo_24 : decode cX8_goTo 24 = .ok (.baload, 1) := by decide +kernel
theorem dX8_goTo_25 : decode cX8_goTo 25 = .ok (.ifCond .ne 48, 3) := by decide +kernel
theorem dX8_goTo_28 : decode cX8_goTo 28 = .ok (.aload_n 0, 1) := by decide +kernel
theorem dX8_goTo_29 : decode cX8_goTo 29 = .ok (.getfield 31, 3) := by decide +kernel
theorem dX8_goTo_32 : decode cX8_goTo 32 = .ok (.aload_n 0, 1) := by decide +kernel
theorem dX8_goTo_33 : decode cX8_goTo 33 = .ok (.getfield 7, 3) := by decide +kernel
theorem dX8_goTo_36 : decode cX8_goTo 36 = .ok (.iconst 0, 1) := by decide +kernel
theorem dX8_goTo_37 : decode cX8_goTo 37 = .ok (.iaload, 1) := by decide +kernel
theorem dX8_goTo_38 : decode cX8_goTo 38 = .ok (.iload_n 3, 1) := by decide +kernel
theorem dX8_goTo_39 : decode cX8_goTo 39 = .ok (.imul, 1) := by decide +kernel
theorem dX8_goTo_40 : decode cX8_goTo 40 = .ok (.iload_n 2, 1) := by decide +kernel
theorem dX8_goTo_41 : decode cX8_goTo 41 = .ok (.iadd, 1) := by decide +kernel
theorem dX8_goTo_42 : decode cX8_goTo 42 = .ok (.iconst 1, 1) := by decide +kernel
theorem dX8_goTo_43 : decode cX8_goTo 43 = .ok (.bastore, 1) := by decide +kernel
theorem dX8_goTo_44 : decode cX8_goTo 44 = .ok (.aload_n 0, 1) := by decide +kernel
theorem dX8_goTo_45 : decode cX8_goTo 45 = .ok (.getfield 35, 3) := by decide +kernel
theorem dX8_goTo_48 : decode cX8_goTo 48 = .ok (.aload_n 0, 1) := by decide +kernel
theorem dX8_goTo_49 : decode cX8_goTo 49 = .ok (.getfield 207, 3) := by decide +kernel
theorem dX8_goTo_52 : decode cX8_goTo 52 = .ok (.aload_n 0, 1) := by decide +kernel
theorem dX8_goTo_53 : decode cX8_goTo 53 = .ok (.getfield 7, 3) := by decide +kernel
theorem dX8_goTo_56 : decode cX8_goTo 56 = .ok (.iconst 0, 1) := by decide +kernel
theorem dX8_goTo_57 : decode cX8_goTo 57 = .ok (.iaload, 1) := by decide +kernel
theorem dX8_goTo_58 : decode cX8_goTo 58 = .ok (.iload_n 3, 1) := by decide +kernel
theorem dX8_goTo_59 : decode cX8_goTo 59 = .ok (.imul, 1) := by decide +kernel
theorem dX8_goTo_60 : decode cX8_goTo 60 = .ok (.iload_n 2, 1) := by decide +kernel
theorem dX8_goTo_61 : decode cX8_goTo 61 = .ok (.iadd, 1) := by decide +kernel
theorem dX8_goTo_62 : decode cX8_goTo 62 = .ok (.iastore, 1) := by decide +kernel
theorem dX8_goTo_63 : decode cX8_goTo 63 = .ok (.aload_n 0, 1) := by decide +kernel
theorem dX8_goTo_64 : decode cX8_goTo 64 = .ok (.dup, 1) := by decide +kernel
theorem dX8_goTo_65 : decode cX8_goTo 65 = .ok (.getfield 207, 3) := by decide +kernel
theorem dX8_goTo_68 : decode cX8_goTo 68 = .ok (.iconst 1, 1) := by decide +kernel
theorem dX8_goTo_69 : decode cX8_goTo 69 = .ok (.iadd, 1) := by decide +kernel
theorem dX8_goTo_70 : decode cX8_goTo 70 = .ok (.putfield 207, 3) := by decide +kernel
theorem dX8_goTo_73 : decode cX8_goTo 73 = .ok (.return_, 1) := by decide +kernel
set_option maxRecDepth 20000 in
theorem ggX8_partAt_X8_goTo : GoodIn wsX8_partAt wsX8_goTo := goodIn_r _ [8, 9, 2, 3, 1, 10, 11, 12, 7, 13, 14, 15, 16, 17, 18, 19, 20, 21, 22, 23, 24, 25, 26, 27, 28, 29, 30, 31, 32, 33, 34, 35, 36] (by decide +kernel) (by decide +kernel)
set_option maxRecDepth 20000 in
theorem gX8_partAt_X8_goTo : GoodIn wsX8_partAt (wsV RX8 210 RX8 yX8_goTo wsX8_goTo) := goodIn_app (goodIn_of _ (by decide +kernel)) ggX8_partAt_X8_goTo
theorem dX8_partAt_0 : decode cX8_partAt 0 = .ok (.aload_n 0, 1) := by decide +kernel
theorem dX8_partAt_1 : decode cX8_partAt 1 = .ok (.iconst 0, 1) := by decide +kernel
theorem dX8_partAt_2 : decode cX8_partAt 2 = .ok (.putfield 207, 3) := by decide +kernel
theorem dX8_partAt_5 : decode cX8_partAt 5 = .ok (.aload_n 0, 1) := by decide +kernel
theorem dX8_partAt_6 : decode cX8_partAt 6 = .ok (.iload_n 1, 1) := by decide +kernel
theorem dX8_partAt_7 : decode cX8_partAt 7 = .ok (.iload_n 2, 1) := by decide +kernel
theorem dX8_partAt_8 : decode cX8_partAt 8 = .ok (.aload_n 0, 1) := by decide +kernel
theorem dX8_partAt_9 : decode cX8_partAt 9 = .ok (.getfield 7, 3) := by decide +kernel
theorem dX8_partAt_12 : decode cX8_partAt 12 = .ok (.iconst 0, 1) := by decide +kernel
theorem dX8_partAt_13 : decode cX8_partAt 13 = .ok (.iaload, 1) := by decide +kernel
theorem dX8_partAt_14 : decode cX8_partAt 14 = .ok (.irem, 1) := by decide +kernel
theorem dX8_partAt_15 : decode cX8_partAt 15 = .ok (.iload_n 2, 1) := by decide +kernel
theorem dX8_partAt_16 : decode cX8_partAt 16 = .ok (.aload_n 0, 1) := by decide +kernel
theorem dX8_partAt_17 : decode cX8_partAt 17 = .ok (.getfield 7, 3) := by decide +kernel
theorem dX8_partAt_20 : decode cX8_partAt 20 = .ok (.iconst 0, 1) := by decide +kernel
theorem dX8_partAt_21 : decode cX8_partAt 21 = .ok (.iaload, 1) := by decide +kernel
theorem dX8_partAt_22 : decode cX8_partAt 22 = .ok (.idiv, 1) := by decide +kernel
theorem dX8_partAt_23 : decode cX8_partAt 23 = .ok (.invokevirtual 210, 3) := by decide +kernel
theorem dX8_partAt_26 : decode cX8_partAt 26 = .ok (.iconst 0, 1) := by decide +kernel
theorem dX8_partAt_27 : decode cX8_partAt 27 = .ok (.istore_n 3, 1) := by decide +kernel
theorem dX8_partAt_28 : decode cX8_partAt 28 = .ok (.iload_n 3, 1) := by decide +kernel
theorem dX8_partAt_29 : decode cX8_partAt 29 = .ok (.aload_n 0, 1) := by decide +kernel
theorem dX8_partAt_30 : decode cX8_partAt 30 = .ok (.getfield 207, 3) := by decide +kernel
theorem dX8_partAt_33 : decode cX8_partAt 33 = .ok (.if_icmp .ge 83, 3) := by decide +kernel
theorem dX8_partAt_36 : decode cX8_partAt 36 = .ok (.aload_n 0, 1) := by decide +kernel
theorem dX8_partAt_37 : decode cX8_partAt 37 = .ok (.getfield 35, 3) := by decide +kernel
theorem dX8_partAt_40 : decode cX8_partAt 40 = .ok (.iload_n 3, 1) := by decide +kernel
theorem dX8_partAt_41 : decode cX8_partAt 41 = .ok (.iaload, 1) := by decide +kernel
theorem dX8_partAt_42 : decode cX8_partAt 42 = .ok (.aload_n 0, 1) := by decide +kernel
theorem dX8_partAt_43 : decode cX8_partAt 43 = .ok (.getfield 7, 3) := by decide +kernel
theorem dX8_partAt_46 : decode cX8_partAt 46 = .ok (.iconst 0, 1) := by decide +kernel
theorem dX8_partAt_47 : decode cX8_partAt 47 = .ok (.iaload, 1) := by decide +kernel
theorem dX8_partAt_48 : decode cX8_partAt 48 = .ok (.irem, 1) := by decide +kernel
theorem dX8_partAt_49 : decode cX8_partAt 49 = .ok (.istore 4, 2) := by decide +kernel
theorem dX8_partAt_51 : decode cX8_partAt 51 = .ok (.aload_n 0, 1) := by decide +kernel
theorem dX8_partAt_52 : decode cX8_partAt 52 = .ok (.getfield 35, 3) := by decide +kernel
theorem dX8_partAt_55 : decode cX8_partAt 55 = .ok (.iload_n 3, 1) := by decide +kernel
theorem dX8_partAt_56 : decode cX8_partAt 56 = .ok (.iaload, 1) := by decide +kernel
theorem dX8_partAt_57 : decode cX8_partAt 57 = .ok (.aload_n 0, 1) := by decide +kernel
theorem dX8_partAt_58 : decode cX8_partAt 58 = .ok (.getfield 7, 3) := by decide +kernel
theorem dX8_partAt_61 : decode cX8_partAt 61 = .ok (.iconst 0, 1) := by decide +kernel
theorem dX8_partAt_62 : decode cX8_partAt 62 = .ok (.iaload, 1) := by decide +kernel
theorem dX8_partAt_63 : decode cX8_partAt 63 = .ok (.idiv, 1) := by decide +kernel
theorem dX8_partAt_64 : decode cX8_partAt 64 = .ok (.istore 5, 2) := by decide +kernel
theorem dX8_partAt_66 : decode cX8_partAt 66 = .ok (.aload_n 0, 1) := by decide +kernel
theorem dX8_partAt_67 : decode cX8_partAt 67 = .ok (.iload_n 1, 1) := by decide +kernel
theorem dX8_partAt_68 : decode cX8_partAt 68 = .ok (.iload 4, 2) := by decide +kernel
theorem dX8_partAt_70 : decode cX8_partAt 70 = .ok (.iconst 1, 1) := by decide +kernel
theorem dX8_partAt_71 : decode cX8_partAt 71 = .ok (.isub, 1) := by decide +kernel
theorem dX8_partAt_72 : decode cX8_partAt 72 = .ok (.iload 5, 2) := by decide +kernel
theorem dX8_partAt_74 : decode cX8_partAt 74 = .ok (.invokevirtual 210, 3) := by decide +kernel
theorem dX8_partAt_77 : decode cX8_partAt 77 = .ok (.aload_n 0, 1) := by decide +kernel
theorem dX8_partAt_78 : decode cX8_partAt 78 = .ok (.iload_n 1, 1) := by decide +kernel
theorem dX8_partAt_79 : decode cX8_partAt 79 = .ok (.iload 4, 2) := by decide +kernel
theorem dX8_partAt_81 : decode cX8_partAt 81 = .ok (.iconst 1, 1) := by decide +kernel
theorem dX8_partAt_82 : decode cX8_partAt 82 = .ok (.iadd, 1) := by decide +kernel
theorem dX8_partAt_83 : decode cX8_partAt 83 = .ok (.iload 5, 2) := by decide +kernel
theorem dX8_partAt_85 : decode cX8_partAt 85 = .ok (.invokevirtual 210, 3) := by decide +kernel
theorem dX8_partAt_88 : decode cX8_partAt 88 = .ok (.aload_n 0, 1) := by decide +kernel
theorem dX8_partAt_89 : decode cX8_partAt 89 = .ok (.iload_n 1, 1) := by decide +kernel
theorem dX8_partAt_90 : decode cX8_partAt 90 = .ok (.iload 4, 2) := by decide +kernel
theorem dX8_partAt_92 : decode cX8_partAt 92 = .ok (.iload 5, 2) := by decide +kernel
theorem dX8_partAt_94 : decode cX8_partAt 94 = .ok (.iconst 1, 1) := by decide +kernel
theorem dX8_partAt_95 : decode cX8_partAt 95 = .ok (.isub, 1) := by decide +kernel
theorem dX8_partAt_96 : decode cX8_partAt 96 = .ok (.invokevirtual 210, 3) := by decide +kernel
theorem dX8_partAt_99 : decode cX8_partAt 99 = .ok (.aload_n 0, 1) := by decide +kernel
theorem dX8_partAt_100 : decode cX8_partAt 100 = .ok (.iload_n 1, 1) := by decide +kernel
theorem dX8_partAt_101 : decode cX8_partAt 101 = .ok (.iload 4, 2) := by decide +kernel
theorem dX8_partAt_103 : decode cX8_partAt 103 = .ok (.iload 5, 2) := by decide +kernel
theorem dX8_partAt_105 : decode cX8_partAt 105 = .ok (.iconst 1, 1) := by decide +kernel
theorem dX8_partAt_106 : decode cX8_partAt 106 = .ok (.iadd, 1) := by decide +kernel
theorem dX8_partAt_107 : decode cX8_partAt 107 = .ok (.invokevirtual 210, 3) := by decide +kernel
theorem dX8_partAt_110 : decode cX8_partAt 110 = .ok (.iinc 3 1, 3) := by decide +kernel
theorem dX8_partAt_113 : decode cX8_partAt 113 = .ok (.goto (-85), 3) := by decide +kernel
theorem dX8_partAt_116 : decode cX8_partAt 116 = .ok (.aload_n 0, 1) := by decide +kernel
theorem dX8_partAt_117 : decode cX8_partAt 117 = .ok (.getfield 207, 3) := by decide +kernel
theorem dX8_partAt_120 : decode cX8_partAt 120 = .ok (.ireturn, 1) := by decide +kernel
set_option maxRecDepth 20000 in
theorem ggX8_parts_X8_partAt : GoodIn wsX8_parts wsX8_partAt := goodIn_r _ [7, 8, 2, 9, 10, 11, 12, 6, 13, 1, 14, 15, 16, 17, 18, 19, 20, 21, 22, 23, 24, 25, 26, 27, 28, 29, 30, 31, 32, 33, 34, 35, 36, 37, 38, 39, 40] (by decide +kernel) (by decide +kernel)
set_option maxRecDepth 20000 in
theorem gX8_parts_X8_partAt : GoodIn wsX8_parts (wsV RX8 213 RX8 yX8_partAt wsX8_partAt) := goodIn_app (goodIn_of _ (by decide +kernel)) ggX8_parts_X8_partAt
theorem dX8_parts_0 : decode cX8_parts 0 = .ok (.iconst 0, 1) := by decide +kernel
theorem dX8_parts_1 : decode cX8_parts 1 = .ok (.istore_n 3, 1) := by decide +kernel
theorem dX8_parts_2 : decode cX8_parts 2 = .ok (.iconst 0, 1) := by decide +kernel
theorem dX8_parts_3 : decode cX8_parts 3 = .ok (.istore 4, 2) := by decide +kernel
theorem dX8_parts_5 : decode cX8_parts 5 = .ok (.iconst 0, 1) := by decide +kernel
theorem dX8_parts_6 : decode cX8_parts 6 = .ok (.istore 5, 2) := by decide +kernel
theorem dX8_parts_8 : decode cX8_parts 8 = .ok (.iload 5, 2) := by decide +kernel
theorem dX8_parts_10 : decode cX8_parts 10 = .ok (.sipush 576, 3) := by decide +kernel
theorem dX8_parts_13 : decode cX8_parts 13 = .ok (.if_icmp .ge 17, 3) := by decide +kernel
theorem dX8_parts_16 : decode cX8_parts 16 = .ok (.aload_n 0, 1) := by decide +kernel
theorem dX8_parts_17 : decode cX8_parts 17 = .ok (.getfield 31, 3) := by decide +kernel
theorem dX8_parts_20 : decode cX8_parts 20 = .ok (.iload 5, 2) := by decide +kernel
theorem dX8_parts_22 : decode cX8_parts 22 = .ok (.iconst 0, 1) := by decide +kernel
theorem dX8_parts_23 : decode cX8_parts 23 = .ok (.bastore, 1) := by decide +kernel
theorem dX8_parts_24 : decode cX8_parts 24 = .ok (.iinc 5 1, 3) := by decide +kernel
theorem dX8_parts_27 : decode cX8_parts 27 = .ok (.goto (-19), 3) := by decide +kernel
theorem dX8_parts_30 : decode cX8_parts 30 = .ok (.iconst 0, 1) := by decide +kernel
theorem dX8_parts_31 : decode cX8_parts 31 = .ok (.istore 5, 2) := by decide +kernel
theorem dX8_parts_33 : decode cX8_parts 33 = .ok (.iload 5, 2) := by decide +kernel
theorem dX8_parts_35 : decode cX8_parts 35 = .ok (.aload_n 0, 1) := by decide +kernel
theorem dX8_parts_36 : decode cX8_parts 36 = .ok (.getfield 7, 3) := by decide +kernel
theorem dX8_parts_39 : decode cX8_parts 39 = .ok (.iconst 0, 1) := by decide +kernel
theorem dX8_parts_40 : decode cX8_parts 40 = .ok (.iaload, 1) := by decide +kernel
theorem dX8_parts_41 : decode cX8_parts 41 = .ok (.aload_n 0, 1) := by decide +kernel
theorem dX8_parts_42 : decode cX8_parts 42 = .ok (.getfield 7, 3) := by decide +kernel
theorem dX8_parts_45 : decode cX8_parts 45 = .ok (.iconst 1, 1) := by decide +kernel
theorem dX8_parts_46 : decode cX8_parts 46 = .ok (.iaload, 1) := by decide +kernel
theorem dX8_parts_47 : decode cX8_parts 47 = .ok (.imul, 1) := by decide +kernel
theorem dX8_parts_48 : decode cX8_parts 48 = .ok (.if_icmp .ge 47, 3) := by decide +kernel
theorem dX8_parts_51 : decode cX8_parts 51 = .ok (.aload_n 0, 1) := by decide +kernel
theorem dX8_parts_52 : decode cX8_parts 52 = .ok (.iload_n 1, 1) := by decide +kernel
theorem dX8_parts_53 : decode cX8_parts 53 = .ok (.iload 5, 2) := by decide +kernel
theorem dX8_parts_55 : decode cX8_parts 55 = .ok (.invokevirtual 213, 3) := by decide +kernel
theorem dX8_parts_58 : decode cX8_parts 58 = .ok (.istore 6, 2) := by decide +kernel
theorem dX8_parts_60 : decode cX8_parts 60 = .ok (.iload_n 3, 1) := by decide +kernel
theorem dX8_parts_61 : decode cX8_parts 61 = .ok (.iload 6, 2) := by decide +kernel
theorem dX8_parts_63 : decode cX8_parts 63 = .ok (.ifCond .le 7, 3) := by decide +kernel
theorem dX8_parts_66 : decode cX8_parts 66 = .ok (.iconst 1, 1) := by decide +kernel
theorem dX8_parts_67 : decode cX8_parts 67 = .ok (.goto 4, 3) := by decide +kernel
theorem dX8_parts_70 : decode cX8_parts 70 = .ok (.iconst 0, 1) := by decide +kernel
theorem dX8_parts_71 : decode cX8_parts 71 = .ok (.iadd, 1) := by decide +kernel
theorem dX8_parts_72 : decode cX8_parts 72 = .ok (.istore_n 3, 1) := by decide +kernel
theorem dX8_parts_73 : decode cX8_parts 73 = .ok (.iload 6, 2) := by decide +kernel
theorem dX8_parts_75 : decode cX8_parts 75 = .ok (.iload 4, 2) := by decide +kernel
theorem dX8_parts_77 : decode cX8_parts 77 = .ok (.if_icmp .le 8, 3) := by decide +kernel
theorem dX8_parts_80 : decode cX8_parts 80 = .ok (.iload 6, 2) := by decide +kernel
theorem dX8_parts_82 : decode cX8_parts 82 = .ok (.goto 5, 3) := by decide +kernel
theorem dX8_parts_85 : decode cX8_parts 85 = .ok (.iload 4, 2) := by decide +kernel
theorem dX8_parts_87 : decode cX8_parts 87 = .ok (.istore 4, 2) := by decide +kernel
theorem dX8_parts_89 : decode cX8_parts 89 = .ok (.iinc 5 1, 3) := by decide +kernel
theorem dX8_parts_92 : decode cX8_parts 92 = .ok (.goto (-59), 3) := by decide +kernel
theorem dX8_parts_95 : decode cX8_parts 95 = .ok (.iload_n 2, 1) := by decide +kernel
theorem dX8_parts_96 : decode cX8_parts 96 = .ok (.ifCond .eq 8, 3) := by decide +kernel
theorem dX8_parts_99 : decode cX8_parts 99 = .ok (.iload 4, 2) := by decide +kernel
theorem dX8_parts_101 : decode cX8_parts 101 = .ok (.goto 4, 3) := by decide +kernel
theorem dX8_parts_104 : decode cX8_parts 104 = .ok (.iload_n 3, 1) := by decide +kernel
theorem dX8_parts_105 : decode cX8_parts 105 = .ok (.ireturn, 1) := by decide +kernel
set_option maxRecDepth 20000 in
theorem ggX8_outside_X8_area : GoodIn wsX8_outside wsX8_area := goodIn_r _ [6, 7, 8, 9, 5, 10, 1, 14, 15, 16, 17, 18, 19, 20, 21, 22, 23, 24, 25, 26, 27, 28, 29, 30, 31, 32] (by decide +kernel) (by decide +kernel)
