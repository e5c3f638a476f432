set_option maxRecDepth 20000 in
theorem ggX7_worst_X3_worstPiece : GoodIn wsX7_worst wsX3_worstPiece := goodIn_r _ [6, 7, 8, 9, 10, 11, 12, 13, 14, 15, 16, 17, 18, 19, 20, 21, 22, 23, 24, 25, 26, 27, 28, 29, 30, 31, 32, 33, 34, 35, 36, 37, 38, 39, 40, 41, 42, 43, 44, 45, 46, 47, 48, 49, 50, 51, 52, 53, 54, 55, 56, 57, 58, 59, 60, 61, 62, 63, 64, 65, 66, 67, 68, 69, 70, 71, 72, 73, 74, 75, 76, 77, 78, 79, 80, 81, 82, 83, 84, 85, 86, 87, 88, 89, 90, 91, 92, 93, 94, 103, 104, 105, 106, 107, 108, 109, 110, 111, 112, 113, 114, 115, 116, 117] (by decide +kernel) (by decide +kernel)
set_option maxRecDepth 20000 in
theorem gX7_worst_X3_worstPiece : GoodIn wsX7_worst (wsV RX7 231 RX3 yX3_worstPiece wsX3_worstPiece) := goodIn_app (goodIn_of _ (by decide +kernel)) ggX7_worst_X3_worstPiece
theorem dX7_worst_0 : decode cX7_worst 0 = .ok (.aload_n 0, 1) := by decide +kernel
theorem dX7_worst_1 : decode cX7_worst 1 = .ok (.getfield 43, 3) := by decide +kernel
theorem dX7_worst_4 : decode cX7_worst 4 = .ok (.invokevirtual 231, 3) := by decide +kernel
theorem dX7_worst_7 : decode cX7_worst 7 = .ok (.ireturn, 1) := by decide +kernel
set_option maxRecDepth 20000 in
theorem ggX7_setProperty_X1_has : GoodIn wsX7_setProperty wsX1_has := goodIn_r _ [7, 8, 64, 65, 66, 67, 68, 69] (by decide +kernel) (by decide +kernel)
set_option maxRecDepth 20000 in
theorem gX7_setProperty_X1_has : GoodIn wsX7_setProperty (wsV RX7 100 RX1 yX1_has wsX1_has) := goodIn_app (goodIn_of _ (by decide +kernel)) ggX7_setProperty_X1_has
set_option maxRecDepth 20000 in
theorem ggX7_setProperty_X7_fits : GoodIn wsX7_setProperty wsX7_fits := goodIn_r _ [12, 13, 14, 15, 16, 11, 17, 18, 19, 20] (by decide +kernel) (by decide +kernel)
set_option maxRecDepth 20000 in
theorem gX7_setProperty_X7_fits : GoodIn wsX7_setProperty (va_wsS RX7 85 yX7_fits wsX7_fits) := goodIn_app (goodIn_of _ (by decide +kernel)) ggX7_setProperty_X7_fits
set_option maxRecDepth 20000 in
theorem ggX7_setProperty_X0_record : GoodIn wsX7_setProperty wsX0_record := goodIn_r _ [25, 26, 27, 28, 29, 30, 24, 31, 32, 33, 34, 35, 6, 36, 37, 38, 39, 40, 41, 42, 43, 44, 8, 45, 70, 71, 72, 64, 65, 66, 67, 68, 69] (by decide +kernel) (by decide +kernel)
set_option maxRecDepth 20000 in
theorem gX7_setProperty_X0_record : GoodIn wsX7_setProperty (wsV RX7 71 RX0 yX0_record wsX0_record) := goodIn_app (goodIn_of _ (by decide +kernel)) ggX7_setProperty_X0_record
set_option maxRecDepth 20000 in
theorem ggX7_setProperty_X1_get : GoodIn wsX7_setProperty wsX1_get := goodIn_r _ [49, 37, 64, 65, 66, 67, 68, 69] (by decide +kernel) (by decide +kernel)
set_option maxRecDepth 20000 in
theorem gX7_setProperty_X1_get : GoodIn wsX7_setProperty (wsV RX7 169 RX1 yX1_get wsX1_get) := goodIn_app (goodIn_of _ (by decide +kernel)) ggX7_setProperty_X1_get
set_option maxRecDepth 20000 in
theorem ggX7_setProperty_X1_set : GoodIn wsX7_setProperty wsX1_set := goodIn_r _ [53, 37, 54, 11, 55, 64, 65, 66, 67, 68, 69] (by decide +kernel) (by decide +kernel)
set_option maxRecDepth 20000 in
theorem gX7_setProperty_X1_set : GoodIn wsX7_setProperty (wsV RX7 96 RX1 yX1_set wsX1_set) := goodIn_app (goodIn_of _ (by decide +kernel)) ggX7_setProperty_X1_set
theorem dX7_setProperty_0 : decode cX7_setProperty 0 = .ok (.aload_n 0, 1) := by decide +kernel
theorem dX7_setProperty_1 : decode cX7_setProperty 1 = .ok (.getfield 18, 3) := by decide +kernel
theorem dX7_setProperty_4 : decode cX7_setProperty 4 = .ok (.iload_n 1, 1) := by decide +kernel
theorem dX7_setProperty_5 : decode cX7_setProperty 5 = .ok (.invokevirtual 100, 3) := by decide +kernel
theorem dX7_setProperty_8 : decode cX7_setProperty 8 = .ok (.ifCond .eq 11, 3) := by decide +kernel
theorem dX7_setProperty_11 : decode cX7_setProperty 11 = .ok (.iload_n 2, 1) := by decide +kernel
theorem dX7_setProperty_12 : decode cX7_setProperty 12 = .ok (.iload_n 3, 1) := by decide +kernel
theorem dX7_setProperty_13 : decode cX7_setProperty 13 = .ok (.invokestatic 85, 3) := by decide +kernel
theorem dX7_setProperty_16 : decode cX7_setProperty 16 = .ok (.ifCond .ne 6, 3) := by decide +kernel
theorem dX7_setProperty_19 : decode cX7_setProperty 19 = .ok (.bipush (-101), 2) := by decide +kernel
theorem dX7_setProperty_21 : decode cX7_setProperty 21 = .ok (.ireturn, 1) := by decide +kernel
theorem dX7_setProperty_22 : decode cX7_setProperty 22 = .ok (.aload_n 0, 1) := by decide +kernel
theorem dX7_setProperty_23 : decode cX7_setProperty 23 = .ok (.getfield 50, 3) := by decide +kernel
theorem dX7_setProperty_26 : decode cX7_setProperty 26 = .ok (.aload_n 0, 1) := by decide +kernel
theorem dX7_setProperty_27 : decode cX7_setProperty 27 = .ok (.getfield 18, 3) := by decide +kernel
theorem dX7_setProperty_30 : decode cX7_setProperty 30 = .ok (.invokevirtual 71, 3) := by decide +kernel
theorem dX7_setProperty_33 : decode cX7_setProperty 33 = .ok (.aload_n 0, 1) := by decide +kernel
theorem dX7_setProperty_34 : decode cX7_setProperty 34 = .ok (.getfield 18, 3) := by decide +kernel
theorem dX7_setProperty_37 : decode cX7_setProperty 37 = .ok (.iload_n 1, 1) := by decide +kernel
theorem dX7_setProperty_38 : decode cX7_setProperty 38 = .ok (.iload_n 2, 1) := by decide +kernel
theorem dX7_setProperty_39 : decode cX7_setProperty 39 = .ok (.invokevirtual 169, 3) := by decide +kernel
theorem dX7_setProperty_42 : decode cX7_setProperty 42 = .ok (.istore 4, 2) := by decide +kernel
theorem dX7_setProperty_44 : decode cX7_setProperty 44 = .ok (.aload_n 0, 1) := by decide +kernel
theorem dX7_setProperty_45 : decode cX7_setProperty 45 = .ok (.getfield 18, 3) := by decide +kernel
theorem dX7_setProperty_48 : decode cX7_setProperty 48 = .ok (.iload_n 1, 1) := by decide +kernel
theorem dX7_setProperty_49 : decode cX7_setProperty 49 = .ok (.iload_n 2, 1) := by decide +kernel
theorem dX7_setProperty_50 : decode cX7_setProperty 50 = .ok (.iload_n 3, 1) := by decide +kernel
theorem dX7_setProperty_51 : decode cX7_setProperty 51 = .ok (.invokevirtual 96, 3) := by decide +kernel
theorem dX7_setProperty_54 : decode cX7_setProperty 54 = .ok (.iload 4, 2) := by decide +kernel
theorem dX7_setProperty_56 : decode cX7_setProperty 56 = .ok (.ireturn, 1) := by decide +kernel
set_option maxRecDepth 20000 in
theorem ggX7_makeCheapestShift_X5_look : GoodIn wsX7_makeCheapestShift wsX5_look := goodIn_r _ [8, 9, 10, 11, 12, 13, 14, 15, 16, 17, 18, 19, 20, 21, 22, 23, 24, 25, 26, 27, 28, 29, 30, 31, 7, 32, 33, 34, 35, 36, 37, 38, 39, 40, 41, 42, 43, 44, 45, 46, 47, 48, 49, 50, 51, 52, 53, 54, 55, 56, 57, 58, 147, 148, 149, 150, 151, 152, 153, 154, 155, 156] (by decide +kernel) (by decide +kernel)
set_option maxRecDepth 20000 in
theorem gX7_makeCheapestShift_X5_look : GoodIn wsX7_makeCheapestShift (wsV RX7 78 RX5 yX5_look wsX5_look) := goodIn_app (goodIn_of _ (by decide +kernel)) ggX7_makeCheapestShift_X5_look
set_option maxRecDepth 20000 in
theorem ggX7_makeCheapestShift_X1_pieces : GoodIn wsX7_makeCheapestShift wsX1_pieces := goodIn_r _ [19, 20, 151, 152, 153, 154, 155, 156] (by decide +kernel) (by decide +kernel)
set_option maxRecDepth 20000 in
theorem gX7_makeCheapestShift_X1_pieces : GoodIn wsX7_makeCheapestShift (wsV RX7 108 RX1 yX1_pieces wsX1_pieces) := goodIn_app (goodIn_of _ (by decide +kernel)) ggX7_makeCheapestShift_X1_pieces
set_option maxRecDepth 20000 in
theorem ggX7_makeCheapestShift_X5_isContent : GoodIn wsX7_makeCheapestShift wsX5_isContent := goodIn_r _ [63, 10, 34, 35, 36, 37, 18, 38, 39, 26, 27, 28, 147, 148, 149, 150, 151, 152, 153, 154, 155, 156] (by decide +kernel) (by decide +kernel)
set_option maxRecDepth 20000 in
theorem gX7_makeCheapestShift_X5_isContent : GoodIn wsX7_makeCheapestShift (wsV RX7 179 RX5 yX5_isContent wsX5_isContent) := goodIn_app (goodIn_of _ (by decide +kernel)) ggX7_makeCheapestShift_X5_isContent
set_option maxRecDepth 20000 in
theorem ggX7_makeCheapestShift_X3_findShift : GoodIn wsX7_makeCheapestShift wsX3_findShift := goodIn_r _ [68, 69, 70, 71, 72, 73, 74, 75, 76, 77, 18, 78, 39, 79, 80, 81, 82, 25, 44, 49, 20, 83, 84, 85, 86, 67, 87, 88, 89, 5, 6, 7, 8, 9, 10, 11, 12, 13, 14, 15, 16, 17, 19, 21, 22, 23, 24, 26, 27, 28, 29, 30, 31, 32, 33, 34, 35, 36, 37, 38, 40, 41, 42, 43, 45, 46, 47, 48, 50, 51, 52, 53, 54, 55, 56, 57, 58, 90, 91, 92, 93, 94, 61, 62, 63, 95, 96, 97, 98, 99, 100, 101, 102, 103, 104, 105, 106, 107, 108, 109, 110, 111, 112, 113, 114, 115, 116, 117, 118, 119, 120, 157, 158, 159, 160, 161, 151, 152, 153, 154, 155, 156, 147, 148, 149, 150] (by decide +kernel) (by decide +kernel)
set_option maxRecDepth 20000 in
theorem gX7_makeCheapestShift_X3_findShift : GoodIn wsX7_makeCheapestShift (wsV RX7 218 RX3 yX3_findShift wsX3_findShift) := goodIn_app (goodIn_of _ (by decide +kernel)) ggX7_makeCheapestShift_X3_findShift
set_option maxRecDepth 20000 in
theorem ggX7_makeCheapestShift_X3_dx : GoodIn wsX7_makeCheapestShift wsX3_dx := goodIn_r _ [124, 100, 157, 158, 159, 160, 161] (by decide +kernel) (by decide +kernel)
set_option maxRecDepth 20000 in
theorem gX7_makeCheapestShift_X3_dx : GoodIn wsX7_makeCheapestShift (wsV RX7 222 RX3 yX3_dx wsX3_dx) := goodIn_app (goodIn_of _ (by decide +kernel)) ggX7_makeCheapestShift_X3_dx
set_option maxRecDepth 20000 in
theorem ggX7_makeCheapestShift_X3_dy : GoodIn wsX7_makeCheapestShift wsX3_dy := goodIn_r _ [128, 101, 157, 158, 159, 160, 161] (by decide +kernel) (by decide +kernel)
set_option maxRecDepth 20000 in
theorem gX7_makeCheapestShift_X3_dy : GoodIn wsX7_makeCheapestShift (wsV RX7 225 RX3 yX3_dy wsX3_dy) := goodIn_app (goodIn_of _ (by decide +kernel)) ggX7_makeCheapestShift_X3_dy
set_option maxRecDepth 20000 in
theorem ggX7_makeCheapestShift_X3_cost : GoodIn wsX7_makeCheapestShift wsX3_cost := goodIn_r _ [132, 100, 71, 72, 73, 74, 101, 157, 158, 159, 160, 161] (by decide +kernel) (by decide +kernel)
set_option maxRecDepth 20000 in
theorem gX7_makeCheapestShift_X3_cost : GoodIn wsX7_makeCheapestShift (wsV RX7 221 RX3 yX3_cost wsX3_cost) := goodIn_app (goodIn_of _ (by decide +kernel)) ggX7_makeCheapestShift_X3_cost
set_option maxRecDepth 20000 in
theorem ggX7_makeCheapestShift_X1_move : GoodIn wsX7_makeCheapestShift wsX1_move := goodIn_r _ [136, 137, 72, 73, 74, 83, 106, 36, 37, 18, 38, 39, 138, 117, 118, 119, 50, 27, 51, 151, 152, 153, 154, 155, 156] (by decide +kernel) (by decide +kernel)
set_option maxRecDepth 20000 in
theorem gX7_makeCheapestShift_X1_move : GoodIn wsX7_makeCheapestShift (wsV RX7 118 RX1 yX1_move wsX1_move) := goodIn_app (goodIn_of _ (by decide +kernel)) ggX7_makeCheapestShift_X1_move
theorem dX7_makeCheapestShift_0 : decode cX7_makeCheapestShift 0 = .ok (.aload_n 0, 1) := by decide +kernel
theorem dX7_makeCheapestShift_1 : decode cX7_makeCheapestShift 1 = .ok (.getfield 27, 3) := by decide +kernel
theorem dX7_makeCheapestShift_4 : decode cX7_makeCheapestShift 4 = .ok (.invokevirtual 78, 3) := by decide +kernel
theorem dX7_makeCheapestShift_7 : decode cX7_makeCheapestShift 7 = .ok (.bipush (-109), 2) := by decide +kernel
theorem dX7_makeCheapestShift_9 : decode cX7_makeCheapestShift 9 = .ok (.istore_n 1, 1) := by decide +kernel
theorem dX7_makeCheapestShift_10 : decode cX7_makeCheapestShift 10 = .ok (.iconst 0, 1) := by decide +kernel
theorem dX7_makeCheapestShift_11 : decode cX7_makeCheapestShift 11 = .ok (.istore_n 2, 1) := by decide +kernel
theorem dX7_makeCheapestShift_12 : decode cX7_makeCheapestShift 12 = .ok (.iconst 0, 1) := by decide +kernel
theorem dX7_makeCheapestShift_13 : decode cX7_makeCheapestShift 13 = .ok (.istore_n 3, 1) := by decide +kernel
theorem dX7_makeCheapestShift_14 : decode cX7_makeCheapestShift 14 = .ok (.bipush 8, 2) := by decide +kernel
theorem dX7_makeCheapestShift_16 : decode cX7_makeCheapestShift 16 = .ok (.istore 4, 2) := by decide +kernel
theorem dX7_makeCheapestShift_18 : decode cX7_makeCheapestShift 18 = .ok (.iconst 0, 1) := by decide +kernel
theorem dX7_makeCheapestShift_19 : decode cX7_makeCheapestShift 19 = .ok (.istore 5, 2) := by decide +kernel
theorem dX7_makeCheapestShift_21 : decode cX7_makeCheapestShift 21 = .ok (.iload 5, 2) := by decide +kernel
theorem dX7_makeCheapestShift_23 : decode cX7_makeCheapestShift 23 = .ok (.aload_n 0, 1) := by decide +kernel
theorem dX7_makeCheapestShift_24 : decode cX7_makeCheapestShift 24 = .ok (.getfield 18, 3) := by decide +kernel
theorem dX7_makeCheapestShift_27 : decode cX7_makeCheapestShift 27 = .ok (.invokevirtual 108, 3) := by decide +kernel
theorem dX7_makeCheapestShift_30 : decode cX7_makeCheapestShift 30 = .ok (.if_icmp .ge 66, 3) := by decide +kernel
theorem dX7_makeCheapestShift_33 : decode cX7_makeCheapestShift 33 = .ok (.aload_n 0, 1) := by decide +kernel
theorem dX7_makeCheapestShift_34 : decode cX7_makeCheapestShift 34 = .ok (.getfield 27, 3) := by decide +kernel
theorem dX7_makeCheapestShift_37 : decode cX7_makeCheapestShift 37 = .ok (.iload 5, 2) := by decide +kernel
theorem dX7_makeCheapestShift_39 : decode cX7_makeCheapestShift 39 = .ok (.invokevirtual 179, 3) := by decide +kernel
theorem dX7_makeCheapestShift_42 : decode cX7_makeCheapestShift 42 = .ok (.ifCond .ne 48, 3) := by decide +kernel
theorem dX7_makeCheapestShift_45 : decode cX7_makeCheapestShift 45 = .ok (.aload_n 0, 1) := by decide +kernel
theorem dX7_makeCheapestShift_46 : decode cX7_makeCheapestShift 46 = .ok (.getfield 43, 3) := by decide +kernel
theorem dX7_makeCheapestShift_49 : decode cX7_makeCheapestShift 49 = .ok (.iload 5, 2) := by decide +kernel
theorem dX7_makeCheapestShift_51 : decode cX7_makeCheapestShift 51 = .ok (.iconst 1, 1) := by decide +kernel
theorem dX7_makeCheapestShift_52 : decode cX7_makeCheapestShift 52 = .ok (.iload 4, 2) := by decide +kernel
theorem dX7_makeCheapestShift_54 : decode cX7_makeCheapestShift 54 = .ok (.invokevirtual 218, 3) := by decide +kernel
theorem dX7_makeCheapestShift_57 : decode cX7_makeCheapestShift 57 = .ok (.ifCond .eq 33, 3) := by decide +kernel
theorem dX7_makeCheapestShift_60 : decode cX7_makeCheapestShift 60 = .ok (.iload 5, 2) := by decide +kernel
theorem dX7_makeCheapestShift_62 : decode cX7_makeCheapestShift 62 = .ok (.istore_n 1, 1) := by decide +kernel
theorem dX7_makeCheapestShift_63 : decode cX7_makeCheapestShift 63 = .ok (.aload_n 0, 1) := by decide +kernel
theorem dX7_makeCheapestShift_64 : decode cX7_makeCheapestShift 64 = .ok (.getfield 43, 3) := by decide +kernel
theorem dX7_makeCheapestShift_67 : decode cX7_makeCheapestShift 67 = .ok (.invokevirtual 222, 3) := by decide +kernel
theorem dX7_makeCheapestShift_70 : decode cX7_makeCheapestShift 70 = .ok (.istore_n 2, 1) := by decide +kernel
theorem dX7_makeCheapestShift_71 : decode cX7_makeCheapestShift 71 = .ok (.aload_n 0, 1) := by decide +kernel
theorem dX7_makeCheapestShift_72 : decode cX7_makeCheapestShift 72 = .ok (.getfield 43, 3) := by decide +kernel
theorem dX7_makeCheapestShift_75 : decode cX7_makeCheapestShift 75 = .ok (.invokevirtual 225, 3) := by decide +kernel
theorem dX7_makeCheapestShift_78 : decode cX7_makeCheapestShift 78 = .ok (.istore_n 3, 1) := by decide +kernel
theorem dX7_makeCheapestShift_79 : decode cX7_makeCheapestShift 79 = .ok (.aload_n 0, 1) := by decide +kernel
theorem dX7_makeCheapestShift_80 : decode cX7_makeCheapestShift 80 = .ok (.getfield 43, 3) := by decide +kernel
theorem dX7_makeCheapestShift_83 : decode cX7_makeCheapestShift 83 = .ok (.invokevirtual 221, 3) := by decide +kernel
theorem dX7_makeCheapestShift_86 : decode cX7_makeCheapestShift 86 = .ok (.iconst 1, 1) := by decide +kernel
theorem dX7_makeCheapestShift_87 : decode cX7_makeCheapestShift 87 = .ok (.isub, 1) := by decide +kernel
theorem dX7_makeCheapestShift_88 : decode cX7_makeCheapestShift 88 = .ok (.istore 4, 2) := by decide +kernel
theorem dX7_makeCheapestShift_90 : decode cX7_makeCheapestShift 90 = .ok (.iinc 5 1, 3) := by decide +kernel
theorem dX7_makeCheapestShift_93 : decode cX7_makeCheapestShift 93 = .ok (.goto (-72), 3) := by decide +kernel
theorem dX7_makeCheapestShift_96 : decode cX7_makeCheapestShift 96 = .ok (.iload_n 1, 1) := by decide +kernel
theorem dX7_makeCheapestShift_97 : decode cX7_makeCheapestShift 97 = .ok (.bipush (-109), 2) := by decide +kernel
theorem dX7_makeCheapestShift_99 : decode cX7_makeCheapestShift 99 = .ok (.if_icmp .ne 5, 3) := by decide +kernel
theorem dX7_makeCheapestShift_102 : decode cX7_makeCheapestShift 102 = .ok (.iconst 0, 1) := by decide +kernel
theorem dX7_makeCheapestShift_103 : decode cX7_makeCheapestShift 103 = .ok (.ireturn, 1) := by decide +kernel
theorem dX7_makeCheapestShift_104 : decode cX7_makeCheapestShift 104 = .ok (.aload_n 0, 1) := by decide +kernel
theorem dX7_makeCheapestShift_105 : decode cX7_makeCheapestShift 105 = .ok (.getfield 18, 3) := by decide +kernel
theorem dX7_makeCheapestShift_108 : decode cX7_makeCheapestShift 108 = .ok (.iload_n 1, 1) := by decide +kernel
theorem dX7_makeCheapestShift_109 : decode cX7_makeCheapestShift 109 = .ok (.iload_n 2, 1) := by decide +kernel
theorem dX7_makeCheapestShift_110 : decode cX7_makeCheapestShift 110 = .ok (.iload_n 3, 1) := by decide +kernel
theorem dX7_makeCheapestShift_111 : decode cX7_makeCheapestShift 111 = .ok (.invokevirtual 118, 3) := by decide +kernel
theorem dX7_makeCheapestShift_114 : decode cX7_makeCheapestShift 114 = .ok (.pop, 1) := by decide +kernel
theorem dX7_makeCheapestShift_115 : decode cX7_makeCheapestShift 115 = .ok (.iconst 1, 1) := by decide +kernel
theorem dX7_makeCheapestShift_116 : decode cX7_makeCheapestShift 116 = .ok (.ireturn, 1) := by decide +kernel
theorem dX7_isWithin_0 : decode cX7_isWithin 0 = .ok (.iload_n 0, 1) := by decide +kernel
theorem dX7_isWithin_1 : decode cX7_isWithin 1 = .ok (.iload_n 1, 1) := by decide +kernel
theorem dX7_isWithin_2 : decode cX7_isWithin 2 = .ok (.if_icmp .lt 12, 3) := by decide +kernel
theorem dX7_isWithin_5 : decode cX7_isWithin 5 = .ok (.iload_n 0, 1) := by decide +kernel
theorem dX7_isWithin_6 : decode cX7_isWithin 6 = .ok (.iload_n 2, 1) := by decide +kernel
theorem dX7_isWithin_7 : decode cX7_isWithin 7 = .ok (.if_icmp .gt 7, 3) := by decide +kernel
theorem dX7_isWithin_10 : decode cX7_isWithin 10 = .ok (.iconst 1, 1) := by decide +kernel
theorem dX7_isWithin_11 : decode cX7_isWithin 11 = .ok (.goto 4, 3) := by decide +kernel
theorem dX7_isWithin_14 : decode cX7_isWithin 14 = .ok (.iconst 0, 1) := by decide +kernel
theorem dX7_isWithin_15 : decode cX7_isWithin 15 = .ok (.ireturn, 1) := by decide +kernel
set_option maxRecDepth 20000 in
theorem ggX7_fits_X7_at : GoodIn wsX7_fits wsX7_at := goodIn_r _ [6] (by decide +kernel) (by decide +kernel)
set_option maxRecDepth 20000 in
theorem gX7_fits_X7_at : GoodIn wsX7_fits (va_wsS RX7 238 yX7_at wsX7_at) := goodIn_app (goodIn_of _ (by decide +kernel)) ggX7_fits_X7_at
set_option maxRecDepth 20000 in
theorem ggX7_fits_X7_isWithin : GoodIn wsX7_fits wsX7_isWithin := goodIn_r _ [9] (by decide +kernel) (by decide +kernel)
set_option maxRecDepth 20000 in
theorem gX7_fits_X7_isWithin : GoodIn wsX7_fits (va_wsS RX7 67 yX7_isWithin wsX7_isWithin) := goodIn_app (goodIn_of _ (by decide +kernel)) ggX7_fits_X7_isWithin
theorem dX7_fits_0 : decode cX7_fits 0 = .ok (.iload_n 1, 1) := by decide +kernel
theorem dX7_fits_1 : decode cX7_fits 1 = .ok (.getstatic 234, 3) := by decide +kernel
theorem dX7_fits_4 : decode cX7_fits 4 = .ok (.iload_n 0, 1) := by decide +kernel
theorem dX7_fits_5 : decode cX7_fits 5 = .ok (.invokestatic 238, 3) := by decide +kernel
theorem dX7_fits_8 : decode cX7_fits 8 = .ok (.getstatic 242, 3) := by decide +kernel
theorem dX7_fits_11 : decode cX7_fits 11 = .ok (.iload_n 0, 1) := by decide +kernel
theorem dX7_fits_12 : decode cX7_fits 12 = .ok (.invokestatic 238, 3) := by decide +kernel
theorem dX7_fits_15 : decode cX7_fits 15 = .ok (.invokestatic 67, 3) := by decide +kernel
theorem dX7_fits_18 : decode cX7_fits 18 = .ok (.ireturn, 1) := by decide +kernel
theorem dX7_at_0 : decode cX7_at 0 = .ok (.iload_n 1, 1) := by decide +kernel
theorem dX7_at_1 : decode cX7_at 1 = .ok (.ifCond .lt 15, 3) := by decide +kernel
theorem dX7_at_4 : decode cX7_at 4 = .ok (.iload_n 1, 1) := by decide +kernel
theorem dX7_at_5 : decode cX7_at 5 = .ok (.aload_n 0, 1) := by decide +kernel
theorem dX7_at_6 : decode cX7_at 6 = .ok (.arraylength, 1) := by decide +kernel
theorem dX7_at_7 : decode cX7_at 7 = .ok (.if_icmp .ge 9, 3) := by decide +kernel
theorem dX7_at_10 : decode cX7_at 10 = .ok (.aload_n 0, 1) := by decide +kernel
theorem dX7_at_11 : decode cX7_at 11 = .ok (.iload_n 1, 1) := by decide +kernel
theorem dX7_at_12 : decode cX7_at 12 = .ok (.iaload, 1) := by decide +kernel
theorem dX7_at_13 : decode cX7_at 13 = .ok (.goto 4, 3) := by decide +kernel
theorem dX7_at_16 : decode cX7_at 16 = .ok (.iconst 0, 1) := by decide +kernel
theorem dX7_at_17 : decode cX7_at 17 = .ok (.ireturn, 1) := by decide +kernel
theorem dX7_put_0 : decode cX7_put 0 = .ok (.iload_n 1, 1) := by decide +kernel
theorem dX7_put_1 : decode cX7_put 1 = .ok (.ifCond .lt 13, 3) := by decide +kernel
theorem dX7_put_4 : decode cX7_put 4 = .ok (.iload_n 1, 1) := by decide +kernel
theorem dX7_put_5 : decode cX7_put 5 = .ok (.aload_n 0, 1) := by decide +kernel
theorem dX7_put_6 : decode cX7_put 6 = .ok (.arraylength, 1) := by decide +kernel
theorem dX7_put_7 : decode cX7_put 7 = .ok (.if_icmp .ge 7, 3) := by decide +kernel
theorem dX7_put_10 : decode cX7_put 10 = .ok (.aload_n 0, 1) := by decide +kernel
theorem dX7_put_11 : decode cX7_put 11 = .ok (.iload_n 1, 1) := by decide +kernel
theorem dX7_put_12 : decode cX7_put 12 = .ok (.iload_n 2, 1) := by decide +kernel
theorem dX7_put_13 : decode cX7_put 13 = .ok (.iastore, 1) := by decide +kernel
theorem dX7_put_14 : decode cX7_put 14 = .ok (.return_, 1) := by decide +kernel
theorem dX8_init_0 : decode cX8_init 0 = .ok (.aload_n 0, 1) := by decide +kernel
theorem dX8_init_1 : decode cX8_init 1 = .ok (.invokespecial 1, 3) := by decide +kernel
theorem dX8_init_4 : decode cX8_init 4 = .ok (.aload_n 0, 1) := by decide +kernel
theorem dX8_init_5 : decode cX8_init 5 = .ok (.bipush 88, 2) := by decide +kernel
theorem dX8_init_7 : decode cX8_init 7 = .ok (.newarray .int, 2) := by decide +kernel
theorem dX8_init_9 : decode cX8_init 9 = .ok (.putfield 7, 3) := by decide +kernel
theorem dX8_init_12 : decode cX8_init 12 = .ok (.aload_n 0, 1) := by decide +kernel
theorem dX8_init_13 : decode cX8_init 13 = .ok (.sipush 440, 3) := by decide +kernel
theorem dX8_init_16 : decode cX8_init 16 = .ok (.newarray .int, 2) := by decide +kernel
theorem dX8_init_18 : decode cX8_init 18 = .ok (.putfield 13, 3) := by decide +kernel
theorem dX8_init_21 : decode cX8_init 21 = .ok (.aload_n 0, 1) := by decide +kernel
theorem dX8_init_22 : decode cX8_init 22 = .ok (.bipush 120, 2) := by decide +kernel
theorem dX8_init_24 : decode cX8_init 24 = .ok (.newarray .int, 2) := by decide +kernel
theorem dX8_init_26 : decode cX8_init 26 = .ok (.putfield 16, 3) := by decide +kernel
theorem dX8_init_29 : decode cX8_init 29 = .ok (.aload_n 0, 1) := by decide +kernel
theorem dX8_init_30 : decode cX8_init 30 = .ok (.sipush 576, 3) := by decide +kernel
theorem dX8_init_33 : decode cX8_init 33 = .ok (.newarray .int, 2) := by decide +kernel
theorem dX8_init_35 : decode cX8_init 35 = .ok (.putfield 19, 3) := by decide +kernel
theorem dX8_init_38 : decode cX8_init 38 = .ok (.aload_n 0, 1) := by decide +kernel
theorem dX8_init_39 : decode cX8_init 39 = .ok (.bipush 12, 2) := by decide +kernel
theorem dX8_init_41 : decode cX8_init 41 = .ok (.newarray .int, 2) := by decide +kernel
theorem dX8_init_43 : decode cX8_init 43 = .ok (.putfield 22, 3) := by decide +kernel
theorem dX8_init_46 : decode cX8_init 46 = .ok (.aload_n 0, 1) := by decide +kernel
theorem dX8_init_47 : decode cX8_init 47 = .ok (.bipush 6, 2) := by decide +kernel
theorem dX8_init_49 : decode cX8_init 49 = .ok (.newarray .int, 2) := by decide +kernel
theorem dX8_init_51 : decode cX8_init 51 = .ok (.putfield 25, 3) := by decide +kernel
theorem dX8_init_54 : decode cX8_init 54 = .ok (.aload_n 0, 1) := by decide +kernel
theorem dX8_init_55 : decode cX8_init 55 = .ok (.bipush 88, 2) := by decide +kernel
theorem dX8_init_57 : decode cX8_init 57 = .ok (.newarray .int, 2) := by decide +kernel
theorem dX8_init_59 : decode cX8_init 59 = .ok (.putfield 28, 3) := by decide +kernel
theorem dX8_init_62 : decode cX8_init 62 = .ok (.aload_n 0, 1) := by decide +kernel
theorem dX8_init_63 : decode cX8_init 63 = .ok (.sipush 576, 3) := by decide +kernel
theorem dX8_init_66 : decode cX8_init 66 = .ok (.newarray .boolean, 2) := by decide +kernel
theorem dX8_init_68 : decode cX8_init 68 = .ok (.putfield 31, 3) := by decide +kernel
theorem dX8_init_71 : decode cX8_init 71 = .ok (.aload_n 0, 1) := by decide +kernel
theorem dX8_init_72 : decode cX8_init 72 = .ok (.sipush 576, 3) := by decide +kernel
theorem dX8_init_75 : decode cX8_init 75 = .ok (.newarray .int, 2) := by decide +kernel
theorem dX8_init_77 : decode cX8_init 77 = .ok (.putfield 35, 3) := by decide +kernel
theorem dX8_init_80 : decode cX8_init 80 = .ok (.aload_n 0, 1) := by decide +kernel
theorem dX8_init_81 : decode cX8_init 81 = .ok (.getfield 7, 3) := by decide +kernel
theorem dX8_init_84 : decode cX8_init 84 = .ok (.iconst 0, 1) := by decide +kernel
theorem dX8_init_85 : decode cX8_init 85 = .ok (.bipush 16, 2) := by decide +kernel
theorem dX8_init_87 : decode cX8_init 87 = .ok (.iastore, 1) := by decide +kernel
theorem dX8_init_88 : decode cX8_init 88 = .ok (.aload_n 0, 1) := by decide +kernel
theorem dX8_init_89 : decode cX8_init 89 = .ok (.getfield 7, 3) := by decide +kernel
theorem dX8_init_92 : decode cX8_init 92 = .ok (.iconst 1, 1) := by decide +kernel
theorem dX8_init_93 : decode cX8_init 93 = .ok (.bipush 12, 2) := by decide +kernel
theorem dX8_init_95 : decode cX8_init 95 = .ok (.iastore, 1) := by decide +kernel
theorem dX8_init_96 : decode cX8_init 96 = .ok (.return_, 1) := by decide +kernel
theorem dX8_in_0 : decode cX8_in 0 = .ok (.iload_n 0, 1) := by decide +kernel
theorem dX8_in_1 : decode cX8_in 1 = .ok (.iload_n 1, 1) := by decide +kernel
theorem dX8_in_2 : decode cX8_in 2 = .ok (.if_icmp .lt 12, 3) := by decide +kernel
theorem dX8_in_5 : decode cX8_in 5 = .ok (.iload_n 0, 1) := by decide +kernel
theorem dX8_in_6 : decode cX8_in 6 = .ok (.iload_n 2, 1) := by decide +kernel
theorem dX8_in_7 : decode cX8_in 7 = .ok (.if_icmp .gt 7, 3) := by decide +kernel
theorem dX8_in_10 : decode cX8_in 10 = .ok (.iconst 1, 1) := by decide +kernel
theorem dX8_in_11 : decode cX8_in 11 = .ok (.goto 4, 3) := by decide +kernel
theorem dX8_in_14 : decode cX8_in 14 = .ok (.iconst 0, 1) := by decide +kernel
theorem dX8_in_15 : decode cX8_in 15 = .ok (.ireturn, 1) := by decide +kernel
theorem dX8_size_0 : decode cX8_size 0 = .ok (.iload_n 0, 1) := by decide +kernel
theorem dX8_size_1 : decode cX8_size 1 = .ok (.ifCond .ge 8, 3) := by decide +kernel
theorem dX8_size_4 : decode cX8_size 4 = .ok (.iload_n 0, 1) := by decide +kernel
theorem dX8_size_5 : decode cX8_size 5 = .ok (.ineg, 1) := by decide +kernel
theorem dX8_size_6 : decode cX8_size 6 = .ok (.goto 4, 3) := by decide +kernel
theorem dX8_size_9 : decode cX8_size 9 = .ok (.iload_n 0, 1) := by decide +kernel
theorem dX8_size_10 : decode cX8_size 10 = .ok (.ireturn, 1) := by decide +kernel
theorem dX8_record_0 : decode cX8_record 0 = .ok (.aload_n 0, 1) := by decide +kernel
theorem dX8_record_1 : decode cX8_record 1 = .ok (.getfield 38, 3) := by decide +kernel
theorem dX8_record_4 : decode cX8_record 4 = .ok (.iconst 5, 1) := by decide +kernel
theorem dX8_record_5 : decode cX8_record 5 = .ok (.if_icmp .ne 43, 3) := by decide +kernel
theorem dX8_record_8 : decode cX8_record 8 = .ok (.iconst 0, 1) := by decide +kernel
theorem dX8_record_9 : decode cX8_record 9 = .ok (.istore_n 2, 1) := by decide +kernel
theorem dX8_record_10 : decode cX8_record 10 = .ok (.iload_n 2, 1) := by decide +kernel
theorem dX8_record_11 : decode cX8_record 11 = .ok (.sipush 352, 3) := by decide +kernel
theorem dX8_record_14 : decode cX8_record 14 = .ok (.if_icmp .ge 24, 3) := by decide +kernel
theorem dX8_record_17 : decode cX8_record 17 = .ok (.aload_n 0, 1) := by decide +kernel
theorem dX8_record_18 : decode cX8_record 18 = .ok (.getfield 13, 3) := by decide +kernel
theorem dX8_record_21 : decode cX8_record 21 = .ok (.iload_n 2, 1) := by decide +kernel
theorem dX8_record_22 : decode cX8_record 22 = .ok (.aload_n 0, 1) := by decide +kernel
theorem dX8_record_23 : decode cX8_record 23 = .ok (.getfield 13, 3) := by decide +kernel
theorem dX8_record_26 : decode cX8_record 26 = .ok (.iload_n 2, 1) := by decide +kernel
theorem dX8_record_27 : decode cX8_record 27 = .ok (.bipush 88, 2) := by decide +kernel
theorem dX8_record_29 : decode cX8_record 29 = .ok (.iadd, 1) := by decide +kernel
theorem dX8_record_30 : decode cX8_record 30 = .ok (.iaload, 1) := by decide +kernel
theorem dX8_record_31 : decode cX8_record 31 = .ok (.iastore, 1) := by decide +kernel
theorem dX8_record_32 : decode cX8_record 32 = .ok (.iinc 2 1, 3) := by decide +kernel
theorem dX8_record_35 : decode cX8_record 35 = .ok (.goto (-25), 3) := by decide +kernel
theorem dX8_record_38 : decode cX8_record 38 = .ok (.aload_n 0, 1) := by decide +kernel
theorem dX8_record_39 : decode cX8_record 39 = .ok (.dup, 1) := by decide +kernel
theorem dX8_record_40 : decode cX8_record 40 = .ok (.getfield 38, 3) := by decide +kernel
theorem dX8_record_43 : decode cX8_record 43 = .ok (.iconst 1, 1) := by decide +kernel
theorem dX8_record_44 : decode cX8_record 44 = .ok (.isub, 1) := by decide +kernel
theorem dX8_record_45 : decode cX8_record 45 = .ok (.putfield 38, 3) := by decide +kernel
theorem dX8_record_48 : decode cX8_record 48 = .ok (.iconst 0, 1) := by decide +kernel
theorem dX8_record_49 : decode cX8_record 49 = .ok (.istore_n 2, 1) := by decide +kernel
theorem dX8_record_50 : decode cX8_record 50 = .ok (.iload_n 2, 1) := by decide +kernel
theorem dX8_record_51 : decode cX8_record 51 = .ok (.bipush 88, 2) := by decide +kernel
theorem dX8_record_53 : decode cX8_record 53 = .ok (.if_icmp .ge 26, 3) := by decide +kernel
theorem dX8_record_56 : decode cX8_record 56 = .ok (.aload_n 0, 1) := by decide +kernel
theorem dX8_record_57 : decode cX8_record 57 = .ok (.getfield 13, 3) := by decide +kernel
theorem dX8_record_60 : decode cX8_record 60 = .ok (.bipush 88, 2) := by decide +kernel
theorem dX8_record_62 : decode cX8_record 62 = .ok (.aload_n 0, 1) := by decide +kernel
theorem dX8_record_63 : decode cX8_record 63 = .ok (.getfield 38, 3) := by decide +kernel
theorem dX8_record_66 : decode cX8_record 66 = .ok (.imul, 1) := by decide +kernel
theorem dX8_record_67 : decode cX8_record 67 = .ok (.iload_n 2, 1) := by decide +kernel
theorem dX8_record_68 : decode cX8_record 68 = .ok (.iadd, 1) := by decide +kernel
theorem dX8_record_69 : decode cX8_record 69 = .ok (.aload_n 1, 1) := by decide +kernel
theorem dX8_record_70 : decode cX8_record 70 = .ok (.iload_n 2, 1) := by decide +kernel
theorem dX8_record_71 : decode cX8_record 71 = .ok (.iaload, 1) := by decide +kernel
theorem dX8_record_72 : decode cX8_record 72 = .ok (.iastore, 1) := by decide +kernel
theorem dX8_record_73 : decode cX8_record 73 = .ok (.iinc 2 1, 3) := by decide +kernel
theorem dX8_record_76 : decode cX8_record 76 = .ok (.goto (-26), 3) := by decide +kernel
theorem dX8_record_79 : decode cX8_record 79 = .ok (.aload_n 0, 1) := by decide +kernel
theorem dX8_record_80 : decode cX8_record 80 = .ok (.dup, 1) := by decide +kernel
theorem dX8_record_81 : decode cX8_record 81 = .ok (.getfield 38, 3) := by decide +kernel
theorem dX8_record_84 : decode cX8_record 84 = .ok (.iconst 1, 1) := by decide +kernel
theorem dX8_record_85 : decode cX8_record 85 = .ok (.iadd, 1) := by decide +kernel
theorem dX8_record_86 : decode cX8_record 86 = .ok (.putfield 38, 3) := by decide +kernel
theorem dX8_record_89 : decode cX8_record 89 = .ok (.return_, 1) := by decide +kernel
set_option maxRecDepth 20000 in
theorem ggX8_isPiece_X8_in : GoodIn wsX8_isPiece wsX8_in := goodIn_r _ [5] (by decide +kernel) (by decide +kernel)
set_option maxRecDepth 20000 in
theorem gX8_isPiece_X8_in : GoodIn wsX8_isPiece (va_wsS RX8 42 yX8_in wsX8_in) := goodIn_app (goodIn_of _ (by decide +kernel)) ggX8_isPiece_X8_in
theorem dX8_isPiece_0 : decode cX8_isPiece 0 = .ok (.iload_n 1, 1) := by decide +kernel
theorem dX8_isPiece_1 : decode cX8_isPiece 1 = .ok (.iconst 0, 1) := by decide +kernel
theorem dX8_isPiece_2 : decode cX8_isPiece 2 = .ok (.aload_n 0, 1) := by decide +kernel
theorem dX8_isPiece_3 : decode cX8_isPiece 3 = .ok (.getfield 7, 3) := by decide +kernel
theorem dX8_isPiece_6 : decode cX8_isPiece 6 = .ok (.iconst 2, 1) := by decide +kernel
theorem dX8_isPiece_7 : decode cX8_isPiece 7 = .ok (.iaload, 1) := by decide +kernel
theorem dX8_isPiece_8 : decode cX8_isPiece 8 = .ok (.iconst 1, 1) := by decide +kernel
theorem dX8_isPiece_9 : decode cX8_isPiece 9 = .ok (.isub, 1) := by decide +kernel
theorem dX8_isPiece_10 : decode cX8_isPiece 10 = .ok (.invokestatic 42, 3) := by decide +kernel
theorem dX8_isPiece_13 : decode cX8_isPiece 13 = .ok (.ireturn, 1) := by decide +kernel
theorem dX8_of_0 : decode cX8_of 0 = .ok (.aload_n 0, 1) := by decide +kernel
theorem dX8_of_1 : decode cX8_of 1 = .ok (.getfield 7, 3) := by decide +kernel
theorem dX8_of_4 : decode cX8_of 4 = .ok (.iconst 4, 1) := by decide +kernel
theorem dX8_of_5 : decode cX8_of 5 = .ok (.bipush 6, 2) := by decide +kernel
theorem dX8_of_7 : decode cX8_of 7 = .ok (.iload_n 1, 1) := by decide +kernel
theorem dX8_of_8 : decode cX8_of 8 = .ok (.imul, 1) := by decide +kernel
theorem dX8_of_9 : decode cX8_of 9 = .ok (.iadd, 1) := by decide +kernel
theorem dX8_of_10 : decode cX8_of 10 = .ok (.iload_n 2, 1) := by decide +kernel
theorem dX8_of_11 : decode cX8_of 11 = .ok (.iadd, 1) := by decide +kernel
theorem dX8_of_12 : decode cX8_of 12 = .ok (.iaload, 1) := by decide +kernel
theorem dX8_of_13 : decode cX8_of 13 = .ok (.ireturn, 1) := by decide +kernel
set_option maxRecDepth 20000 in
theorem ggX8_area_X8_of : GoodIn wsX8_area wsX8_of := goodIn_r _ [5, 6, 7, 8, 9, 10, 11, 12, 13, 14, 15, 16, 17, 18, 19, 20, 21, 22, 23, 24, 25] (by decide +kernel) (by decide +kernel)
set_option maxRecDepth 20000 in
theorem gX8_area_X8_of : GoodIn wsX8_area (wsV RX8 46 RX8 yX8_of wsX8_of) := goodIn_app (goodIn_of _ (by decide +kernel)) ggX8_area_X8_of
theorem dX8_area_0 : decode cX8_area 0 = .ok (.aload_n 0, 1) := by decide +kernel
theorem dX8_area_1 : decode cX8_area 1 = .ok (.iload_n 1, 1) := by decide +kernel
theorem dX8_area_2 : decode cX8_area 2 = .ok (.iconst 2, 1) := by decide +kernel
theorem dX8_area_3 : decode cX8_area 3 = .ok (.invokevirtual 46, 3) := by decide +kernel
theorem dX8_area_6 : decode cX8_area 6 = .ok (.aload_n 0, 1) := by decide +kernel
theorem dX8_area_7 : decode cX8_area 7 = .ok (.iload_n 1, 1) := by decide +kernel
theorem dX8_area_8 : decode cX8_area 8 = .ok (.iconst 3, 1) := by decide +kernel
theorem dX8_area_9 : decode cX8_area 9 = .ok (.invokevirtual 46, 3) := by decide +kernel
theorem dX8_area_12 : decode cX8_area 12 = .ok (.imul, 1) := by decide +kernel
theorem dX8_area_13 : decode cX8_area 13 = .ok (.ireturn, 1) := by decide +kernel
theorem dX8_layerOf_0 : decode cX8_layerOf 0 = .ok (.iconst 0, 1) := by decide +kernel
theorem dX8_layerOf_1 : decode cX8_layerOf 1 = .ok (.istore_n 2, 1) := by decide +kernel
theorem dX8_layerOf_2 : decode cX8_layerOf 2 = .ok (.iconst 0, 1) := by decide +kernel
theorem dX8_layerOf_3 : decode cX8_layerOf 3 = .ok (.istore_n 3, 1) := by decide +kernel
theorem dX8_layerOf_4 : decode cX8_layerOf 4 = .ok (.iload_n 3, 1) := by decide +kernel
theorem dX8_layerOf_5 : decode cX8_layerOf 5 = .ok (.aload_n 0, 1) := by decide +kernel
theorem dX8_layerOf_6 : decode cX8_layerOf 6 = .ok (.getfield 7, 3) := by decide +kernel
theorem dX8_layerOf_9 : decode cX8_layerOf 9 = .ok (.iconst 2, 1) := by decide +kernel
theorem dX8_layerOf_10 : decode cX8_layerOf 10 = .ok (.iaload, 1) := by decide +kernel
theorem dX8_layerOf_11 : decode cX8_layerOf 11 = .ok (.if_icmp .ge 28, 3) := by decide +kernel
theorem dX8_layerOf_14 : decode cX8_layerOf 14 = .ok (.aload_n 0, 1) := by decide +kernel
theorem dX8_layerOf_15 : decode cX8_layerOf 15 = .ok (.getfield 7, 3) := by decide +kernel
theorem dX8_layerOf_18 : decode cX8_layerOf 18 = .ok (.bipush 76, 2) := by decide +kernel
theorem dX8_layerOf_20 : decode cX8_layerOf 20 = .ok (.iload_n 3, 1) := by decide +kernel
theorem dX8_layerOf_21 : decode cX8_layerOf 21 = .ok (.iadd, 1) := by decide +kernel
theorem dX8_layerOf_22 : decode cX8_layerOf 22 = .ok (.iaload, 1) := by decide +kernel
theorem dX8_layerOf_23 : decode cX8_layerOf 23 = .ok (.iload_n 1, 1) := by decide +kernel
theorem dX8_layerOf_24 : decode cX8_layerOf 24 = .ok (.if_icmp .ne 7, 3) := by decide +kernel
theorem dX8_layerOf_27 : decode cX8_layerOf 27 = .ok (.iload_n 3, 1) := by decide +kernel
theorem dX8_layerOf_28 : decode cX8_layerOf 28 = .ok (.goto 4, 3) := by decide +kernel
theorem dX8_layerOf_31 : decode cX8_layerOf 31 = .ok (.iload_n 2, 1) := by decide +kernel
theorem dX8_layerOf_32 : decode cX8_layerOf 32 = .ok (.istore_n 2, 1) := by decide +kernel
theorem dX8_layerOf_33 : decode cX8_layerOf 33 = .ok (.iinc 3 1, 3) := by decide +kernel
theorem dX8_layerOf_36 : decode cX8_layerOf 36 = .ok (.goto (-32), 3) := by decide +kernel
theorem dX8_layerOf_39 : decode cX8_layerOf 39 = .ok (.iload_n 2, 1) := by decide +kernel
theorem dX8_layerOf_40 : decode cX8_layerOf 40 = .ok (.ireturn, 1) := by decide +kernel
set_option maxRecDepth 20000 in
theorem ggX8_covers_X8_of : GoodIn wsX8_covers wsX8_of := goodIn_r _ [5, 6, 10, 11, 12, 13, 14, 15, 16, 17, 18, 19, 20, 21, 22, 23, 24, 25, 26, 27, 28] (by decide +kernel) (by decide +kernel)
set_option maxRecDepth 20000 in
theorem gX8_covers_X8_of : GoodIn wsX8_covers (wsV RX8 46 RX8 yX8_of wsX8_of) := goodIn_app (goodIn_of _ (by decide +kernel)) ggX8_covers_X8_of
set_option maxRecDepth 20000 in
theorem ggX8_covers_X8_in : GoodIn wsX8_covers wsX8_in := goodIn_r _ [9] (by decide +kernel) (by decide +kernel)
set_option maxRecDepth 20000 in
theorem gX8_covers_X8_in : GoodIn wsX8_covers (va_wsS RX8 42 yX8_in wsX8_in) := goodIn_app (goodIn_of _ (by decide +kernel)) ggX8_covers_X8_in
theorem dX8_covers_0 : decode cX8_covers 0 = .ok (.iload_n 2, 1) := by decide +kernel
theorem dX8_covers_1 : decode cX8_covers 1 = .ok (.aload_n 0, 1) := by decide +kernel
theorem dX8_covers_2 : decode cX8_covers 2 = .ok (.iload_n 1, 1) := by decide +kernel
theorem dX8_covers_3 : decode cX8_covers 3 = .ok (.iconst 0, 1) := by decide +kernel
theorem dX8_covers_4 : decode cX8_covers 4 = .ok (.invokevirtual 46, 3) := by decide +kernel
theorem dX8_covers_7 : decode cX8_covers 7 = .ok (.isub, 1) := by decide +kernel
theorem dX8_covers_8 : decode cX8_covers 8 = .ok (.iconst 0, 1) := by decide +kernel
theorem dX8_covers_9 : decode cX8_covers 9 = .ok (.aload_n 0, 1) := by decide +kernel
theorem dX8_covers_10 : decode cX8_covers 10 = .ok (.iload_n 1, 1) := by decide +kernel
theorem dX8_covers_11 : decode cX8_covers 11 = .ok (.iconst 2, 1) := by decide +kernel
theorem dX8_covers_12 : decode cX8_covers 12 = .ok (.invokevirtual 46, 3) := by decide +kernel
theorem dX8_covers_15 : decode cX8_covers 15 = .ok (.iconst 1, 1) := by decide +kernel
theorem dX8_covers_16 : decode cX8_covers 16 = .ok (.isub, 1) := by decide +kernel
theorem dX8_covers_17 : decode cX8_covers 17 = .ok (.invokestatic 42, 3) := by decide +kernel
theorem dX8_covers_20 : decode cX8_covers 20 = .ok (.ifCond .eq 30, 3) := by decide +kernel
theorem dX8_covers_23 : decode cX8_covers 23 = .ok (.iload_n 3, 1) := by decide +kernel
theorem dX8_covers_24 : decode cX8_covers 24 = .ok (.aload_n 0, 1) := by decide +kernel
theorem dX8_covers_25 : decode cX8_covers 25 = .ok (.iload_n 1, 1) := by decide +kernel
theorem dX8_covers_26 : decode cX8_covers 26 = .ok (.iconst 1, 1) := by decide +kernel
theorem dX8_covers_27 : decode cX8_covers 27 = .ok (.invokevirtual 46, 3) := by decide +kernel
theorem dX8_covers_30 : decode cX8_covers 30 = .ok (.isub, 1) := by decide +kernel
theorem dX8_covers_31 : decode cX8_covers 31 = .ok (.iconst 0, 1) := by decide +kernel
theorem dX8_covers_32 : decode cX8_covers 32 = .ok (.aload_n 0, 1) := by decide +kernel
theorem dX8_covers_33 : decode cX8_covers 33 = .ok (.iload_n 1, 1) := by decide +kernel
theorem dX8_covers_34 : decode cX8_covers 34 = .ok (.iconst 3, 1) := by decide +kernel
theorem dX8_covers_35 : decode cX8_covers 35 = .ok (.invokevirtual 46, 3) := by decide +kernel
theorem dX8_covers_38 : decode cX8_covers 38 = .ok (.iconst 1, 1) := by decide +kernel
theorem dX8_covers_39 : decode cX8_covers 39 = .ok (.isub, 1) := by decide +kernel
theorem dX8_covers_40 : decode cX8_covers 40 = .ok (.invokestatic 42, 3) := by decide +kernel
theorem dX8_covers_43 : decode cX8_covers 43 = .ok (.ifCond .eq 7, 3) := by decide +kernel
theorem dX8_covers_46 : decode cX8_covers 46 = .ok (.iconst 1, 1) := by decide +kernel
theorem dX8_covers_47 : decode cX8_covers 47 = .ok (.goto 4, 3) := by decide +kernel
theorem dX8_covers_50 : decode cX8_covers 50 = .ok (.iconst 0, 1) := by decide +kernel
theorem dX8_covers_51 : decode cX8_covers 51 = .ok (.ireturn, 1) := by decide +kernel
set_option maxRecDepth 20000 in
theorem ggX8_paintPiece_X8_of : GoodIn wsX8_paintPiece wsX8_of := goodIn_r _ [7, 1, 8, 9, 10, 11, 12, 13, 14, 15, 16, 17, 18, 19, 20, 21, 22, 23, 24, 25, 26] (by decide +kernel) (by decide +kernel)
set_option maxRecDepth 20000 in
theorem gX8_paintPiece_X8_of : GoodIn wsX8_paintPiece (wsV RX8 46 RX8 yX8_of wsX8_of) := goodIn_app (goodIn_of _ (by decide +kernel)) ggX8_paintPiece_X8_of
theorem dX8_paintPiece_0 : decode cX8_paintPiece 0 = .ok (.aload_n 0, 1) := by decide +kernel
theorem dX8_paintPiece_1 : decode cX8_paintPiece 1 = .ok (.iload_n 1, 1) := by decide +kernel
theorem dX8_paintPiece_2 : decode cX8_paintPiece 2 = .ok (.iconst 0, 1) := by decide +kernel
theorem dX8_paintPiece_3 : decode cX8_paintPiece 3 = .ok (.invokevirtual 46, 3) := by decide +kernel
theorem dX8_paintPiece_6 : decode cX8_paintPiece 6 = .ok (.ifCond .ge 7, 3) := by decide +kernel
theorem dX8_paintPiece_9 : decode cX8_paintPiece 9 = .ok (.iconst 0, 1) := by decide +kernel
theorem dX8_paintPiece_10 : decode cX8_paintPiece 10 = .ok (.goto 9, 3) := by decide +kernel
theorem dX8_paintPiece_13 : decode cX8_paintPiece 13 = .ok (.aload_n 0, 1) := by decide +kernel
theorem dX8_paintPiece_14 : decode cX8_paintPiece 14 = .ok (.iload_n 1, 1) := by decide +kernel
theorem dX8_paintPiece_15 : decode cX8_paintPiece 15 = .ok (.iconst 0, 1) := by decide +kernel
theorem dX8_paintPiece_16 : decode cX8_paintPiece 16 = .ok (.invokevirtual 46, 3) := by decide +kernel
theorem dX8_paintPiece_19 : decode cX8_paintPiece 19 = .ok (.istore_n 2, 1) := by decide +kernel
theorem dX8_paintPiece_20 : decode cX8_paintPiece 20 = .ok (.aload_n 0, 1) := by decide +kernel
theorem dX8_paintPiece_21 : decode cX8_paintPiece 21 = .ok (.iload_n 1, 1) := by decide +kernel
theorem dX8_paintPiece_22 : decode cX8_paintPiece 22 = .ok (.iconst 1, 1) := by decide +kernel
theorem dX8_paintPiece_23 : decode cX8_paintPiece 23 = .ok (.invokevirtual 46, 3) := by decide +kernel
theorem dX8_paintPiece_26 : decode cX8_paintPiece 26 = .ok (.ifCond .ge 7, 3) := by decide +kernel
theorem dX8_paintPiece_29 : decode cX8_paintPiece 29 = .ok (.iconst 0, 1) := by decide +kernel
theorem dX8_paintPiece_30 : decode cX8_paintPiece 30 = .ok (.goto 9, 3) := by decide +kernel
theorem dX8_paintPiece_33 : decode cX8_paintPiece 33 = .ok (.aload_n 0, 1) := by decide +kernel
theorem dX8_paintPiece_34 : decode cX8_paintPiece 34 = .ok (.iload_n 1, 1) := by decide +kernel
theorem dX8_paintPiece_35 : decode cX8_paintPiece 35 = .ok (.iconst 1, 1) := by decide +kernel
theorem dX8_paintPiece_36 : decode cX8_paintPiece 36 = .ok (.invokevirtual 46, 3) := by decide +kernel
theorem dX8_paintPiece_39 : decode cX8_paintPiece 39 = .ok (.istore_n 3, 1) := by decide +kernel
theorem dX8_paintPiece_40 : decode cX8_paintPiece 40 = .ok (.aload_n 0, 1) := by decide +kernel
theorem dX8_paintPiece_41 : decode cX8_paintPiece 41 = .ok (.iload_n 1, 1) := by decide +kernel
theorem dX8_paintPiece_42 : decode cX8_paintPiece 42 = .ok (.iconst 0, 1) := by decide +kernel
theorem dX8_paintPiece_43 : decode cX8_paintPiece 43 = .ok (.invokevirtual 46, 3) := by decide +kernel
theorem dX8_paintPiece_46 : decode cX8_paintPiece 46 = .ok (.aload_n 0, 1) := by decide +kernel
theorem dX8_paintPiece_47 : decode cX8_paintPiece 47 = .ok (.iload_n 1, 1) := by decide +kernel
theorem dX8_paintPiece_48 : decode cX8_paintPiece 48 = .ok (.iconst 2, 1) := by decide +kernel
theorem dX8_paintPiece_49 : decode cX8_paintPiece 49 = .ok (.invokevirtual 46, 3) := by decide +kernel
theorem dX8_paintPiece_52 : decode cX8_paintPiece 52 = .ok (.iadd, 1) := by decide +kernel
theorem dX8_paintPiece_53 : decode cX8_paintPiece 53 = .ok (.aload_n 0, 1) := by decide +kernel
theorem dX8_paintPiece_54 : decode cX8_paintPiece 54 = .ok (.getfield 7, 3) := by decide +kernel
theorem dX8_paintPiece_57 : decode cX8_paintPiece 57 = .ok (.iconst 0, 1) := by decide +kernel
theorem dX8_paintPiece_58 : decode cX8_paintPiece 58 = .ok (.iaload, 1) := by decide +kernel
theorem dX8_paintPiece_59 : decode cX8_paintPiece 59 = .ok (.if_icmp .ge 19, 3) := by decide +kernel
theorem dX8_paintPiece_62 : decode cX8_paintPiece 62 = .ok (.aload_n 0, 1) := by decide +kernel
theorem dX8_paintPiece_63 : decode cX8_paintPiece 63 = .ok (.iload_n 1, 1) := by decide +kernel
theorem dX8_paintPiece_64 : decode cX8_paintPiece 64 = .ok (.iconst 0, 1) := by decide +kernel
theorem dX8_paintPiece_65 : decode cX8_paintPiece 65 = .ok (.invokevirtual 46, 3) := by decide +kernel
theorem dX8_paintPiece_68 : decode cX8_paintPiece 68 = .ok (.aload_n 0, 1) := by decide +kernel
theorem dX8_paintPiece_69 : decode cX8_paintPiece 69 = .ok (.iload_n 1, 1) := by decide +kernel
theorem dX8_paintPiece_70 : decode cX8_paintPiece 70 = .ok (.iconst 2, 1) := by decide +kernel
theorem dX8_paintPiece_71 : decode cX8_paintPiece 71 = .ok (.invokevirtual 46, 3) := by decide +kernel
theorem dX8_paintPiece_74 : decode cX8_paintPiece 74 = .ok (.iadd, 1) := by decide +kernel
theorem dX8_paintPiece_75 : decode cX8_paintPiece 75 = .ok (.goto 9, 3) := by decide +kernel
theorem dX8_paintPiece_78 : decode cX8_paintPiece 78 = .ok (.aload_n 0, 1) := by decide +kernel
theorem dX8_paintPiece_79 : decode cX8_paintPiece 79 = .ok (.getfield 7, 3) := by decide +kernel
theorem dX8_paintPiece_82 : decode cX8_paintPiece 82 = .ok (.iconst 0, 1) := by decide +kernel
theorem dX8_paintPiece_83 : decode cX8_paintPiece 83 = .ok (.iaload, 1) := by decide +kernel
theorem dX8_paintPiece_84 : decode cX8_paintPiece 84 = .ok (.istore 4, 2) := by decide +kernel
theorem dX8_paintPiece_86 : decode cX8_paintPiece 86 = .ok (.aload_n 0, 1) := by decide +kernel
theorem dX8_paintPiece_87 : decode cX8_paintPiece 87 = .ok (.iload_n 1, 1) := by decide +kernel
theorem dX8_paintPiece_88 : decode cX8_paintPiece 88 = .ok (.iconst 1, 1) := by decide +kernel
theorem dX8_paintPiece_89 : decode cX8_paintPiece 89 = .ok (.invokevirtual 46, 3) := by decide +kernel
theorem dX8_paintPiece_92 : decode cX8_paintPiece 92 = .ok (.aload_n 0, 1) := by decide +kernel
theorem dX8_paintPiece_93 : decode cX8_paintPiece 93 = .ok (.iload_n 1, 1) := by decide +kernel
theorem dX8_paintPiece_94 : decode cX8_paintPiece 94 = .ok (.iconst 3, 1) := by decide +kernel
theorem dX8_paintPiece_95 : decode cX8_paintPiece 95 = .ok (.invokevirtual 46, 3) := by decide +kernel
theorem dX8_paintPiece_98 : decode cX8_paintPiece 98 = .ok (.iadd, 1) := by decide +kernel
theorem dX8_paintPiece_99 : decode cX8_paintPiece 99 = .ok (.aload_n 0, 1) := by decide +kernel
theorem dX8_paintPiece_100 : decode cX8_paintPiece 100 = .ok (.getfield 7, 3) := by decide +kernel
theorem dX8_paintPiece_103 : decode cX8_paintPiece 103 = .ok (.iconst 1, 1) := by decide +kernel
theorem dX8_paintPiece_104 : decode cX8_paintPiece 104 = .ok (.iaload, 1) := by decide +kernel
theorem dX8_paintPiece_105 : decode cX8_paintPiece 105 = .ok (.if_icmp .ge 19, 3) := by decide +kernel
theorem dX8_paintPiece_108 : decode cX8_paintPiece 108 = .ok (.aload_n 0, 1) := by decide +kernel
theorem dX8_paintPiece_109 : decode cX8_paintPiece 109 = .ok (.iload_n 1, 1) := by decide +kernel
theorem dX8_paintPiece_110 : decode cX8_paintPiece 110 = .ok (.iconst 1, 1) := by decide +kernel
theorem dX8_paintPiece_111 : decode cX8_paintPiece 111 = .ok (.invokevirtual 46, 3) := by decide +kernel
theorem dX8_paintPiece_114 : decode cX8_paintPiece 114 = .ok (.aload_n 0, 1) := by decide +kernel
theorem dX8_paintPiece_115 : decode cX8_paintPiece 115 = .ok (.iload_n 1, 1) := by decide +kernel
theorem dX8_paintPiece_116 : decode cX8_paintPiece 116 = .ok (.iconst 3, 1) := by decide +kernel
theorem dX8_paintPiece_117 : decode cX8_paintPiece 117 = .ok (.invokevirtual 46, 3) := by decide +kernel
theorem dX8_paintPiece_120 : decode cX8_paintPiece 120 = .ok (.iadd, 1) := by decide +kernel
theorem dX8_paintPiece_121 : decode cX8_paintPiece 121 = .ok (.goto 9, 3) := by decide +kernel
theorem dX8_paintPiece_124 : decode cX8_paintPiece 124 = .ok (.aload_n 0, 1) := by decide +kernel
theorem dX8_paintPiece_125 : decode cX8_paintPiece 125 = .ok (.getfield 7, 3) := by decide +kernel
theorem dX8_paintPiece_128 : decode cX8_paintPiece 128 = .ok (.iconst 1, 1) := by decide +kernel
theorem dX8_paintPiece_129 : decode cX8_paintPiece 129 = .ok (.iaload, 1) := by decide +kernel
theorem dX8_paintPiece_130 : decode cX8_paintPiece 130 = .ok (.istore 5, 2) := by decide +kernel
theorem dX8_paintPiece_132 : decode cX8_paintPiece 132 = .ok (.iload_n 3, 1) := by decide +kernel
theorem dX8_paintPiece_133 : decode cX8_paintPiece 133 = .ok (.istore 6, 2) := by decide +kernel
theorem dX8_paintPiece_135 : decode cX8_paintPiece 135 = .ok (.iload 6, 2) := by decide +kernel
theorem dX8_paintPiece_137 : decode cX8_paintPiece 137 = .ok (.iload 5, 2) := by decide +kernel
theorem dX8_paintPiece_139 : decode cX8_paintPiece 139 = .ok (.if_icmp .ge 43, 3) := by decide +kernel
theorem dX8_paintPiece_142 : decode cX8_paintPiece 142 = .ok (.iload_n 2, 1) := by decide +kernel
theorem dX8_paintPiece_143 : decode cX8_paintPiece 143 = .ok (.istore 7, 2) := by decide +kernel
theorem dX8_paintPiece_145 : decode cX8_paintPiece 145 = .ok (.iload 7, 2) := by decide +kernel
theorem dX8_paintPiece_147 : decode cX8_paintPiece 147 = .ok (.iload 4, 2) := by decide +kernel
theorem dX8_paintPiece_149 : decode cX8_paintPiece 149 = .ok (.if_icmp .ge 27, 3) := by decide +kernel
theorem dX8_paintPiece_152 : decode cX8_paintPiece 152 = .ok (.aload_n 0, 1) := by decide +kernel
theorem dX8_paintPiece_153 : decode cX8_paintPiece 153 = .ok (.getfield 19, 3) := by decide +kernel
theorem dX8_paintPiece_156 : decode cX8_paintPiece 156 = .ok (.aload_n 0, 1) := by decide +kernel
theorem dX8_paintPiece_157 : decode cX8_paintPiece 157 = .ok (.getfield 7, 3) := by decide +kernel
theorem dX8_paintPiece_160 : decode cX8_paintPiece 160 = .ok (.iconst 0, 1) := by decide +kernel
theorem dX8_paintPiece_161 : decode cX8_paintPiece 161 = .ok (.iaload, 1) := by decide +kernel
theorem dX8_paintPiece_162 : decode cX8_paintPiece 162 = .ok (.iload 6, 2) := by decide +kernel
theorem dX8_paintPiece_164 : decode cX8_paintPiece 164 = .ok (.imul, 1) := by decide +kernel
theorem dX8_paintPiece_165 : decode cX8_paintPiece 165 = .ok (.iload 7, 2) := by decide +kernel
theorem dX8_paintPiece_167 : decode cX8_paintPiece 167 = .ok (.iadd, 1) := by decide +kernel
theorem dX8_paintPiece_168 : decode cX8_paintPiece 168 = .ok (.iload_n 1, 1) := by decide +kernel
theorem dX8_paintPiece_169 : decode cX8_paintPiece 169 = .ok (.iastore, 1) := by decide +kernel
theorem dX8_paintPiece_170 : decode cX8_paintPiece 170 = .ok (.iinc 7 1, 3) := by decide +kernel
theorem dX8_paintPiece_173 : decode cX8_paintPiece 173 = .ok (.goto (-28), 3) := by decide +kernel
theorem dX8_paintPiece_176 : decode cX8_paintPiece 176 = .ok (.iinc 6 1, 3) := by decide +kernel
theorem dX8_paintPiece_179 : decode cX8_paintPiece 179 = .ok (.goto (-44), 3) := by decide +kernel
theorem dX8_paintPiece_182 : decode cX8_paintPiece 182 = .ok (.return_, 1) := by decide +kernel
set_option maxRecDepth 20000 in
theorem ggX8_paintWithout_X8_paintPiece : GoodIn wsX8_paintWithout wsX8_paintPiece := goodIn_r _ [8, 1, 2, 9, 10, 11, 7, 12, 13, 14, 15, 16, 17, 18, 19, 20, 21, 22, 23, 24, 25, 26, 27, 28, 29, 30, 31] (by decide +kernel) (by decide +kernel)
set_option maxRecDepth 20000 in
theorem gX8_paintWithout_X8_paintPiece : GoodIn wsX8_paintWithout (wsV RX8 50 RX8 yX8_paintPiece wsX8_paintPiece) := goodIn_app (goodIn_of _ (by decide +kernel)) ggX8_paintWithout_X8_paintPiece
theorem dX8_paintWithout_0 : decode cX8_paintWithout 0 = .ok (.aload_n 0, 1) := by decide +kernel
theorem dX8_paintWithout_1 : decode cX8_paintWithout 1 = .ok (.getfield 7, 3) := by decide +kernel
theorem dX8_paintWithout_4 : decode cX8_paintWithout 4 = .ok (.iconst 0, 1) := by decide +kernel
theorem dX8_paintWithout_5 : decode cX8_paintWithout 5 = .ok (.iaload, 1) := by decide +kernel
theorem dX8_paintWithout_6 : decode cX8_paintWithout 6 = .ok (.aload_n 0, 1) := by decide +kernel
theorem dX8_paintWithout_7 : decode cX8_paintWithout 7 = .ok (.getfield 7, 3) := by decide +kernel
theorem dX8_paintWithout_10 : decode cX8_paintWithout 10 = .ok (.iconst 1, 1) := by decide +kernel
theorem dX8_paintWithout_11 : decode cX8_paintWithout 11 = .ok (.iaload, 1) := by decide +kernel
theorem dX8_paintWithout_12 : decode cX8_paintWithout 12 = .ok (.imul, 1) := by decide +kernel
theorem dX8_paintWithout_13 : decode cX8_paintWithout 13 = .ok (.istore_n 2, 1) := by decide +kernel
theorem dX8_paintWithout_14 : decode cX8_paintWithout 14 = .ok (.iconst 0, 1) := by decide +kernel
theorem dX8_paintWithout_15 : decode cX8_paintWithout 15 = .ok (.istore_n 3, 1) := by decide +kernel
theorem dX8_paintWithout_16 : decode cX8_paintWithout 16 = .ok (.iload_n 3, 1) := by decide +kernel
theorem dX8_paintWithout_17 : decode cX8_paintWithout 17 = .ok (.iload_n 2, 1) := by decide +kernel
theorem dX8_paintWithout_18 : decode cX8_paintWithout 18 = .ok (.if_icmp .ge 16, 3) := by decide +kernel
theorem dX8_paintWithout_21 : decode cX8_paintWithout 21 = .ok (.aload_n 0, 1) := by decide +kernel
theorem dX8_paintWithout_22 : decode cX8_paintWithout 22 = .ok (.getfield 19, 3) := by decide +kernel
theorem dX8_paintWithout_25 : decode cX8_paintWithout 25 = .ok (.iload_n 3, 1) := by decide +kernel
theorem dX8_paintWithout_26 : decode cX8_paintWithout 26 = .ok (.iconst (-1), 1) := by decide +kernel
theorem dX8_paintWithout_27 : decode cX8_paintWithout 27 = .ok (.iastore, 1) := by decide +kernel
theorem dX8_paintWithout_28 : decode cX8_paintWithout 28 = .ok (.iinc 3 1, 3) := by decide +kernel
theorem dX8_paintWithout_31 : decode cX8_paintWithout 31 = .ok (.goto (-15), 3) := by decide +kernel
theorem dX8_paintWithout_34 : decode cX8_paintWithout 34 = .ok (.iconst 0, 1) := by decide +kernel
theorem dX8_paintWithout_35 : decode cX8_paintWithout 35 = .ok (.istore_n 3, 1) := by decide +kernel
theorem dX8_paintWithout_36 : decode cX8_paintWithout 36 = .ok (.iload_n 3, 1) := by decide +kernel
theorem dX8_paintWithout_37 : decode cX8_paintWithout 37 = .ok (.aload_n 0, 1) := by decide +kernel
theorem dX8_paintWithout_38 : decode cX8_paintWithout 38 = .ok (.getfield 7, 3) := by decide +kernel
theorem dX8_paintWithout_41 : decode cX8_paintWithout 41 = .ok (.iconst 2, 1) := by decide +kernel
theorem dX8_paintWithout_42 : decode cX8_paintWithout 42 = .ok (.iaload, 1) := by decide +kernel
theorem dX8_paintWithout_43 : decode cX8_paintWithout 43 = .ok (.if_icmp .ge 35, 3) := by decide +kernel
theorem dX8_paintWithout_46 : decode cX8_paintWithout 46 = .ok (.aload_n 0, 1) := by decide +kernel
theorem dX8_paintWithout_47 : decode cX8_paintWithout 47 = .ok (.getfield 7, 3) := by decide +kernel
theorem dX8_paintWithout_50 : decode cX8_paintWithout 50 = .ok (.bipush 76, 2) := by decide +kernel
theorem dX8_paintWithout_52 : decode cX8_paintWithout 52 = .ok (.iload_n 3, 1) := by decide +kernel
theorem dX8_paintWithout_53 : decode cX8_paintWithout 53 = .ok (.iadd, 1) := by decide +kernel
theorem dX8_paintWithout_54 : decode cX8_paintWithout 54 = .ok (.iaload, 1) := by decide +kernel
theorem dX8_paintWithout_55 : decode cX8_paintWithout 55 = .ok (.iload_n 1, 1) := by decide +kernel
theorem dX8_paintWithout_56 : decode cX8_paintWithout 56 = .ok (.if_icmp .eq 16, 3) := by decide +kernel
theorem dX8_paintWithout_59 : decode cX8_paintWithout 59 = .ok (.aload_n 0, 1) := by decide +kernel
theorem dX8_paintWithout_60 : decode cX8_paintWithout 60 = .ok (.aload_n 0, 1) := by decide +kernel
theorem dX8_paintWithout_61 : decode cX8_paintWithout 61 = .ok (.getfield 7, 3) := by decide +kernel
theorem dX8_paintWithout_64 : decode cX8_paintWithout 64 = .ok (.bipush 76, 2) := by decide +kernel
theorem dX8_paintWithout_66 : decode cX8_paintWithout 66 = .ok (.iload_n 3, 1) := by decide +kernel
theorem dX8_paintWithout_67 : decode cX8_paintWithout 67 = .ok (.iadd, 1) := by decide +kernel
theorem dX8_paintWithout_68 : decode cX8_paintWithout 68 = .ok (.iaload, 1) := by decide +kernel
theorem dX8_paintWithout_69 : decode cX8_paintWithout 69 = .ok (.invokevirtual 50, 3) := by decide +kernel
theorem dX8_paintWithout_72 : decode cX8_paintWithout 72 = .ok (.iinc 3 1, 3) := by decide +kernel
theorem dX8_paintWithout_75 : decode cX8_paintWithout 75 = .ok (.goto (-39), 3) := by decide +kernel
theorem dX8_paintWithout_78 : decode cX8_paintWithout 78 = .ok (.iconst 0, 1) := by decide +kernel
theorem dX8_paintWithout_79 : decode cX8_paintWithout 79 = .ok (.istore_n 3, 1) := by decide +kernel
theorem dX8_paintWithout_80 : decode cX8_paintWithout 80 = .ok (.iload_n 3, 1) := by decide +kernel
theorem dX8_paintWithout_81 : decode cX8_paintWithout 81 = .ok (.bipush 12, 2) := by decide +kernel
theorem dX8_paintWithout_83 : decode cX8_paintWithout 83 = .ok (.if_icmp .ge 16, 3) := by decide +kernel
theorem dX8_paintWithout_86 : decode cX8_paintWithout 86 = .ok (.aload_n 0, 1) := by decide +kernel
theorem dX8_paintWithout_87 : decode cX8_paintWithout 87 = .ok (.getfield 22, 3) := by decide +kernel
theorem dX8_paintWithout_90 : decode cX8_paintWithout 90 = .ok (.iload_n 3, 1) := by decide +kernel
theorem dX8_paintWithout_91 : decode cX8_paintWithout 91 = .ok (.iconst 0, 1) := by decide +kernel
theorem dX8_paintWithout_92 : decode cX8_paintWithout 92 = .ok (.iastore, 1) := by decide +kernel
theorem dX8_paintWithout_93 : decode cX8_paintWithout 93 = .ok (.iinc 3 1, 3) := by decide +kernel
theorem dX8_paintWithout_96 : decode cX8_paintWithout 96 = .ok (.goto (-16), 3) := by decide +kernel
theorem dX8_paintWithout_99 : decode cX8_paintWithout 99 = .ok (.iconst 0, 1) := by decide +kernel
theorem dX8_paintWithout_100 : decode cX8_paintWithout 100 = .ok (.istore_n 3, 1) := by decide +kernel
theorem dX8_paintWithout_101 : decode cX8_paintWithout 101 = .ok (.iload_n 3, 1) := by decide +kernel
theorem dX8_paintWithout_102 : decode cX8_paintWithout 102 = .ok (.iload_n 2, 1) := by decide +kernel
theorem dX8_paintWithout_103 : decode cX8_paintWithout 103 = .ok (.if_icmp .ge 34, 3) := by decide +kernel
theorem dX8_paintWithout_106 : decode cX8_paintWithout 106 = .ok (.aload_n 0, 1) := by decide +kernel
theorem dX8_paintWithout_107 : decode cX8_paintWithout 107 = .ok (.getfield 19, 3) := by decide +kernel
theorem dX8_paintWithout_110 : decode cX8_paintWithout 110 = .ok (.iload_n 3, 1) := by decide +kernel
theorem dX8_paintWithout_111 : decode cX8_paintWithout 111 = .ok (.iaload, 1) := by decide +kernel
theorem dX8_paintWithout_112 : decode cX8_paintWithout 112 = .ok (.iconst (-1), 1) := by decide +kernel
theorem dX8_paintWithout_113 : decode cX8_paintWithout 113 = .ok (.if_icmp .eq 18, 3) := by decide +kernel
theorem dX8_paintWithout_116 : decode cX8_paintWithout 116 = .ok (.aload_n 0, 1) := by decide +kernel
theorem dX8_paintWithout_117 : decode cX8_paintWithout 117 = .ok (.getfield 22, 3) := by decide +kernel
theorem dX8_paintWithout_120 : decode cX8_paintWithout 120 = .ok (.aload_n 0, 1) := by decide +kernel
theorem dX8_paintWithout_121 : decode cX8_paintWithout 121 = .ok (.getfield 19, 3) := by decide +kernel
theorem dX8_paintWithout_124 : decode cX8_paintWithout 124 = .ok (.iload_n 3, 1) := by decide +kernel
theorem dX8_paintWithout_125 : decode cX8_paintWithout 125 = .ok (.iaload, 1) := by decide +kernel
theorem dX8_paintWithout_126 : decode cX8_paintWithout 126 = .ok (.dup2, 1) := by decide +kernel
theorem dX8_paintWithout_127 : decode cX8_paintWithout 127 = .ok (.iaload, 1) := by decide +kernel
theorem dX8_paintWithout_128 : decode cX8_paintWithout 128 = .ok (.iconst 1, 1) := by decide +kernel
theorem dX8_paintWithout_129 : decode cX8_paintWithout 129 = .ok (.iadd, 1) := by decide +kernel
theorem dX8_paintWithout_130 : decode cX8_paintWithout 130 = .ok (.iastore, 1) := by decide +kernel
theorem dX8_paintWithout_131 : decode cX8_paintWithout 131 = .ok (.iinc 3 1, 3) := by decide +kernel
theorem dX8_paintWithout_134 : decode cX8_paintWithout 134 = .ok (.goto (-33), 3) := by decide +kernel
theorem dX8_paintWithout_137 : decode cX8_paintWithout 137 = .ok (.return_, 1) := by decide +kernel
set_option maxRecDepth 20000 in
theorem ggX8_paint_X8_paintWithout : GoodIn wsX8_paint wsX8_paintWithout := goodIn_r _ [5, 6, 7, 8, 9, 10, 11, 4, 12, 13, 14, 15, 16, 17, 18, 19, 20, 21, 22, 23, 24, 25, 26, 27, 28, 29, 30, 31, 32, 33, 34, 35] (by decide +kernel) (by decide +kernel)
set_option maxRecDepth 20000 in
theorem gX8_paint_X8_paintWithout : GoodIn wsX8_paint (wsV RX8 54 RX8 yX8_paintWithout wsX8_paintWithout) := goodIn_app (goodIn_of _ (by decide +kernel)) ggX8_paint_X8_paintWithout
theorem dX8_paint_0 : decode cX8_paint 0 = .ok (.aload_n 0, 1) := by decide +kernel
theorem dX8_paint_1 : decode cX8_paint 1 = .ok (.bipush (-109), 2) := by decide +kernel
theorem dX8_paint_3 : decode cX8_paint 3 = .ok (.invokevirtual 54, 3) := by decide +kernel
theorem dX8_paint_6 : decode cX8_paint 6 = .ok (.return_, 1) := by decide +kernel
set_option maxRecDepth 20000 in
theorem ggX8_isContent_X8_of : GoodIn wsX8_isContent wsX8_of := goodIn_r _ [6, 7, 12, 13, 14, 15, 16, 17, 18, 19, 20, 21, 22, 23, 24, 25, 26, 27, 28, 29, 30] (by decide +kernel) (by decide +kernel)
set_option maxRecDepth 20000 in
theorem gX8_isContent_X8_of : GoodIn wsX8_isContent (wsV RX8 46 RX8 yX8_of wsX8_of) := goodIn_app (goodIn_of _ (by decide +kernel)) ggX8_isContent_X8_of
set_option maxRecDepth 20000 in
theorem ggX8_isContent_X8_area : GoodIn wsX8_isContent wsX8_area := goodIn_r _ [11, 2, 3, 4, 5, 6, 7, 12, 13, 14, 15, 16, 17, 18, 19, 20, 21, 22, 23, 24, 25, 26, 27, 28, 29, 30] (by decide +kernel) (by decide +kernel)
set_option maxRecDepth 20000 in
theorem gX8_isContent_X8_area : GoodIn wsX8_isContent (wsV RX8 57 RX8 yX8_area wsX8_area) := goodIn_app (goodIn_of _ (by decide +kernel)) ggX8_isContent_X8_area
theorem dX8_isContent_0 : decode cX8_isContent 0 = .ok (.aload_n 0, 1) := by decide +kernel
theorem dX8_isContent_1 : decode cX8_isContent 1 = .ok (.getfield 22, 3) := by decide +kernel
theorem dX8_isContent_4 : decode cX8_isContent 4 = .ok (.iload_n 1, 1) := by decide +kernel
theorem dX8_isContent_5 : decode cX8_isContent 5 = .ok (.iaload, 1) := by decide +kernel
theorem dX8_isContent_6 : decode cX8_isContent 6 = .ok (.bipush 100, 2) := by decide +kernel
theorem dX8_isContent_8 : decode cX8_isContent 8 = .ok (.imul, 1) := by decide +kernel
theorem dX8_isContent_9 : decode cX8_isContent 9 = .ok (.aload_n 0, 1) := by decide +kernel
theorem dX8_isContent_10 : decode cX8_isContent 10 = .ok (.iload_n 1, 1) := by decide +kernel
theorem dX8_isContent_11 : decode cX8_isContent 11 = .ok (.iconst 4, 1) := by decide +kernel
theorem dX8_isContent_12 : decode cX8_isContent 12 = .ok (.invokevirtual 46, 3) := by decide +kernel
theorem dX8_isContent_15 : decode cX8_isContent 15 = .ok (.aload_n 0, 1) := by decide +kernel
theorem dX8_isContent_16 : decode cX8_isContent 16 = .ok (.iload_n 1, 1) := by decide +kernel
theorem dX8_isContent_17 : decode cX8_isContent 17 = .ok (.invokevirtual 57, 3) := by decide +kernel
theorem dX8_isContent_20 : decode cX8_isContent 20 = .ok (.imul, 1) := by decide +kernel
theorem dX8_isContent_21 : decode cX8_isContent 21 = .ok (.if_icmp .lt 7, 3) := by decide +kernel
theorem dX8_isContent_24 : decode cX8_isContent 24 = .ok (.iconst 1, 1) := by decide +kernel
theorem dX8_isContent_25 : decode cX8_isContent 25 = .ok (.goto 4, 3) := by decide +kernel
theorem dX8_isContent_28 : decode cX8_isContent 28 = .ok (.iconst 0, 1) := by decide +kernel
theorem dX8_isContent_29 : decode cX8_isContent 29 = .ok (.ireturn, 1) := by decide +kernel
set_option maxRecDepth 20000 in
theorem ggX8_contents_X8_isContent : GoodIn wsX8_contents wsX8_isContent := goodIn_r _ [6, 7, 8, 9, 10, 5, 11, 1, 12, 13, 14, 15, 16, 17, 18, 19, 20, 21, 22, 23, 24, 25, 26, 27, 28, 29, 30, 31, 32, 33, 34] (by decide +kernel) (by decide +kernel)
set_option maxRecDepth 20000 in
theorem gX8_contents_X8_isContent : GoodIn wsX8_contents (wsV RX8 61 RX8 yX8_isContent wsX8_isContent) := goodIn_app (goodIn_of _ (by decide +kernel)) ggX8_contents_X8_isContent
theorem dX8_contents_0 : decode cX8_contents 0 = .ok (.iconst 0, 1) := by decide +kernel
theorem dX8_contents_1 : decode cX8_contents 1 = .ok (.istore_n 2, 1) := by decide +kernel
theorem dX8_contents_2 : decode cX8_contents 2 = .ok (.iconst 0, 1) := by decide +kernel
theorem dX8_contents_3 : decode cX8_contents 3 = .ok (.istore_n 3, 1) := by decide +kernel
theorem dX8_contents_4 : decode cX8_contents 4 = .ok (.iload_n 3, 1) := by decide +kernel
theorem dX8_contents_5 : decode cX8_contents 5 = .ok (.aload_n 0, 1) := by decide +kernel
theorem dX8_contents_6 : decode cX8_contents 6 = .ok (.getfield 7, 3) := by decide +kernel
theorem dX8_contents_9 : decode cX8_contents 9 = .ok (.iconst 2, 1) := by decide +kernel
theorem dX8_contents_10 : decode cX8_contents 10 = .ok (.iaload, 1) := by decide +kernel
theorem dX8_contents_11 : decode cX8_contents 11 = .ok (.if_icmp .ge 30, 3) := by decide +kernel
theorem dX8_contents_14 : decode cX8_contents 14 = .ok (.iload_n 2, 1) := by decide +kernel
theorem dX8_contents_15 : decode cX8_contents 15 = .ok (.iload_n 3, 1) := by decide +kernel
theorem dX8_contents_16 : decode cX8_contents 16 = .ok (.iload_n 1, 1) := by decide +kernel
theorem dX8_contents_17 : decode cX8_contents 17 = .ok (.if_icmp .eq 15, 3) := by decide +kernel
theorem dX8_contents_20 : decode cX8_contents 20 = .ok (.aload_n 0, 1) := by decide +kernel
theorem dX8_contents_21 : decode cX8_contents 21 = .ok (.iload_n 3, 1) := by decide +kernel
theorem dX8_contents_22 : decode cX8_contents 22 = .ok (.invokevirtual 61, 3) := by decide +kernel
theorem dX8_contents_25 : decode cX8_contents 25 = .ok (.ifCond .eq 7, 3) := by decide +kernel
theorem dX8_contents_28 : decode cX8_contents 28 = .ok (.iconst 1, 1) := by decide +kernel
theorem dX8_contents_29 : decode cX8_contents 29 = .ok (.goto 4, 3) := by decide +kernel
theorem dX8_contents_32 : decode cX8_contents 32 = .ok (.iconst 0, 1) := by decide +kernel
theorem dX8_contents_33 : decode cX8_contents 33 = .ok (.iadd, 1) := by decide +kernel
theorem dX8_contents_34 : decode cX8_contents 34 = .ok (.istore_n 2, 1) := by decide +kernel
theorem dX8_contents_35 : decode cX8_contents 35 = .ok (.iinc 3 1, 3) := by decide +kernel
theorem dX8_contents_38 : decode cX8_contents 38 = .ok (.goto (-34), 3) := by decide +kernel
theorem dX8_contents_41 : decode cX8_contents 41 = .ok (.iload_n 2, 1) := by decide +kernel
theorem dX8_contents_42 : decode cX8_contents 42 = .ok (.ireturn, 1) := by decide +kernel
set_option maxRecDepth 20000 in
theorem ggX8_isSeen_X8_in : GoodIn wsX8_isSeen wsX8_in := goodIn_r _ [6] (by decide +kernel) (by decide +kernel)
set_option maxRecDepth 20000 in
theorem gX8_isSeen_X8_in : GoodIn wsX8_isSeen (va_wsS RX8 42 yX8_in wsX8_in) := goodIn_app (goodIn_of _ (by decide +kernel)) ggX8_isSeen_X8_in
