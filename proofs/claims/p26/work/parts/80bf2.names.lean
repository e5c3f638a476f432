set_option maxRecDepth 100000 in
theorem ggX7_worst_X3_worstPiece_X10 : GoodIn wsX7_worst wsX10 := goodIn_r _ [108, 109, 110, 111, 112, 113] rfl (by decide +kernel)
set_option maxRecDepth 100000 in
theorem ggX7_worst_X3_worstPiece_X50 : GoodIn wsX7_worst wsX50 := goodIn_r _ [114, 115, 116, 117] rfl (by decide +kernel)
set_option maxRecDepth 100000 in
theorem ggX7_worst_X3_worstPiece : GoodIn wsX7_worst wsX3_worstPiece := goodIn_app ggX7_worst_X3_worstPiece_h (goodIn_app (goodIn_app (goodIn_app (goodIn_app ggX7_worst_X3_worstPiece_r1 (goodIn_app ggX7_worst_X3_worstPiece_r2 (goodIn_app ggX7_worst_X3_worstPiece_r3 ggX7_worst_X3_worstPiece_r4))) ggX7_worst_X3_worstPiece_X30) ggX7_worst_X3_worstPiece_X10) ggX7_worst_X3_worstPiece_X50)
set_option maxRecDepth 100000 in
theorem gX7_worst_X3_worstPiece : GoodIn wsX7_worst (wsV RX7 231 RX3 yX3_worstPiece wsX3_worstPiece) := goodIn_app (goodIn_of _ (by decide +kernel)) ggX7_worst_X3_worstPiece
theorem dX7_worst_0 : decode cX7_worst 0 = .ok (.aload_n 0, 1) := by decide +kernel
theorem dX7_worst_1 : decode cX7_worst 1 = .ok (.getfield 43, 3) := by decide +kernel
theorem dX7_worst_4 : decode cX7_worst 4 = .ok (.invokevirtual 231, 3) := by decide +kernel
theorem dX7_worst_7 : decode cX7_worst 7 = .ok (.ireturn, 1) := by decide +kernel
set_option maxRecDepth 100000 in
theorem ggX7_setProperty_X1_has : GoodIn wsX7_setProperty wsX1_has := goodIn_r _ [7, 8, 64, 65, 66, 67, 68, 69] rfl (by decide +kernel)
set_option maxRecDepth 100000 in
theorem gX7_setProperty_X1_has : GoodIn wsX7_setProperty (wsV RX7 100 RX1 yX1_has wsX1_has) := goodIn_app (goodIn_of _ (by decide +kernel)) ggX7_setProperty_X1_has
set_option maxRecDepth 100000 in
theorem ggX7_setProperty_X7_fits : GoodIn wsX7_setProperty wsX7_fits := goodIn_r _ [12, 13, 14, 15, 16, 11, 17, 18, 19, 20] rfl (by decide +kernel)
set_option maxRecDepth 100000 in
theorem gX7_setProperty_X7_fits : GoodIn wsX7_setProperty (va_wsS RX7 85 yX7_fits wsX7_fits) := goodIn_app (goodIn_of _ (by decide +kernel)) ggX7_setProperty_X7_fits
set_option maxRecDepth 100000 in
theorem ggX7_setProperty_X0_record : GoodIn wsX7_setProperty wsX0_record := goodIn_r _ [25, 26, 27, 28, 29, 30, 24, 31, 32, 33, 34, 35, 6, 36, 37, 38, 39, 40, 41, 42, 43, 44, 8, 45, 70, 71, 72, 64, 65, 66, 67, 68, 69] rfl (by decide +kernel)
set_option maxRecDepth 100000 in
theorem gX7_setProperty_X0_record : GoodIn wsX7_setProperty (wsV RX7 71 RX0 yX0_record wsX0_record) := goodIn_app (goodIn_of _ (by decide +kernel)) ggX7_setProperty_X0_record
set_option maxRecDepth 100000 in
theorem ggX7_setProperty_X1_get : GoodIn wsX7_setProperty wsX1_get := goodIn_r _ [49, 37, 64, 65, 66, 67, 68, 69] rfl (by decide +kernel)
set_option maxRecDepth 100000 in
theorem gX7_setProperty_X1_get : GoodIn wsX7_setProperty (wsV RX7 169 RX1 yX1_get wsX1_get) := goodIn_app (goodIn_of _ (by decide +kernel)) ggX7_setProperty_X1_get
set_option maxRecDepth 100000 in
theorem ggX7_setProperty_X1_set : GoodIn wsX7_setProperty wsX1_set := goodIn_r _ [53, 37, 54, 11, 55, 64, 65, 66, 67, 68, 69] rfl (by decide +kernel)
set_option maxRecDepth 100000 in
theorem gX7_setProperty_X1_set : GoodIn wsX7_setProperty (wsV RX7 96 RX1 yX1_set wsX1_set) := goodIn_app (goodIn_of _ (by decide +kernel)) ggX7_setProperty_X1_set
theorem dX7_setProperty_0 : decode cX7_setProperty 0 = .ok (.aload_n 0, 1) := by decide +kernel
theorem dX7_setProperty_1 : decode cX7_setProperty 1 = .ok (.getfield 18, 3) := by decide +kernel
theorem dX7_setProperty_4 : decode cX7_setProperty 4 = .ok (.iload_n 1, 1) := by decide +kernel
theorem dX7_setProperty_5 : decode cX7_setProperty 5 = .ok (.invokevirtual 100, 3) := by decide +kernel
theorem dX7_setProperty_8 : decode cX7_setProperty 8 = .ok (.ifCond .eq 11, 3) := by decide +kernel
theorem dX7_setProperty_11 : decode cX7_setProperty 11 = .ok (.iload_n 2, 1) := by decide +kernel
theorem dX7_setProperty_12 : decode cX7_setProperty 12 = .ok (.iload_n 3, 1) := by decide +kernel
theorem dX7_setProperty_13 : decode cX7_setProperty 13 = .ok (.invokestatic 85, 3) := by decide +kernel
theorem dX7_setProperty_16 : decode cX7_setProperty 16 = .ok (.ifCond .ne 6, 3) := by decide +kernel
theorem dX7_setProperty_19 : decode cX7_setProperty 19 = .ok (.bipush (-101), 2) := by decide +kernel
theorem dX7_setProperty_21 : decode cX7_setProperty 21 = .ok (.ireturn, 1) := by decide +kernel
theorem dX7_setProperty_22 : decode cX7_setProperty 22 = .ok (.aload_n 0, 1) := by decide +kernel
theorem dX7_setProperty_23 : decode cX7_setProperty 23 = .ok (.getfield 50, 3) := by decide +kernel
theorem dX7_setProperty_26 : decode cX7_setProperty 26 = .ok (.aload_n 0, 1) := by decide +kernel
theorem dX7_setProperty_27 : decode cX7_setProperty 27 = .ok (.getfield 18, 3) := by decide +kernel
theorem dX7_setProperty_30 : decode cX7_setProperty 30 = .ok (.invokevirtual 71, 3) := by decide +kernel
theorem dX7_setProperty_33 : decode cX7_setProperty 33 = .ok (.aload_n 0, 1) := by decide +kernel
theorem dX7_setProperty_34 : decode cX7_setProperty 34 = .ok (.getfield 18, 3) := by decide +kernel
theorem dX7_setProperty_37 : decode cX7_setProperty 37 = .ok (.iload_n 1, 1) := by decide +kernel
theorem dX7_setProperty_38 : decode cX7_setProperty 38 = .ok (.iload_n 2, 1) := by decide +kernel
theorem dX7_setProperty_39 : decode cX7_setProperty 39 = .ok (.invokevirtual 169, 3) := by decide +kernel
theorem dX7_setProperty_42 : decode cX7_setProperty 42 = .ok (.istore 4, 2) := by decide +kernel
theorem dX7_setProperty_44 : decode cX7_setProperty 44 = .ok (.aload_n 0, 1) := by decide +kernel
theorem dX7_setProperty_45 : decode cX7_setProperty 45 = .ok (.getfield 18, 3) := by decide +kernel
theorem dX7_setProperty_48 : decode cX7_setProperty 48 = .ok (.iload_n 1, 1) := by decide +kernel
theorem dX7_setProperty_49 : decode cX7_setProperty 49 = .ok (.iload_n 2, 1) := by decide +kernel
theorem dX7_setProperty_50 : decode cX7_setProperty 50 = .ok (.iload_n 3, 1) := by decide +kernel
theorem dX7_setProperty_51 : decode cX7_setProperty 51 = .ok (.invokevirtual 96, 3) := by decide +kernel
theorem dX7_setProperty_54 : decode cX7_setProperty 54 = .ok (.iload 4, 2) := by decide +kernel
theorem dX7_setProperty_56 : decode cX7_setProperty 56 = .ok (.ireturn, 1) := by decide +kernel
set_option maxRecDepth 100000 in
theorem ggX7_makeCheapestShift_X5_look : GoodIn wsX7_makeCheapestShift wsX5_look := goodIn_r _ [8, 9, 10, 11, 12, 13, 14, 15, 16, 17, 18, 19, 20, 21, 22, 23, 24, 25, 26, 27, 28, 29, 30, 31, 7, 32, 33, 34, 35, 36, 37, 38, 39, 40, 41, 42, 43, 44, 45, 46, 47, 48, 49, 50, 51, 52, 53, 54, 55, 56, 57, 58, 147, 148, 149, 150, 151, 152, 153, 154, 155, 156] rfl (by decide +kernel)
set_option maxRecDepth 100000 in
theorem gX7_makeCheapestShift_X5_look : GoodIn wsX7_makeCheapestShift (wsV RX7 78 RX5 yX5_look wsX5_look) := goodIn_app (goodIn_of _ (by decide +kernel)) ggX7_makeCheapestShift_X5_look
set_option maxRecDepth 100000 in
theorem ggX7_makeCheapestShift_X1_pieces : GoodIn wsX7_makeCheapestShift wsX1_pieces := goodIn_r _ [19, 20, 151, 152, 153, 154, 155, 156] rfl (by decide +kernel)
set_option maxRecDepth 100000 in
theorem gX7_makeCheapestShift_X1_pieces : GoodIn wsX7_makeCheapestShift (wsV RX7 108 RX1 yX1_pieces wsX1_pieces) := goodIn_app (goodIn_of _ (by decide +kernel)) ggX7_makeCheapestShift_X1_pieces
set_option maxRecDepth 100000 in
theorem ggX7_makeCheapestShift_X5_isContent : GoodIn wsX7_makeCheapestShift wsX5_isContent := goodIn_r _ [63, 10, 34, 35, 36, 37, 18, 38, 39, 26, 27, 28, 147, 148, 149, 150, 151, 152, 153, 154, 155, 156] rfl (by decide +kernel)
set_option maxRecDepth 100000 in
theorem gX7_makeCheapestShift_X5_isContent : GoodIn wsX7_makeCheapestShift (wsV RX7 179 RX5 yX5_isContent wsX5_isContent) := goodIn_app (goodIn_of _ (by decide +kernel)) ggX7_makeCheapestShift_X5_isContent
set_option maxRecDepth 100000 in
theorem ggX7_makeCheapestShift_X3_findShift_h : GoodIn wsX7_makeCheapestShift [.code yX3_findShift cX3_findShift 8 (some .boolean)] := goodIn_r _ [68] rfl (by decide +kernel)
set_option maxRecDepth 100000 in
theorem ggX7_makeCheapestShift_X3_findShift_r1 : GoodIn wsX7_makeCheapestShift wsX3_findShift_r1 := goodIn_r _ [69, 70, 71, 72, 73, 74, 75, 76, 77, 18, 78, 39, 79, 80, 81, 82, 25, 44, 49, 20, 83, 84, 85, 86] rfl (by decide +kernel)
set_option maxRecDepth 100000 in
theorem ggX7_makeCheapestShift_X3_findShift_r2 : GoodIn wsX7_makeCheapestShift wsX3_findShift_r2 := goodIn_r _ [67, 87, 88, 89, 5, 6, 7, 8, 9, 10, 11, 12, 13, 14, 15, 16, 17, 19, 21, 22, 23, 24, 26, 27] rfl (by decide +kernel)
set_option maxRecDepth 100000 in
theorem ggX7_makeCheapestShift_X3_findShift_r3 : GoodIn wsX7_makeCheapestShift wsX3_findShift_r3 := goodIn_r _ [28, 29, 30, 31, 32, 33, 34, 35, 36, 37, 38, 40, 41, 42, 43, 45, 46, 47, 48, 50, 51, 52, 53, 54] rfl (by decide +kernel)
set_option maxRecDepth 100000 in
theorem ggX7_makeCheapestShift_X3_findShift_r4 : GoodIn wsX7_makeCheapestShift wsX3_findShift_r4 := goodIn_r _ [55, 56, 57, 58, 90, 91, 92, 93, 94, 61, 62, 63, 95, 96, 97, 98, 99, 100, 101, 102, 103, 104, 105, 106] rfl (by decide +kernel)
set_option maxRecDepth 100000 in
theorem ggX7_makeCheapestShift_X3_findShift_r5 : GoodIn wsX7_makeCheapestShift wsX3_findShift_r5 := goodIn_r _ [107, 108, 109, 110, 111, 112, 113, 114, 115, 116, 117, 118, 119, 120] rfl (by decide +kernel)
set_option maxRecDepth 100000 in
theorem ggX7_makeCheapestShift_X3_findShift_X30 : GoodIn wsX7_makeCheapestShift wsX30 := goodIn_r _ [157, 158, 159, 160, 161] rfl (by decide +kernel)
set_option maxRecDepth 100000 in
theorem ggX7_makeCheapestShift_X3_findShift_X10 : GoodIn wsX7_makeCheapestShift wsX10 := goodIn_r _ [151, 152, 153, 154, 155, 156] rfl (by decide +kernel)
set_option maxRecDepth 100000 in
theorem ggX7_makeCheapestShift_X3_findShift_X50 : GoodIn wsX7_makeCheapestShift wsX50 := goodIn_r _ [147, 148, 149, 150] rfl (by decide +kernel)
set_option maxRecDepth 100000 in
theorem ggX7_makeCheapestShift_X3_findShift : GoodIn wsX7_makeCheapestShift wsX3_findShift := goodIn_app ggX7_makeCheapestShift_X3_findShift_h (goodIn_app (goodIn_app (goodIn_app (goodIn_app ggX7_makeCheapestShift_X3_findShift_r1 (goodIn_app ggX7_makeCheapestShift_X3_findShift_r2 (goodIn_app ggX7_makeCheapestShift_X3_findShift_r3 (goodIn_app ggX7_makeCheapestShift_X3_findShift_r4 ggX7_makeCheapestShift_X3_findShift_r5)))) ggX7_makeCheapestShift_X3_findShift_X30) ggX7_makeCheapestShift_X3_findShift_X10) ggX7_makeCheapestShift_X3_findShift_X50)
set_option maxRecDepth 100000 in
theorem gX7_makeCheapestShift_X3_findShift : GoodIn wsX7_makeCheapestShift (wsV RX7 218 RX3 yX3_findShift wsX3_findShift) := goodIn_app (goodIn_of _ (by decide +kernel)) ggX7_makeCheapestShift_X3_findShift
set_option maxRecDepth 100000 in
theorem ggX7_makeCheapestShift_X3_dx : GoodIn wsX7_makeCheapestShift wsX3_dx := goodIn_r _ [124, 100, 157, 158, 159, 160, 161] rfl (by decide +kernel)
set_option maxRecDepth 100000 in
theorem gX7_makeCheapestShift_X3_dx : GoodIn wsX7_makeCheapestShift (wsV RX7 222 RX3 yX3_dx wsX3_dx) := goodIn_app (goodIn_of _ (by decide +kernel)) ggX7_makeCheapestShift_X3_dx
set_option maxRecDepth 100000 in
theorem ggX7_makeCheapestShift_X3_dy : GoodIn wsX7_makeCheapestShift wsX3_dy := goodIn_r _ [128, 101, 157, 158, 159, 160, 161] rfl (by decide +kernel)
set_option maxRecDepth 100000 in
theorem gX7_makeCheapestShift_X3_dy : GoodIn wsX7_makeCheapestShift (wsV RX7 225 RX3 yX3_dy wsX3_dy) := goodIn_app (goodIn_of _ (by decide +kernel)) ggX7_makeCheapestShift_X3_dy
set_option maxRecDepth 100000 in
theorem ggX7_makeCheapestShift_X3_cost : GoodIn wsX7_makeCheapestShift wsX3_cost := goodIn_r _ [132, 100, 71, 72, 73, 74, 101, 157, 158, 159, 160, 161] rfl (by decide +kernel)
set_option maxRecDepth 100000 in
theorem gX7_makeCheapestShift_X3_cost : GoodIn wsX7_makeCheapestShift (wsV RX7 221 RX3 yX3_cost wsX3_cost) := goodIn_app (goodIn_of _ (by decide +kernel)) ggX7_makeCheapestShift_X3_cost
set_option maxRecDepth 100000 in
theorem ggX7_makeCheapestShift_X1_move : GoodIn wsX7_makeCheapestShift wsX1_move := goodIn_r _ [136, 137, 72, 73, 74, 83, 106, 36, 37, 18, 38, 39, 138, 117, 118, 119, 50, 27, 51, 151, 152, 153, 154, 155, 156] rfl (by decide +kernel)
set_option maxRecDepth 100000 in
theorem gX7_makeCheapestShift_X1_move : GoodIn wsX7_makeCheapestShift (wsV RX7 118 RX1 yX1_move wsX1_move) := goodIn_app (goodIn_of _ (by decide +kernel)) ggX7_makeCheapestShift_X1_move
theorem dX7_makeCheapestShift_0 : decode cX7_makeCheapestShift 0 = .ok (.aload_n 0, 1) := by decide +kernel
theorem dX7_makeCheapestShift_1 : decode cX7_makeCheapestShift 1 = .ok (.getfield 27, 3) := by decide +kernel
theorem dX7_makeCheapestShift_4 : decode cX7_makeCheapestShift 4 = .ok (.invokevirtual 78, 3) := by decide +kernel
theorem dX7_makeCheapestShift_7 : decode cX7_makeCheapestShift 7 = .ok (.bipush (-109), 2) := by decide +kernel
theorem dX7_makeCheapestShift_9 : decode cX7_makeCheapestShift 9 = .ok (.istore_n 1, 1) := by decide +kernel
theorem dX7_makeCheapestShift_10 : decode cX7_makeCheapestShift 10 = .ok (.iconst 0, 1) := by decide +kernel
theorem dX7_makeCheapestShift_11 : decode cX7_makeCheapestShift 11 = .ok (.istore_n 2, 1) := by decide +kernel
theorem dX7_makeCheapestShift_12 : decode cX7_makeCheapestShift 12 = .ok (.iconst 0, 1) := by decide +kernel
theorem dX7_makeCheapestShift_13 : decode cX7_makeCheapestShift 13 = .ok (.istore_n 3, 1) := by decide +kernel
theorem dX7_makeCheapestShift_14 : decode cX7_makeCheapestShift 14 = .ok (.bipush 8, 2) := by decide +kernel
theorem dX7_makeCheapestShift_16 : decode cX7_makeCheapestShift 16 = .ok (.istore 4, 2) := by decide +kernel
theorem dX7_makeCheapestShift_18 : decode cX7_makeCheapestShift 18 = .ok (.iconst 0, 1) := by decide +kernel
theorem dX7_makeCheapestShift_19 : decode cX7_makeCheapestShift 19 = .ok (.istore 5, 2) := by decide +kernel
theorem dX7_makeCheapestShift_21 : decode cX7_makeCheapestShift 21 = .ok (.iload 5, 2) := by decide +kernel
theorem dX7_makeCheapestShift_23 : decode cX7_makeCheapestShift 23 = .ok (.aload_n 0, 1) := by decide +kernel
theorem dX7_makeCheapestShift_24 : decode cX7_makeCheapestShift 24 = .ok (.getfield 18, 3) := by decide +kernel
theorem dX7_makeCheapestShift_27 : decode cX7_makeCheapestShift 27 = .ok (.invokevirtual 108, 3) := by decide +kernel
theorem dX7_makeCheapestShift_30 : decode cX7_makeCheapestShift 30 = .ok (.if_icmp .ge 66, 3) := by decide +kernel
theorem dX7_makeCheapestShift_33 : decode cX7_makeCheapestShift 33 = .ok (.aload_n 0, 1) := by decide +kernel
theorem dX7_makeCheapestShift_34 : decode cX7_makeCheapestShift 34 = .ok (.getfield 27, 3) := by decide +kernel
theorem dX7_makeCheapestShift_37 : decode cX7_makeCheapestShift 37 = .ok (.iload 5, 2) := by decide +kernel
theorem dX7_makeCheapestShift_39 : decode cX7_makeCheapestShift 39 = .ok (.invokevirtual 179, 3) := by decide +kernel
theorem dX7_makeCheapestShift_42 : decode cX7_makeCheapestShift 42 = .ok (.ifCond .ne 48, 3) := by decide +kernel
theorem dX7_makeCheapestShift_45 : decode cX7_makeCheapestShift 45 = .ok (.aload_n 0, 1) := by decide +kernel
theorem dX7_makeCheapestShift_46 : decode cX7_makeCheapestShift 46 = .ok (.getfield 43, 3) := by decide +kernel
theorem dX7_makeCheapestShift_49 : decode cX7_makeCheapestShift 49 = .ok (.iload 5, 2) := by decide +kernel
theorem dX7_makeCheapestShift_51 : decode cX7_makeCheapestShift 51 = .ok (.iconst 1, 1) := by decide +kernel
theorem dX7_makeCheapestShift_52 : decode cX7_makeCheapestShift 52 = .ok (.iload 4, 2) := by decide +kernel
theorem dX7_makeCheapestShift_54 : decode cX7_makeCheapestShift 54 = .ok (.invokevirtual 218, 3) := by decide +kernel
theorem dX7_makeCheapestShift_57 : decode cX7_makeCheapestShift 57 = .ok (.ifCond .eq 33, 3) := by decide +kernel
theorem dX7_makeCheapestShift_60 : decode cX7_makeCheapestShift 60 = .ok (.iload 5, 2) := by decide +kernel
theorem dX7_makeCheapestShift_62 : decode cX7_makeCheapestShift 62 = .ok (.istore_n 1, 1) := by decide +kernel
theorem dX7_makeCheapestShift_63 : decode cX7_makeCheapestShift 63 = .ok (.aload_n 0, 1) := by decide +kernel
theorem dX7_makeCheapestShift_64 : decode cX7_makeCheapestShift 64 = .ok (.getfield 43, 3) := by decide +kernel
theorem dX7_makeCheapestShift_67 : decode cX7_makeCheapestShift 67 = .ok (.invokevirtual 222, 3) := by decide +kernel
theorem dX7_makeCheapestShift_70 : decode cX7_makeCheapestShift 70 = .ok (.istore_n 2, 1) := by decide +kernel
theorem dX7_makeCheapestShift_71 : decode cX7_makeCheapestShift 71 = .ok (.aload_n 0, 1) := by decide +kernel
theorem dX7_makeCheapestShift_72 : decode cX7_makeCheapestShift 72 = .ok (.getfield 43, 3) := by decide +kernel
theorem dX7_makeCheapestShift_75 : decode cX7_makeCheapestShift 75 = .ok (.invokevirtual 225, 3) := by decide +kernel
theorem dX7_makeCheapestShift_78 : decode cX7_makeCheapestShift 78 = .ok (.istore_n 3, 1) := by decide +kernel
theorem dX7_makeCheapestShift_79 : decode cX7_makeCheapestShift 79 = .ok (.aload_n 0, 1) := by decide +kernel
theorem dX7_makeCheapestShift_80 : decode cX7_makeCheapestShift 80 = .ok (.getfield 43, 3) := by decide +kernel
theorem dX7_makeCheapestShift_83 : decode cX7_makeCheapestShift 83 = .ok (.invokevirtual 221, 3) := by decide +kernel
theorem dX7_makeCheapestShift_86 : decode cX7_makeCheapestShift 86 = .ok (.iconst 1, 1) := by decide +kernel
theorem dX7_makeCheapestShift_87 : decode cX7_makeCheapestShift 87 = .ok (.isub, 1) := by decide +kernel
theorem dX7_makeCheapestShift_88 : decode cX7_makeCheapestShift 88 = .ok (.istore 4, 2) := by decide +kernel
theorem dX7_makeCheapestShift_90 : decode cX7_makeCheapestShift 90 = .ok (.iinc 5 1, 3) := by decide +kernel
theorem dX7_makeCheapestShift_93 : decode cX7_makeCheapestShift 93 = .ok (.goto (-72), 3) := by decide +kernel
theorem dX7_makeCheapestShift_96 : decode cX7_makeCheapestShift 96 = .ok (.iload_n 1, 1) := by decide +kernel
theorem dX7_makeCheapestShift_97 : decode cX7_makeCheapestShift 97 = .ok (.bipush (-109), 2) := by decide +kernel
theorem dX7_makeCheapestShift_99 : decode cX7_makeCheapestShift 99 = .ok (.if_icmp .ne 5, 3) := by decide +kernel
theorem dX7_makeCheapestShift_102 : decode cX7_makeCheapestShift 102 = .ok (.iconst 0, 1) := by decide +kernel
theorem dX7_makeCheapestShift_103 : decode cX7_makeCheapestShift 103 = .ok (.ireturn, 1) := by decide +kernel
theorem dX7_makeCheapestShift_104 : decode cX7_makeCheapestShift 104 = .ok (.aload_n 0, 1) := by decide +kernel
theorem dX7_makeCheapestShift_105 : decode cX7_makeCheapestShift 105 = .ok (.getfield 18, 3) := by decide +kernel
theorem dX7_makeCheapestShift_108 : decode cX7_makeCheapestShift 108 = .ok (.iload_n 1, 1) := by decide +kernel
theorem dX7_makeCheapestShift_109 : decode cX7_makeCheapestShift 109 = .ok (.iload_n 2, 1) := by decide +kernel
theorem dX7_makeCheapestShift_110 : decode cX7_makeCheapestShift 110 = .ok (.iload_n 3, 1) := by decide +kernel
theorem dX7_makeCheapestShift_111 : decode cX7_makeCheapestShift 111 = .ok (.invokevirtual 118, 3) := by decide +kernel
theorem dX7_makeCheapestShift_114 : decode cX7_makeCheapestShift 114 = .ok (.pop, 1) := by decide +kernel
theorem dX7_makeCheapestShift_115 : decode cX7_makeCheapestShift 115 = .ok (.iconst 1, 1) := by decide +kernel
theorem dX7_makeCheapestShift_116 : decode cX7_makeCheapestShift 116 = .ok (.ireturn, 1) := by decide +kernel
theorem dX7_isWithin_0 : decode cX7_isWithin 0 = .ok (.iload_n 0, 1) := by decide +kernel
theorem dX7_isWithin_1 : decode cX7_isWithin 1 = .ok (.iload_n 1, 1) := by decide +kernel
theorem dX7_isWithin_2 : decode cX7_isWithin 2 = .ok (.if_icmp .lt 12, 3) := by decide +kernel
theorem dX7_isWithin_5 : decode cX7_isWithin 5 = .ok (.iload_n 0, 1) := by decide +kernel
theorem dX7_isWithin_6 : decode cX7_isWithin 6 = .ok (.iload_n 2, 1) := by decide +kernel
theorem dX7_isWithin_7 : decode cX7_isWithin 7 = .ok (.if_icmp .gt 7, 3) := by decide +kernel
theorem dX7_isWithin_10 : decode cX7_isWithin 10 = .ok (.iconst 1, 1) := by decide +kernel
theorem dX7_isWithin_11 : decode cX7_isWithin 11 = .ok (.goto 4, 3) := by decide +kernel
theorem dX7_isWithin_14 : decode cX7_isWithin 14 = .ok (.iconst 0, 1) := by decide +kernel
theorem dX7_isWithin_15 : decode cX7_isWithin 15 = .ok (.ireturn, 1) := by decide +kernel
