set_option maxRecDepth 100000 in
theorem ggX7_hides_X1_has : GoodIn wsX7_hides wsX1_has := goodIn_r _ [7, 8, 93, 94, 95, 96, 97, 98] rfl (by decide +kernel)
set_option maxRecDepth 100000 in
theorem gX7_hides_X1_has : GoodIn wsX7_hides (wsV RX7 100 RX1 yX1_has wsX1_has) := goodIn_app (goodIn_of _ (by decide +kernel)) ggX7_hides_X1_has
set_option maxRecDepth 100000 in
theorem ggX7_hides_X5_look : GoodIn wsX7_hides wsX5_look := goodIn_r _ [13, 14, 15, 16, 17, 18, 19, 20, 21, 22, 6, 23, 8, 24, 25, 26, 27, 28, 29, 30, 31, 32, 33, 34, 12, 35, 36, 37, 38, 39, 40, 41, 42, 43, 44, 45, 46, 47, 48, 49, 50, 51, 52, 53, 54, 55, 56, 57, 58, 59, 60, 61, 99, 100, 101, 102, 93, 94, 95, 96, 97, 98] rfl (by decide +kernel)
set_option maxRecDepth 100000 in
theorem gX7_hides_X5_look : GoodIn wsX7_hides (wsV RX7 78 RX5 yX5_look wsX5_look) := goodIn_app (goodIn_of _ (by decide +kernel)) ggX7_hides_X5_look
set_option maxRecDepth 100000 in
theorem ggX7_hides_X5_hiddenCells : GoodIn wsX7_hides wsX5_hiddenCells := goodIn_r _ [65, 15, 66, 67, 68, 6, 69, 52, 70, 71, 72, 12, 73, 14, 36, 74, 75, 76, 77, 47, 43, 44, 45, 46, 48, 49, 50, 51, 29, 30, 31, 38, 39, 40, 41, 42, 78, 79, 80, 81, 82, 83, 84, 55, 56, 57, 58, 59, 60, 61, 99, 100, 101, 102, 93, 94, 95, 96, 97, 98] rfl (by decide +kernel)
set_option maxRecDepth 100000 in
theorem gX7_hides_X5_hiddenCells : GoodIn wsX7_hides (wsV RX7 212 RX5 yX5_hiddenCells wsX5_hiddenCells) := goodIn_app (goodIn_of _ (by decide +kernel)) ggX7_hides_X5_hiddenCells
theorem dX7_hides_0 : decode cX7_hides 0 = .ok (.aload_n 0, 1) := by decide +kernel
theorem dX7_hides_1 : decode cX7_hides 1 = .ok (.getfield 18, 3) := by decide +kernel
theorem dX7_hides_4 : decode cX7_hides 4 = .ok (.iload_n 1, 1) := by decide +kernel
theorem dX7_hides_5 : decode cX7_hides 5 = .ok (.invokevirtual 100, 3) := by decide +kernel
theorem dX7_hides_8 : decode cX7_hides 8 = .ok (.ifCond .eq 19, 3) := by decide +kernel
theorem dX7_hides_11 : decode cX7_hides 11 = .ok (.aload_n 0, 1) := by decide +kernel
theorem dX7_hides_12 : decode cX7_hides 12 = .ok (.getfield 18, 3) := by decide +kernel
theorem dX7_hides_15 : decode cX7_hides 15 = .ok (.iload_n 2, 1) := by decide +kernel
theorem dX7_hides_16 : decode cX7_hides 16 = .ok (.invokevirtual 100, 3) := by decide +kernel
theorem dX7_hides_19 : decode cX7_hides 19 = .ok (.ifCond .eq 8, 3) := by decide +kernel
theorem dX7_hides_22 : decode cX7_hides 22 = .ok (.iload_n 1, 1) := by decide +kernel
theorem dX7_hides_23 : decode cX7_hides 23 = .ok (.iload_n 2, 1) := by decide +kernel
theorem dX7_hides_24 : decode cX7_hides 24 = .ok (.if_icmp .ne 6, 3) := by decide +kernel
theorem dX7_hides_27 : decode cX7_hides 27 = .ok (.bipush (-101), 2) := by decide +kernel
theorem dX7_hides_29 : decode cX7_hides 29 = .ok (.ireturn, 1) := by decide +kernel
theorem dX7_hides_30 : decode cX7_hides 30 = .ok (.aload_n 0, 1) := by decide +kernel
theorem dX7_hides_31 : decode cX7_hides 31 = .ok (.getfield 27, 3) := by decide +kernel
theorem dX7_hides_34 : decode cX7_hides 34 = .ok (.invokevirtual 78, 3) := by decide +kernel
theorem dX7_hides_37 : decode cX7_hides 37 = .ok (.aload_n 0, 1) := by decide +kernel
theorem dX7_hides_38 : decode cX7_hides 38 = .ok (.getfield 27, 3) := by decide +kernel
theorem dX7_hides_41 : decode cX7_hides 41 = .ok (.iload_n 1, 1) := by decide +kernel
theorem dX7_hides_42 : decode cX7_hides 42 = .ok (.iload_n 2, 1) := by decide +kernel
theorem dX7_hides_43 : decode cX7_hides 43 = .ok (.invokevirtual 212, 3) := by decide +kernel
theorem dX7_hides_46 : decode cX7_hides 46 = .ok (.ireturn, 1) := by decide +kernel
set_option maxRecDepth 100000 in
theorem ggX7_byShare_X5_look : GoodIn wsX7_byShare wsX5_look := goodIn_r _ [7, 8, 9, 10, 11, 12, 13, 14, 15, 16, 17, 18, 19, 20, 21, 22, 23, 24, 25, 26, 27, 28, 29, 30, 6, 31, 32, 33, 34, 35, 36, 37, 38, 39, 40, 41, 42, 43, 44, 45, 46, 47, 48, 49, 50, 51, 52, 53, 54, 55, 56, 57, 84, 85, 86, 87, 88, 89, 90, 91, 92, 93] rfl (by decide +kernel)
set_option maxRecDepth 100000 in
theorem gX7_byShare_X5_look : GoodIn wsX7_byShare (wsV RX7 78 RX5 yX5_look wsX5_look) := goodIn_app (goodIn_of _ (by decide +kernel)) ggX7_byShare_X5_look
set_option maxRecDepth 100000 in
theorem ggX7_byShare_X1_pieces : GoodIn wsX7_byShare wsX1_pieces := goodIn_r _ [18, 19, 88, 89, 90, 91, 92, 93] rfl (by decide +kernel)
set_option maxRecDepth 100000 in
theorem gX7_byShare_X1_pieces : GoodIn wsX7_byShare (wsV RX7 108 RX1 yX1_pieces wsX1_pieces) := goodIn_app (goodIn_of _ (by decide +kernel)) ggX7_byShare_X1_pieces
set_option maxRecDepth 100000 in
theorem ggX7_byShare_X5_rankByShare : GoodIn wsX7_byShare wsX5_rankByShare := goodIn_r _ [62, 9, 63, 64, 65, 6, 66, 33, 67, 68, 69, 17, 70, 71, 35, 36, 37, 38, 25, 26, 27, 72, 73, 74, 75, 19, 24, 14, 15, 16, 18, 84, 85, 86, 87, 88, 89, 90, 91, 92, 93] rfl (by decide +kernel)
set_option maxRecDepth 100000 in
theorem gX7_byShare_X5_rankByShare : GoodIn wsX7_byShare (wsV RX7 215 RX5 yX5_rankByShare wsX5_rankByShare) := goodIn_app (goodIn_of _ (by decide +kernel)) ggX7_byShare_X5_rankByShare
theorem dX7_byShare_0 : decode cX7_byShare 0 = .ok (.iload_n 1, 1) := by decide +kernel
theorem dX7_byShare_1 : decode cX7_byShare 1 = .ok (.ifCond .ge 6, 3) := by decide +kernel
theorem dX7_byShare_4 : decode cX7_byShare 4 = .ok (.bipush (-101), 2) := by decide +kernel
theorem dX7_byShare_6 : decode cX7_byShare 6 = .ok (.ireturn, 1) := by decide +kernel
theorem dX7_byShare_7 : decode cX7_byShare 7 = .ok (.aload_n 0, 1) := by decide +kernel
theorem dX7_byShare_8 : decode cX7_byShare 8 = .ok (.getfield 27, 3) := by decide +kernel
theorem dX7_byShare_11 : decode cX7_byShare 11 = .ok (.invokevirtual 78, 3) := by decide +kernel
theorem dX7_byShare_14 : decode cX7_byShare 14 = .ok (.iconst 0, 1) := by decide +kernel
theorem dX7_byShare_15 : decode cX7_byShare 15 = .ok (.istore_n 2, 1) := by decide +kernel
theorem dX7_byShare_16 : decode cX7_byShare 16 = .ok (.iload_n 2, 1) := by decide +kernel
theorem dX7_byShare_17 : decode cX7_byShare 17 = .ok (.aload_n 0, 1) := by decide +kernel
theorem dX7_byShare_18 : decode cX7_byShare 18 = .ok (.getfield 18, 3) := by decide +kernel
theorem dX7_byShare_21 : decode cX7_byShare 21 = .ok (.invokevirtual 108, 3) := by decide +kernel
theorem dX7_byShare_24 : decode cX7_byShare 24 = .ok (.if_icmp .ge 23, 3) := by decide +kernel
theorem dX7_byShare_27 : decode cX7_byShare 27 = .ok (.aload_n 0, 1) := by decide +kernel
theorem dX7_byShare_28 : decode cX7_byShare 28 = .ok (.getfield 27, 3) := by decide +kernel
theorem dX7_byShare_31 : decode cX7_byShare 31 = .ok (.iload_n 2, 1) := by decide +kernel
theorem dX7_byShare_32 : decode cX7_byShare 32 = .ok (.invokevirtual 215, 3) := by decide +kernel
theorem dX7_byShare_35 : decode cX7_byShare 35 = .ok (.iload_n 1, 1) := by decide +kernel
theorem dX7_byShare_36 : decode cX7_byShare 36 = .ok (.if_icmp .ne 5, 3) := by decide +kernel
theorem dX7_byShare_39 : decode cX7_byShare 39 = .ok (.iload_n 2, 1) := by decide +kernel
theorem dX7_byShare_40 : decode cX7_byShare 40 = .ok (.ireturn, 1) := by decide +kernel
theorem dX7_byShare_41 : decode cX7_byShare 41 = .ok (.iinc 2 1, 3) := by decide +kernel
theorem dX7_byShare_44 : decode cX7_byShare 44 = .ok (.goto (-28), 3) := by decide +kernel
theorem dX7_byShare_47 : decode cX7_byShare 47 = .ok (.bipush (-109), 2) := by decide +kernel
theorem dX7_byShare_49 : decode cX7_byShare 49 = .ok (.ireturn, 1) := by decide +kernel
set_option maxRecDepth 100000 in
theorem ggX7_leastShift_X1_has : GoodIn wsX7_leastShift wsX1_has := goodIn_r _ [7, 8, 141, 142, 143, 144, 145, 146] rfl (by decide +kernel)
set_option maxRecDepth 100000 in
theorem gX7_leastShift_X1_has : GoodIn wsX7_leastShift (wsV RX7 100 RX1 yX1_has wsX1_has) := goodIn_app (goodIn_of _ (by decide +kernel)) ggX7_leastShift_X1_has
set_option maxRecDepth 100000 in
theorem ggX7_leastShift_X7_isWithin : GoodIn wsX7_leastShift wsX7_isWithin := goodIn_r _ [12] rfl (by decide +kernel)
set_option maxRecDepth 100000 in
theorem gX7_leastShift_X7_isWithin : GoodIn wsX7_leastShift (va_wsS RX7 67 yX7_isWithin wsX7_isWithin) := goodIn_app (goodIn_of _ (by decide +kernel)) ggX7_leastShift_X7_isWithin
set_option maxRecDepth 100000 in
theorem ggX7_leastShift_X3_findShift_h : GoodIn wsX7_leastShift [.code yX3_findShift cX3_findShift 8 (some .boolean)] := goodIn_r _ [17] rfl (by decide +kernel)
set_option maxRecDepth 100000 in
theorem ggX7_leastShift_X3_findShift_r1 : GoodIn wsX7_leastShift wsX3_findShift_r1 := goodIn_r _ [18, 19, 20, 21, 22, 23, 24, 25, 26, 6, 27, 28, 29, 30, 31, 32, 33, 34, 35, 8, 36, 37, 38, 39] rfl (by decide +kernel)
set_option maxRecDepth 100000 in
theorem ggX7_leastShift_X3_findShift_r2 : GoodIn wsX7_leastShift wsX3_findShift_r2 := goodIn_r _ [16, 40, 41, 42, 43, 44, 45, 46, 47, 48, 49, 50, 51, 52, 53, 54, 55, 56, 57, 58, 59, 60, 61, 11] rfl (by decide +kernel)
set_option maxRecDepth 100000 in
theorem ggX7_leastShift_X3_findShift_r3 : GoodIn wsX7_leastShift wsX3_findShift_r3 := goodIn_r _ [62, 63, 64, 65, 66, 67, 68, 69, 70, 71, 72, 73, 74, 75, 76, 77, 78, 79, 80, 81, 82, 83, 84, 85] rfl (by decide +kernel)
set_option maxRecDepth 100000 in
theorem ggX7_leastShift_X3_findShift_r4 : GoodIn wsX7_leastShift wsX3_findShift_r4 := goodIn_r _ [86, 87, 88, 89, 90, 91, 92, 93, 94, 95, 96, 97, 98, 99, 100, 101, 102, 103, 104, 105, 106, 107, 108, 109] rfl (by decide +kernel)
set_option maxRecDepth 100000 in
theorem ggX7_leastShift_X3_findShift_r5 : GoodIn wsX7_leastShift wsX3_findShift_r5 := goodIn_r _ [110, 111, 112, 113, 114, 9, 10, 12, 115, 116, 117, 118, 119, 120] rfl (by decide +kernel)
set_option maxRecDepth 100000 in
theorem ggX7_leastShift_X3_findShift_X30 : GoodIn wsX7_leastShift wsX30 := goodIn_r _ [147, 148, 149, 150, 151] rfl (by decide +kernel)
set_option maxRecDepth 100000 in
theorem ggX7_leastShift_X3_findShift_X10 : GoodIn wsX7_leastShift wsX10 := goodIn_r _ [141, 142, 143, 144, 145, 146] rfl (by decide +kernel)
set_option maxRecDepth 100000 in
theorem ggX7_leastShift_X3_findShift_X50 : GoodIn wsX7_leastShift wsX50 := goodIn_r _ [152, 153, 154, 155] rfl (by decide +kernel)
set_option maxRecDepth 100000 in
theorem ggX7_leastShift_X3_findShift : GoodIn wsX7_leastShift wsX3_findShift := goodIn_app ggX7_leastShift_X3_findShift_h (goodIn_app (goodIn_app (goodIn_app (goodIn_app ggX7_leastShift_X3_findShift_r1 (goodIn_app ggX7_leastShift_X3_findShift_r2 (goodIn_app ggX7_leastShift_X3_findShift_r3 (goodIn_app ggX7_leastShift_X3_findShift_r4 ggX7_leastShift_X3_findShift_r5)))) ggX7_leastShift_X3_findShift_X30) ggX7_leastShift_X3_findShift_X10) ggX7_leastShift_X3_findShift_X50)
set_option maxRecDepth 100000 in
theorem gX7_leastShift_X3_findShift : GoodIn wsX7_leastShift (wsV RX7 218 RX3 yX3_findShift wsX3_findShift) := goodIn_app (goodIn_of _ (by decide +kernel)) ggX7_leastShift_X3_findShift
set_option maxRecDepth 100000 in
theorem ggX7_leastShift_X3_cost : GoodIn wsX7_leastShift wsX3_cost := goodIn_r _ [124, 103, 20, 21, 22, 23, 104, 147, 148, 149, 150, 151] rfl (by decide +kernel)
set_option maxRecDepth 100000 in
theorem gX7_leastShift_X3_cost : GoodIn wsX7_leastShift (wsV RX7 221 RX3 yX3_cost wsX3_cost) := goodIn_app (goodIn_of _ (by decide +kernel)) ggX7_leastShift_X3_cost
set_option maxRecDepth 100000 in
theorem ggX7_leastShift_X3_dx : GoodIn wsX7_leastShift wsX3_dx := goodIn_r _ [128, 103, 147, 148, 149, 150, 151] rfl (by decide +kernel)
set_option maxRecDepth 100000 in
theorem gX7_leastShift_X3_dx : GoodIn wsX7_leastShift (wsV RX7 222 RX3 yX3_dx wsX3_dx) := goodIn_app (goodIn_of _ (by decide +kernel)) ggX7_leastShift_X3_dx
set_option maxRecDepth 100000 in
theorem ggX7_leastShift_X3_dy : GoodIn wsX7_leastShift wsX3_dy := goodIn_r _ [132, 104, 147, 148, 149, 150, 151] rfl (by decide +kernel)
set_option maxRecDepth 100000 in
theorem gX7_leastShift_X3_dy : GoodIn wsX7_leastShift (wsV RX7 225 RX3 yX3_dy wsX3_dy) := goodIn_app (goodIn_of _ (by decide +kernel)) ggX7_leastShift_X3_dy
theorem dX7_leastShift_0 : decode cX7_leastShift 0 = .ok (.aload_n 0, 1) := by decide +kernel
theorem dX7_leastShift_1 : decode cX7_leastShift 1 = .ok (.getfield 18, 3) := by decide +kernel
theorem dX7_leastShift_4 : decode cX7_leastShift 4 = .ok (.iload_n 1, 1) := by decide +kernel
theorem dX7_leastShift_5 : decode cX7_leastShift 5 = .ok (.invokevirtual 100, 3) := by decide +kernel
theorem dX7_leastShift_8 : decode cX7_leastShift 8 = .ok (.ifCond .eq 21, 3) := by decide +kernel
theorem dX7_leastShift_11 : decode cX7_leastShift 11 = .ok (.iload_n 2, 1) := by decide +kernel
theorem dX7_leastShift_12 : decode cX7_leastShift 12 = .ok (.iconst 0, 1) := by decide +kernel
theorem dX7_leastShift_13 : decode cX7_leastShift 13 = .ok (.iconst 2, 1) := by decide +kernel
theorem dX7_leastShift_14 : decode cX7_leastShift 14 = .ok (.invokestatic 67, 3) := by decide +kernel
theorem dX7_leastShift_17 : decode cX7_leastShift 17 = .ok (.ifCond .eq 12, 3) := by decide +kernel
theorem dX7_leastShift_20 : decode cX7_leastShift 20 = .ok (.iload_n 3, 1) := by decide +kernel
theorem dX7_leastShift_21 : decode cX7_leastShift 21 = .ok (.iconst 0, 1) := by decide +kernel
theorem dX7_leastShift_22 : decode cX7_leastShift 22 = .ok (.iconst 2, 1) := by decide +kernel
theorem dX7_leastShift_23 : decode cX7_leastShift 23 = .ok (.invokestatic 67, 3) := by decide +kernel
theorem dX7_leastShift_26 : decode cX7_leastShift 26 = .ok (.ifCond .ne 6, 3) := by decide +kernel
theorem dX7_leastShift_29 : decode cX7_leastShift 29 = .ok (.bipush (-101), 2) := by decide +kernel
theorem dX7_leastShift_31 : decode cX7_leastShift 31 = .ok (.ireturn, 1) := by decide +kernel
theorem dX7_leastShift_32 : decode cX7_leastShift 32 = .ok (.aload_n 0, 1) := by decide +kernel
theorem dX7_leastShift_33 : decode cX7_leastShift 33 = .ok (.getfield 43, 3) := by decide +kernel
theorem dX7_leastShift_36 : decode cX7_leastShift 36 = .ok (.iload_n 1, 1) := by decide +kernel
theorem dX7_leastShift_37 : decode cX7_leastShift 37 = .ok (.iload_n 2, 1) := by decide +kernel
theorem dX7_leastShift_38 : decode cX7_leastShift 38 = .ok (.bipush 8, 2) := by decide +kernel
theorem dX7_leastShift_40 : decode cX7_leastShift 40 = .ok (.invokevirtual 218, 3) := by decide +kernel
theorem dX7_leastShift_43 : decode cX7_leastShift 43 = .ok (.ifCond .ne 6, 3) := by decide +kernel
theorem dX7_leastShift_46 : decode cX7_leastShift 46 = .ok (.bipush (-109), 2) := by decide +kernel
theorem dX7_leastShift_48 : decode cX7_leastShift 48 = .ok (.ireturn, 1) := by decide +kernel
theorem dX7_leastShift_49 : decode cX7_leastShift 49 = .ok (.iload_n 3, 1) := by decide +kernel
theorem dX7_leastShift_50 : decode cX7_leastShift 50 = .ok (.ifCond .ne 11, 3) := by decide +kernel
theorem dX7_leastShift_53 : decode cX7_leastShift 53 = .ok (.aload_n 0, 1) := by decide +kernel
theorem dX7_leastShift_54 : decode cX7_leastShift 54 = .ok (.getfield 43, 3) := by decide +kernel
theorem dX7_leastShift_57 : decode cX7_leastShift 57 = .ok (.invokevirtual 221, 3) := by decide +kernel
theorem dX7_leastShift_60 : decode cX7_leastShift 60 = .ok (.ireturn, 1) := by decide +kernel
theorem dX7_leastShift_61 : decode cX7_leastShift 61 = .ok (.iload_n 3, 1) := by decide +kernel
theorem dX7_leastShift_62 : decode cX7_leastShift 62 = .ok (.iconst 1, 1) := by decide +kernel
theorem dX7_leastShift_63 : decode cX7_leastShift 63 = .ok (.if_icmp .ne 13, 3) := by decide +kernel
theorem dX7_leastShift_66 : decode cX7_leastShift 66 = .ok (.aload_n 0, 1) := by decide +kernel
theorem dX7_leastShift_67 : decode cX7_leastShift 67 = .ok (.getfield 43, 3) := by decide +kernel
theorem dX7_leastShift_70 : decode cX7_leastShift 70 = .ok (.invokevirtual 222, 3) := by decide +kernel
theorem dX7_leastShift_73 : decode cX7_leastShift 73 = .ok (.goto 10, 3) := by decide +kernel
theorem dX7_leastShift_76 : decode cX7_leastShift 76 = .ok (.aload_n 0, 1) := by decide +kernel
theorem dX7_leastShift_77 : decode cX7_leastShift 77 = .ok (.getfield 43, 3) := by decide +kernel
theorem dX7_leastShift_80 : decode cX7_leastShift 80 = .ok (.invokevirtual 225, 3) := by decide +kernel
theorem dX7_leastShift_83 : decode cX7_leastShift 83 = .ok (.ireturn, 1) := by decide +kernel
set_option maxRecDepth 100000 in
theorem ggX7_layerFor_X1_has : GoodIn wsX7_layerFor wsX1_has := goodIn_r _ [7, 8, 100, 101, 102, 103, 104, 105] rfl (by decide +kernel)
set_option maxRecDepth 100000 in
theorem gX7_layerFor_X1_has : GoodIn wsX7_layerFor (wsV RX7 100 RX1 yX1_has wsX1_has) := goodIn_app (goodIn_of _ (by decide +kernel)) ggX7_layerFor_X1_has
set_option maxRecDepth 100000 in
theorem ggX7_layerFor_X3_lowestLayer : GoodIn wsX7_layerFor wsX3_lowestLayer := goodIn_r _ [13, 14, 15, 16, 17, 18, 19, 6, 20, 21, 22, 23, 24, 25, 26, 27, 28, 8, 29, 30, 31, 32, 33, 34, 35, 36, 37, 38, 39, 40, 41, 42, 43, 44, 45, 46, 47, 48, 49, 50, 51, 52, 53, 54, 55, 56, 57, 58, 59, 60, 61, 62, 63, 64, 65, 66, 67, 68, 69, 70, 71, 72, 73, 74, 75, 76, 77, 78, 79, 80, 81, 82, 83, 84, 85, 86, 87, 88, 89, 90, 91, 106, 107, 108, 109, 110, 100, 101, 102, 103, 104, 105, 111, 112, 113, 114] rfl (by decide +kernel)
set_option maxRecDepth 100000 in
theorem gX7_layerFor_X3_lowestLayer : GoodIn wsX7_layerFor (wsV RX7 228 RX3 yX3_lowestLayer wsX3_lowestLayer) := goodIn_app (goodIn_of _ (by decide +kernel)) ggX7_layerFor_X3_lowestLayer
theorem dX7_layerFor_0 : decode cX7_layerFor 0 = .ok (.aload_n 0, 1) := by decide +kernel
theorem dX7_layerFor_1 : decode cX7_layerFor 1 = .ok (.getfield 18, 3) := by decide +kernel
theorem dX7_layerFor_4 : decode cX7_layerFor 4 = .ok (.iload_n 1, 1) := by decide +kernel
theorem dX7_layerFor_5 : decode cX7_layerFor 5 = .ok (.invokevirtual 100, 3) := by decide +kernel
theorem dX7_layerFor_8 : decode cX7_layerFor 8 = .ok (.ifCond .eq 14, 3) := by decide +kernel
theorem dX7_layerFor_11 : decode cX7_layerFor 11 = .ok (.aload_n 0, 1) := by decide +kernel
theorem dX7_layerFor_12 : decode cX7_layerFor 12 = .ok (.getfield 43, 3) := by decide +kernel
theorem dX7_layerFor_15 : decode cX7_layerFor 15 = .ok (.iload_n 1, 1) := by decide +kernel
theorem dX7_layerFor_16 : decode cX7_layerFor 16 = .ok (.invokevirtual 228, 3) := by decide +kernel
theorem dX7_layerFor_19 : decode cX7_layerFor 19 = .ok (.goto 5, 3) := by decide +kernel
theorem dX7_layerFor_22 : decode cX7_layerFor 22 = .ok (.bipush (-101), 2) := by decide +kernel
theorem dX7_layerFor_24 : decode cX7_layerFor 24 = .ok (.ireturn, 1) := by decide +kernel
set_option maxRecDepth 100000 in
theorem ggX7_worst_X3_worstPiece_h : GoodIn wsX7_worst [.code yX3_worstPiece cX3_worstPiece 5 (some .int)] := goodIn_r _ [6] rfl (by decide +kernel)
set_option maxRecDepth 100000 in
theorem ggX7_worst_X3_worstPiece_r1 : GoodIn wsX7_worst wsX3_worstPiece_r1 := goodIn_r _ [7, 8, 9, 10, 11, 12, 13, 14, 15, 16, 17, 18, 19, 20, 21, 22, 23, 24, 25, 26, 27, 28, 29, 30] rfl (by decide +kernel)
set_option maxRecDepth 100000 in
theorem ggX7_worst_X3_worstPiece_r2 : GoodIn wsX7_worst wsX3_worstPiece_r2 := goodIn_r _ [31, 32, 33, 34, 35, 36, 37, 38, 39, 40, 41, 42, 43, 44, 45, 46, 47, 48, 49, 50, 51, 52, 53, 54] rfl (by decide +kernel)
set_option maxRecDepth 100000 in
theorem ggX7_worst_X3_worstPiece_r3 : GoodIn wsX7_worst wsX3_worstPiece_r3 := goodIn_r _ [55, 56, 57, 58, 59, 60, 61, 62, 63, 64, 65, 66, 67, 68, 69, 70, 71, 72, 73, 74, 75, 76, 77, 78] rfl (by decide +kernel)
set_option maxRecDepth 100000 in
theorem ggX7_worst_X3_worstPiece_r4 : GoodIn wsX7_worst wsX3_worstPiece_r4 := goodIn_r _ [79, 80, 81, 82, 83, 84, 85, 86, 87, 88, 89, 90, 91, 92, 93, 94] rfl (by decide +kernel)
set_option maxRecDepth 100000 in
theorem ggX7_worst_X3_worstPiece_X30 : GoodIn wsX7_worst wsX30 := goodIn_r _ [103, 104, 105, 106, 107] rfl (by decide +kernel)
