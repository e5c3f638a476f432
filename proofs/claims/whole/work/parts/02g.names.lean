set_option maxRecDepth 20000 in
theorem gX7_setLayer_X1_putIntoLayer : GoodIn wsX7_setLayer (wsV RX7 121 RX1 yX1_putIntoLayer wsX1_putIntoLayer) := goodIn_app (goodIn_of _ (by decide +kernel)) ggX7_setLayer_X1_putIntoLayer
theorem dX7_setLayer_0 : decode cX7_setLayer 0 = .ok (.aload_n 0, 1) := by decide +kernel
theorem dX7_setLayer_1 : decode cX7_setLayer 1 = .ok (.getfield 18, 3) := by decide +kernel
theorem dX7_setLayer_4 : decode cX7_setLayer 4 = .ok (.iload_n 1, 1) := by decide +kernel
theorem dX7_setLayer_5 : decode cX7_setLayer 5 = .ok (.invokevirtual 100, 3) := by decide +kernel
theorem dX7_setLayer_8 : decode cX7_setLayer 8 = .ok (.ifCond .eq 14, 3) := by decide +kernel
theorem dX7_setLayer_11 : decode cX7_setLayer 11 = .ok (.aload_n 0, 1) := by decide +kernel
theorem dX7_setLayer_12 : decode cX7_setLayer 12 = .ok (.getfield 18, 3) := by decide +kernel
theorem dX7_setLayer_15 : decode cX7_setLayer 15 = .ok (.iload_n 2, 1) := by decide +kernel
theorem dX7_setLayer_16 : decode cX7_setLayer 16 = .ok (.invokevirtual 100, 3) := by decide +kernel
theorem dX7_setLayer_19 : decode cX7_setLayer 19 = .ok (.ifCond .ne 6, 3) := by decide +kernel
theorem dX7_setLayer_22 : decode cX7_setLayer 22 = .ok (.bipush (-101), 2) := by decide +kernel
theorem dX7_setLayer_24 : decode cX7_setLayer 24 = .ok (.ireturn, 1) := by decide +kernel
theorem dX7_setLayer_25 : decode cX7_setLayer 25 = .ok (.aload_n 0, 1) := by decide +kernel
theorem dX7_setLayer_26 : decode cX7_setLayer 26 = .ok (.getfield 50, 3) := by decide +kernel
theorem dX7_setLayer_29 : decode cX7_setLayer 29 = .ok (.aload_n 0, 1) := by decide +kernel
theorem dX7_setLayer_30 : decode cX7_setLayer 30 = .ok (.getfield 18, 3) := by decide +kernel
theorem dX7_setLayer_33 : decode cX7_setLayer 33 = .ok (.invokevirtual 71, 3) := by decide +kernel
theorem dX7_setLayer_36 : decode cX7_setLayer 36 = .ok (.aload_n 0, 1) := by decide +kernel
theorem dX7_setLayer_37 : decode cX7_setLayer 37 = .ok (.getfield 18, 3) := by decide +kernel
theorem dX7_setLayer_40 : decode cX7_setLayer 40 = .ok (.iload_n 1, 1) := by decide +kernel
theorem dX7_setLayer_41 : decode cX7_setLayer 41 = .ok (.iload_n 2, 1) := by decide +kernel
theorem dX7_setLayer_42 : decode cX7_setLayer 42 = .ok (.invokevirtual 121, 3) := by decide +kernel
theorem dX7_setLayer_45 : decode cX7_setLayer 45 = .ok (.ireturn, 1) := by decide +kernel
set_option maxRecDepth 20000 in
theorem ggX7_arrange_X5_look : GoodIn wsX7_arrange wsX5_look := goodIn_r _ [8, 9, 10, 11, 12, 13, 14, 15, 16, 17, 18, 19, 20, 21, 22, 23, 24, 25, 26, 27, 28, 29, 30, 31, 7, 32, 33, 34, 35, 36, 37, 38, 39, 40, 41, 42, 43, 44, 45, 46, 47, 48, 49, 50, 51, 52, 53, 54, 55, 56, 57, 58, 166, 167, 168, 169, 170, 171, 172, 173, 174, 175] (by decide +kernel) (by decide +kernel)
set_option maxRecDepth 20000 in
theorem gX7_arrange_X5_look : GoodIn wsX7_arrange (wsV RX7 78 RX5 yX5_look wsX5_look) := goodIn_app (goodIn_of _ (by decide +kernel)) ggX7_arrange_X5_look
set_option maxRecDepth 20000 in
theorem ggX7_arrange_X5_contentPieces : GoodIn wsX7_arrange wsX5_contentPieces := goodIn_r _ [62, 10, 15, 16, 17, 18, 19, 20, 63, 64, 65, 7, 66, 34, 35, 36, 37, 38, 39, 26, 27, 28, 166, 167, 168, 169, 170, 171, 172, 173, 174, 175] (by decide +kernel) (by decide +kernel)
set_option maxRecDepth 20000 in
theorem gX7_arrange_X5_contentPieces : GoodIn wsX7_arrange (wsV RX7 81 RX5 yX5_contentPieces wsX5_contentPieces) := goodIn_app (goodIn_of _ (by decide +kernel)) ggX7_arrange_X5_contentPieces
set_option maxRecDepth 20000 in
theorem ggX7_arrange_X1_pieces : GoodIn wsX7_arrange wsX1_pieces := goodIn_r _ [19, 20, 170, 171, 172, 173, 174, 175] (by decide +kernel) (by decide +kernel)
set_option maxRecDepth 20000 in
theorem gX7_arrange_X1_pieces : GoodIn wsX7_arrange (wsV RX7 108 RX1 yX1_pieces wsX1_pieces) := goodIn_app (goodIn_of _ (by decide +kernel)) ggX7_arrange_X1_pieces
set_option maxRecDepth 20000 in
theorem ggX7_arrange_X0_record : GoodIn wsX7_arrange wsX0_record := goodIn_r _ [72, 73, 74, 75, 76, 77, 71, 78, 79, 80, 81, 82, 18, 83, 39, 84, 85, 86, 87, 25, 44, 49, 20, 88, 176, 177, 178, 170, 171, 172, 173, 174, 175] (by decide +kernel) (by decide +kernel)
set_option maxRecDepth 20000 in
theorem gX7_arrange_X0_record : GoodIn wsX7_arrange (wsV RX7 71 RX0 yX0_record wsX0_record) := goodIn_app (goodIn_of _ (by decide +kernel)) ggX7_arrange_X0_record
set_option maxRecDepth 20000 in
theorem ggX7_arrange_X7_makeCheapestShift : GoodIn wsX7_arrange wsX7_makeCheapestShift := goodIn_r _ [92, 1, 2, 93, 4, 5, 6, 7, 8, 9, 10, 11, 12, 13, 14, 15, 16, 17, 18, 19, 20, 21, 22, 23, 24, 25, 26, 27, 28, 29, 30, 31, 32, 33, 34, 35, 36, 37, 38, 39, 40, 41, 42, 43, 44, 45, 46, 47, 48, 49, 50, 51, 52, 53, 54, 55, 56, 57, 58, 67, 94, 64, 65, 66, 95, 96, 97, 98, 99, 100, 101, 102, 103, 104, 105, 106, 81, 82, 83, 84, 85, 86, 87, 88, 107, 108, 109, 110, 111, 112, 113, 60, 61, 62, 63, 114, 115, 116, 117, 118, 119, 120, 121, 122, 123, 124, 125, 126, 127, 128, 129, 130, 131, 132, 133, 134, 135, 136, 137, 138, 139, 140, 141, 142, 143, 144, 145, 146, 147, 148, 149, 150, 151, 152, 153, 154, 155, 156, 157, 158, 159, 160, 161, 162, 163, 164, 165, 166, 167, 168, 169, 170, 171, 172, 173, 174, 175, 179, 180, 181, 182, 183] (by decide +kernel) (by decide +kernel)
set_option maxRecDepth 20000 in
theorem gX7_arrange_X7_makeCheapestShift : GoodIn wsX7_arrange (wsV RX7 125 RX7 yX7_makeCheapestShift wsX7_makeCheapestShift) := goodIn_app (goodIn_of _ (by decide +kernel)) ggX7_arrange_X7_makeCheapestShift
theorem dX7_arrange_0 : decode cX7_arrange 0 = .ok (.aload_n 0, 1) := by decide +kernel
theorem dX7_arrange_1 : decode cX7_arrange 1 = .ok (.getfield 27, 3) := by decide +kernel
theorem dX7_arrange_4 : decode cX7_arrange 4 = .ok (.invokevirtual 78, 3) := by decide +kernel
theorem dX7_arrange_7 : decode cX7_arrange 7 = .ok (.aload_n 0, 1) := by decide +kernel
theorem dX7_arrange_8 : decode cX7_arrange 8 = .ok (.getfield 27, 3) := by decide +kernel
theorem dX7_arrange_11 : decode cX7_arrange 11 = .ok (.invokevirtual 81, 3) := by decide +kernel
theorem dX7_arrange_14 : decode cX7_arrange 14 = .ok (.aload_n 0, 1) := by decide +kernel
theorem dX7_arrange_15 : decode cX7_arrange 15 = .ok (.getfield 18, 3) := by decide +kernel
theorem dX7_arrange_18 : decode cX7_arrange 18 = .ok (.invokevirtual 108, 3) := by decide +kernel
theorem dX7_arrange_21 : decode cX7_arrange 21 = .ok (.if_icmp .ne 6, 3) := by decide +kernel
theorem dX7_arrange_24 : decode cX7_arrange 24 = .ok (.bipush (-102), 2) := by decide +kernel
theorem dX7_arrange_26 : decode cX7_arrange 26 = .ok (.ireturn, 1) := by decide +kernel
theorem dX7_arrange_27 : decode cX7_arrange 27 = .ok (.aload_n 0, 1) := by decide +kernel
theorem dX7_arrange_28 : decode cX7_arrange 28 = .ok (.getfield 50, 3) := by decide +kernel
theorem dX7_arrange_31 : decode cX7_arrange 31 = .ok (.aload_n 0, 1) := by decide +kernel
theorem dX7_arrange_32 : decode cX7_arrange 32 = .ok (.getfield 18, 3) := by decide +kernel
theorem dX7_arrange_35 : decode cX7_arrange 35 = .ok (.invokevirtual 71, 3) := by decide +kernel
theorem dX7_arrange_38 : decode cX7_arrange 38 = .ok (.iconst 0, 1) := by decide +kernel
theorem dX7_arrange_39 : decode cX7_arrange 39 = .ok (.istore_n 1, 1) := by decide +kernel
theorem dX7_arrange_40 : decode cX7_arrange 40 = .ok (.iload_n 1, 1) := by decide +kernel
theorem dX7_arrange_41 : decode cX7_arrange 41 = .ok (.bipush 12, 2) := by decide +kernel
theorem dX7_arrange_43 : decode cX7_arrange 43 = .ok (.if_icmp .ge 16, 3) := by decide +kernel
theorem dX7_arrange_46 : decode cX7_arrange 46 = .ok (.aload_n 0, 1) := by decide +kernel
theorem dX7_arrange_47 : decode cX7_arrange 47 = .ok (.invokevirtual 125, 3) := by decide +kernel
theorem dX7_arrange_50 : decode cX7_arrange 50 = .ok (.ifCond .eq 9, 3) := by decide +kernel
theorem dX7_arrange_53 : decode cX7_arrange 53 = .ok (.iinc 1 1, 3) := by decide +kernel
theorem dX7_arrange_56 : decode cX7_arrange 56 = .ok (.goto (-16), 3) := by decide +kernel
theorem dX7_arrange_59 : decode cX7_arrange 59 = .ok (.iload_n 1, 1) := by decide +kernel
theorem dX7_arrange_60 : decode cX7_arrange 60 = .ok (.ireturn, 1) := by decide +kernel
set_option maxRecDepth 20000 in
theorem ggX7_append_X7_isWithin : GoodIn wsX7_append wsX7_isWithin := goodIn_r _ [5] (by decide +kernel) (by decide +kernel)
set_option maxRecDepth 20000 in
theorem gX7_append_X7_isWithin : GoodIn wsX7_append (va_wsS RX7 67 yX7_isWithin wsX7_isWithin) := goodIn_app (goodIn_of _ (by decide +kernel)) ggX7_append_X7_isWithin
set_option maxRecDepth 20000 in
theorem ggX7_append_X6_isFull : GoodIn wsX7_append wsX6_isFull := goodIn_r _ [10, 11, 31, 32] (by decide +kernel) (by decide +kernel)
set_option maxRecDepth 20000 in
theorem gX7_append_X6_isFull : GoodIn wsX7_append (wsV RX7 128 RX6 yX6_isFull wsX6_isFull) := goodIn_app (goodIn_of _ (by decide +kernel)) ggX7_append_X6_isFull
set_option maxRecDepth 20000 in
theorem ggX7_append_X6_add : GoodIn wsX7_append wsX6_add := goodIn_r _ [15, 16, 11, 17, 4, 18, 31, 32] (by decide +kernel) (by decide +kernel)
set_option maxRecDepth 20000 in
theorem gX7_append_X6_add : GoodIn wsX7_append (wsV RX7 129 RX6 yX6_add wsX6_add) := goodIn_app (goodIn_of _ (by decide +kernel)) ggX7_append_X6_add
set_option maxRecDepth 20000 in
theorem ggX7_append_X6_length : GoodIn wsX7_append wsX6_length := goodIn_r _ [22, 11, 31, 32] (by decide +kernel) (by decide +kernel)
set_option maxRecDepth 20000 in
theorem gX7_append_X6_length : GoodIn wsX7_append (wsV RX7 132 RX6 yX6_length wsX6_length) := goodIn_app (goodIn_of _ (by decide +kernel)) ggX7_append_X6_length
theorem dX7_append_0 : decode cX7_append 0 = .ok (.iload_n 1, 1) := by decide +kernel
theorem dX7_append_1 : decode cX7_append 1 = .ok (.iconst 1, 1) := by decide +kernel
theorem dX7_append_2 : decode cX7_append 2 = .ok (.sipush 255, 3) := by decide +kernel
theorem dX7_append_5 : decode cX7_append 5 = .ok (.invokestatic 67, 3) := by decide +kernel
theorem dX7_append_8 : decode cX7_append 8 = .ok (.ifCond .ne 6, 3) := by decide +kernel
theorem dX7_append_11 : decode cX7_append 11 = .ok (.bipush (-101), 2) := by decide +kernel
theorem dX7_append_13 : decode cX7_append 13 = .ok (.ireturn, 1) := by decide +kernel
theorem dX7_append_14 : decode cX7_append 14 = .ok (.aload_n 0, 1) := by decide +kernel
theorem dX7_append_15 : decode cX7_append 15 = .ok (.getfield 54, 3) := by decide +kernel
theorem dX7_append_18 : decode cX7_append 18 = .ok (.invokevirtual 128, 3) := by decide +kernel
theorem dX7_append_21 : decode cX7_append 21 = .ok (.ifCond .eq 6, 3) := by decide +kernel
theorem dX7_append_24 : decode cX7_append 24 = .ok (.bipush (-103), 2) := by decide +kernel
theorem dX7_append_26 : decode cX7_append 26 = .ok (.ireturn, 1) := by decide +kernel
theorem dX7_append_27 : decode cX7_append 27 = .ok (.aload_n 0, 1) := by decide +kernel
theorem dX7_append_28 : decode cX7_append 28 = .ok (.getfield 54, 3) := by decide +kernel
theorem dX7_append_31 : decode cX7_append 31 = .ok (.iload_n 1, 1) := by decide +kernel
theorem dX7_append_32 : decode cX7_append 32 = .ok (.invokevirtual 129, 3) := by decide +kernel
theorem dX7_append_35 : decode cX7_append 35 = .ok (.aload_n 0, 1) := by decide +kernel
theorem dX7_append_36 : decode cX7_append 36 = .ok (.getfield 54, 3) := by decide +kernel
theorem dX7_append_39 : decode cX7_append 39 = .ok (.invokevirtual 132, 3) := by decide +kernel
theorem dX7_append_42 : decode cX7_append 42 = .ok (.ireturn, 1) := by decide +kernel
set_option maxRecDepth 20000 in
theorem ggX7_clearText_X6_length : GoodIn wsX7_clearText wsX6_length := goodIn_r _ [6, 7, 20, 21] (by decide +kernel) (by decide +kernel)
set_option maxRecDepth 20000 in
theorem gX7_clearText_X6_length : GoodIn wsX7_clearText (wsV RX7 132 RX6 yX6_length wsX6_length) := goodIn_app (goodIn_of _ (by decide +kernel)) ggX7_clearText_X6_length
set_option maxRecDepth 20000 in
theorem ggX7_clearText_X6_clear : GoodIn wsX7_clearText wsX6_clear := goodIn_r _ [11, 7, 20, 21] (by decide +kernel) (by decide +kernel)
set_option maxRecDepth 20000 in
theorem gX7_clearText_X6_clear : GoodIn wsX7_clearText (wsV RX7 135 RX6 yX6_clear wsX6_clear) := goodIn_app (goodIn_of _ (by decide +kernel)) ggX7_clearText_X6_clear
theorem dX7_clearText_0 : decode cX7_clearText 0 = .ok (.aload_n 0, 1) := by decide +kernel
theorem dX7_clearText_1 : decode cX7_clearText 1 = .ok (.getfield 54, 3) := by decide +kernel
theorem dX7_clearText_4 : decode cX7_clearText 4 = .ok (.invokevirtual 132, 3) := by decide +kernel
theorem dX7_clearText_7 : decode cX7_clearText 7 = .ok (.istore_n 1, 1) := by decide +kernel
theorem dX7_clearText_8 : decode cX7_clearText 8 = .ok (.aload_n 0, 1) := by decide +kernel
theorem dX7_clearText_9 : decode cX7_clearText 9 = .ok (.getfield 54, 3) := by decide +kernel
theorem dX7_clearText_12 : decode cX7_clearText 12 = .ok (.invokevirtual 135, 3) := by decide +kernel
theorem dX7_clearText_15 : decode cX7_clearText 15 = .ok (.iload_n 1, 1) := by decide +kernel
theorem dX7_clearText_16 : decode cX7_clearText 16 = .ok (.ireturn, 1) := by decide +kernel
set_option maxRecDepth 20000 in
theorem ggX7_load_X1_take : GoodIn wsX7_load wsX1_take := goodIn_r _ [10, 11, 12, 13, 14, 15, 16, 17, 18, 19, 20, 172, 173, 174, 175, 176, 177] (by decide +kernel) (by decide +kernel)
set_option maxRecDepth 20000 in
theorem gX7_load_X1_take : GoodIn wsX7_load (wsV RX7 138 RX1 yX1_take wsX1_take) := goodIn_app (goodIn_of _ (by decide +kernel)) ggX7_load_X1_take
set_option maxRecDepth 20000 in
theorem ggX7_load_X4_read : GoodIn wsX7_load wsX4_read := goodIn_r _ [25, 26, 27, 28, 29, 30, 31, 24, 32, 33, 34, 35, 36, 37, 38, 39, 40, 41, 42, 43, 44, 45, 46, 47, 48, 49, 50, 51, 52, 53, 54, 55, 56, 57, 58, 59, 60, 61, 62, 63, 64, 65, 66, 67, 68, 69, 70, 71, 72, 73, 74, 75, 76, 77, 78, 79, 80, 81, 82, 83, 84, 85, 86, 87, 88, 89, 90, 91, 92, 93, 94, 95, 96, 97, 98, 99, 100, 101, 102, 103, 104, 105, 106, 107, 108, 109, 110, 111, 112, 113, 114, 115, 116, 117, 118, 119, 120, 121, 122, 123, 124, 9, 125, 17, 18, 126, 127, 128, 129, 19, 130, 131, 132, 133, 134, 135, 136, 137, 16, 138, 139, 140, 141, 11, 142, 143, 144, 145, 146, 178, 179, 180, 181, 182, 183, 184, 172, 173, 174, 175, 176, 177] (by decide +kernel) (by decide +kernel)
set_option maxRecDepth 20000 in
theorem gX7_load_X4_read : GoodIn wsX7_load (wsV RX7 141 RX4 yX4_read wsX4_read) := goodIn_app (goodIn_of _ (by decide +kernel)) ggX7_load_X4_read
set_option maxRecDepth 20000 in
theorem ggX7_load_X0_record : GoodIn wsX7_load wsX0_record := goodIn_r _ [151, 152, 153, 154, 155, 156, 150, 157, 158, 159, 7, 8, 9, 10, 11, 12, 13, 14, 15, 16, 17, 18, 19, 20, 185, 186, 187, 172, 173, 174, 175, 176, 177] (by decide +kernel) (by decide +kernel)
set_option maxRecDepth 20000 in
theorem gX7_load_X0_record : GoodIn wsX7_load (wsV RX7 71 RX0 yX0_record wsX0_record) := goodIn_app (goodIn_of _ (by decide +kernel)) ggX7_load_X0_record
set_option maxRecDepth 20000 in
theorem ggX7_load_X6_clear : GoodIn wsX7_load wsX6_clear := goodIn_r _ [163, 39, 183, 184] (by decide +kernel) (by decide +kernel)
set_option maxRecDepth 20000 in
theorem gX7_load_X6_clear : GoodIn wsX7_load (wsV RX7 135 RX6 yX6_clear wsX6_clear) := goodIn_app (goodIn_of _ (by decide +kernel)) ggX7_load_X6_clear
theorem dX7_load_0 : decode cX7_load 0 = .ok (.aload_n 0, 1) := by decide +kernel
theorem dX7_load_1 : decode cX7_load 1 = .ok (.getfield 24, 3) := by decide +kernel
theorem dX7_load_4 : decode cX7_load 4 = .ok (.aload_n 0, 1) := by decide +kernel
theorem dX7_load_5 : decode cX7_load 5 = .ok (.getfield 18, 3) := by decide +kernel
theorem dX7_load_8 : decode cX7_load 8 = .ok (.invokevirtual 138, 3) := by decide +kernel
theorem dX7_load_11 : decode cX7_load 11 = .ok (.aload_n 0, 1) := by decide +kernel
theorem dX7_load_12 : decode cX7_load 12 = .ok (.getfield 63, 3) := by decide +kernel
theorem dX7_load_15 : decode cX7_load 15 = .ok (.aload_n 0, 1) := by decide +kernel
theorem dX7_load_16 : decode cX7_load 16 = .ok (.getfield 24, 3) := by decide +kernel
theorem dX7_load_19 : decode cX7_load 19 = .ok (.invokevirtual 141, 3) := by decide +kernel
theorem dX7_load_22 : decode cX7_load 22 = .ok (.istore_n 1, 1) := by decide +kernel
theorem dX7_load_23 : decode cX7_load 23 = .ok (.iload_n 1, 1) := by decide +kernel
theorem dX7_load_24 : decode cX7_load 24 = .ok (.ifCond .lt 32, 3) := by decide +kernel
theorem dX7_load_27 : decode cX7_load 27 = .ok (.aload_n 0, 1) := by decide +kernel
theorem dX7_load_28 : decode cX7_load 28 = .ok (.getfield 50, 3) := by decide +kernel
theorem dX7_load_31 : decode cX7_load 31 = .ok (.aload_n 0, 1) := by decide +kernel
theorem dX7_load_32 : decode cX7_load 32 = .ok (.getfield 18, 3) := by decide +kernel
theorem dX7_load_35 : decode cX7_load 35 = .ok (.invokevirtual 71, 3) := by decide +kernel
theorem dX7_load_38 : decode cX7_load 38 = .ok (.aload_n 0, 1) := by decide +kernel
theorem dX7_load_39 : decode cX7_load 39 = .ok (.getfield 18, 3) := by decide +kernel
theorem dX7_load_42 : decode cX7_load 42 = .ok (.aload_n 0, 1) := by decide +kernel
theorem dX7_load_43 : decode cX7_load 43 = .ok (.getfield 24, 3) := by decide +kernel
theorem dX7_load_46 : decode cX7_load 46 = .ok (.invokevirtual 138, 3) := by decide +kernel
theorem dX7_load_49 : decode cX7_load 49 = .ok (.aload_n 0, 1) := by decide +kernel
theorem dX7_load_50 : decode cX7_load 50 = .ok (.getfield 54, 3) := by decide +kernel
theorem dX7_load_53 : decode cX7_load 53 = .ok (.invokevirtual 135, 3) := by decide +kernel
theorem dX7_load_56 : decode cX7_load 56 = .ok (.iload_n 1, 1) := by decide +kernel
theorem dX7_load_57 : decode cX7_load 57 = .ok (.ireturn, 1) := by decide +kernel
set_option maxRecDepth 20000 in
theorem ggX7_undo_X0_size : GoodIn wsX7_undo wsX0_size := goodIn_r _ [7, 8, 42, 43, 44] (by decide +kernel) (by decide +kernel)
set_option maxRecDepth 20000 in
theorem gX7_undo_X0_size : GoodIn wsX7_undo (wsV RX7 145 RX0 yX0_size wsX0_size) := goodIn_app (goodIn_of _ (by decide +kernel)) ggX7_undo_X0_size
set_option maxRecDepth 20000 in
theorem ggX7_undo_X0_restore : GoodIn wsX7_undo wsX0_restore := goodIn_r _ [12, 8, 13, 14, 15, 6, 16, 17, 18, 19, 20, 21, 22, 23, 24, 25, 26, 27, 28, 29, 30, 31, 32, 33, 42, 43, 44, 45, 46, 47, 48, 49, 50] (by decide +kernel) (by decide +kernel)
set_option maxRecDepth 20000 in
theorem gX7_undo_X0_restore : GoodIn wsX7_undo (wsV RX7 148 RX0 yX0_restore wsX0_restore) := goodIn_app (goodIn_of _ (by decide +kernel)) ggX7_undo_X0_restore
theorem dX7_undo_0 : decode cX7_undo 0 = .ok (.aload_n 0, 1) := by decide +kernel
theorem dX7_undo_1 : decode cX7_undo 1 = .ok (.getfield 50, 3) := by decide +kernel
theorem dX7_undo_4 : decode cX7_undo 4 = .ok (.invokevirtual 145, 3) := by decide +kernel
theorem dX7_undo_7 : decode cX7_undo 7 = .ok (.ifCond .ne 6, 3) := by decide +kernel
theorem dX7_undo_10 : decode cX7_undo 10 = .ok (.bipush (-102), 2) := by decide +kernel
theorem dX7_undo_12 : decode cX7_undo 12 = .ok (.ireturn, 1) := by decide +kernel
theorem dX7_undo_13 : decode cX7_undo 13 = .ok (.aload_n 0, 1) := by decide +kernel
theorem dX7_undo_14 : decode cX7_undo 14 = .ok (.getfield 50, 3) := by decide +kernel
theorem dX7_undo_17 : decode cX7_undo 17 = .ok (.aload_n 0, 1) := by decide +kernel
theorem dX7_undo_18 : decode cX7_undo 18 = .ok (.getfield 18, 3) := by decide +kernel
theorem dX7_undo_21 : decode cX7_undo 21 = .ok (.invokevirtual 148, 3) := by decide +kernel
theorem dX7_undo_24 : decode cX7_undo 24 = .ok (.aload_n 0, 1) := by decide +kernel
theorem dX7_undo_25 : decode cX7_undo 25 = .ok (.getfield 50, 3) := by decide +kernel
theorem dX7_undo_28 : decode cX7_undo 28 = .ok (.invokevirtual 145, 3) := by decide +kernel
theorem dX7_undo_31 : decode cX7_undo 31 = .ok (.ireturn, 1) := by decide +kernel
set_option maxRecDepth 20000 in
theorem ggX7_count_X5_look : GoodIn wsX7_count wsX5_look := goodIn_r _ [9, 10, 11, 12, 13, 14, 15, 16, 17, 18, 19, 20, 21, 22, 23, 24, 25, 26, 27, 28, 29, 30, 31, 32, 8, 33, 34, 35, 36, 37, 38, 39, 40, 41, 42, 43, 44, 45, 46, 47, 48, 49, 50, 51, 52, 53, 54, 55, 56, 57, 58, 59, 132, 133, 134, 135, 136, 137, 138, 139, 140, 141] (by decide +kernel) (by decide +kernel)
set_option maxRecDepth 20000 in
theorem gX7_count_X5_look : GoodIn wsX7_count (wsV RX7 78 RX5 yX5_look wsX5_look) := goodIn_app (goodIn_of _ (by decide +kernel)) ggX7_count_X5_look
set_option maxRecDepth 20000 in
theorem ggX7_count_X1_pieces : GoodIn wsX7_count wsX1_pieces := goodIn_r _ [20, 21, 136, 137, 138, 139, 140, 141] (by decide +kernel) (by decide +kernel)
set_option maxRecDepth 20000 in
theorem gX7_count_X1_pieces : GoodIn wsX7_count (wsV RX7 108 RX1 yX1_pieces wsX1_pieces) := goodIn_app (goodIn_of _ (by decide +kernel)) ggX7_count_X1_pieces
set_option maxRecDepth 20000 in
theorem ggX7_count_X1_columns : GoodIn wsX7_count wsX1_columns := goodIn_r _ [64, 45, 136, 137, 138, 139, 140, 141] (by decide +kernel) (by decide +kernel)
set_option maxRecDepth 20000 in
theorem gX7_count_X1_columns : GoodIn wsX7_count (wsV RX7 151 RX1 yX1_columns wsX1_columns) := goodIn_app (goodIn_of _ (by decide +kernel)) ggX7_count_X1_columns
set_option maxRecDepth 20000 in
theorem ggX7_count_X1_rows : GoodIn wsX7_count wsX1_rows := goodIn_r _ [68, 50, 136, 137, 138, 139, 140, 141] (by decide +kernel) (by decide +kernel)
set_option maxRecDepth 20000 in
theorem gX7_count_X1_rows : GoodIn wsX7_count (wsV RX7 154 RX1 yX1_rows wsX1_rows) := goodIn_app (goodIn_of _ (by decide +kernel)) ggX7_count_X1_rows
set_option maxRecDepth 20000 in
theorem ggX7_count_X5_contentPieces : GoodIn wsX7_count wsX5_contentPieces := goodIn_r _ [72, 11, 16, 17, 18, 19, 20, 21, 73, 74, 75, 8, 76, 35, 36, 37, 38, 39, 40, 27, 28, 29, 132, 133, 134, 135, 136, 137, 138, 139, 140, 141] (by decide +kernel) (by decide +kernel)
set_option maxRecDepth 20000 in
theorem gX7_count_X5_contentPieces : GoodIn wsX7_count (wsV RX7 81 RX5 yX5_contentPieces wsX5_contentPieces) := goodIn_app (goodIn_of _ (by decide +kernel)) ggX7_count_X5_contentPieces
set_option maxRecDepth 20000 in
theorem ggX7_count_X5_unseenPieces : GoodIn wsX7_count wsX5_unseenPieces := goodIn_r _ [80, 11, 35, 16, 17, 18, 19, 20, 21, 27, 28, 29, 132, 133, 134, 135, 136, 137, 138, 139, 140, 141] (by decide +kernel) (by decide +kernel)
set_option maxRecDepth 20000 in
theorem gX7_count_X5_unseenPieces : GoodIn wsX7_count (wsV RX7 157 RX5 yX5_unseenPieces wsX5_unseenPieces) := goodIn_app (goodIn_of _ (by decide +kernel)) ggX7_count_X5_unseenPieces
set_option maxRecDepth 20000 in
theorem ggX7_count_X5_wholeFrames : GoodIn wsX7_count wsX5_wholeFrames := goodIn_r _ [84, 11, 16, 17, 18, 19, 20, 21, 36, 37, 38, 39, 40, 85, 86, 87, 8, 88, 89, 90, 91, 92, 93, 94, 95, 96, 41, 42, 43, 44, 45, 97, 98, 99, 100, 10, 34, 101, 62, 63, 64, 46, 47, 48, 49, 50, 27, 28, 29, 53, 54, 55, 56, 57, 58, 59, 132, 133, 134, 135, 136, 137, 138, 139, 140, 141] (by decide +kernel) (by decide +kernel)
set_option maxRecDepth 20000 in
theorem gX7_count_X5_wholeFrames : GoodIn wsX7_count (wsV RX7 160 RX5 yX5_wholeFrames wsX5_wholeFrames) := goodIn_app (goodIn_of _ (by decide +kernel)) ggX7_count_X5_wholeFrames
set_option maxRecDepth 20000 in
theorem ggX7_count_X5_pageCells : GoodIn wsX7_count wsX5_pageCells := goodIn_r _ [105, 11, 106, 66, 67, 19, 68, 50, 97, 98, 99, 8, 100, 10, 34, 101, 62, 63, 64, 45, 41, 42, 43, 44, 46, 47, 48, 49, 27, 28, 29, 36, 37, 38, 39, 40, 53, 54, 55, 56, 57, 58, 59, 132, 133, 134, 135, 136, 137, 138, 139, 140, 141] (by decide +kernel) (by decide +kernel)
set_option maxRecDepth 20000 in
theorem gX7_count_X5_pageCells : GoodIn wsX7_count (wsV RX7 163 RX5 yX5_pageCells wsX5_pageCells) := goodIn_app (goodIn_of _ (by decide +kernel)) ggX7_count_X5_pageCells
set_option maxRecDepth 20000 in
theorem ggX7_count_X1_cost : GoodIn wsX7_count wsX1_cost := goodIn_r _ [110, 111, 136, 137, 138, 139, 140, 141] (by decide +kernel) (by decide +kernel)
set_option maxRecDepth 20000 in
theorem gX7_count_X1_cost : GoodIn wsX7_count (wsV RX7 166 RX1 yX1_cost wsX1_cost) := goodIn_app (goodIn_of _ (by decide +kernel)) ggX7_count_X1_cost
set_option maxRecDepth 20000 in
theorem ggX7_count_X0_size : GoodIn wsX7_count wsX0_size := goodIn_r _ [116, 117, 142, 143, 144] (by decide +kernel) (by decide +kernel)
set_option maxRecDepth 20000 in
theorem gX7_count_X0_size : GoodIn wsX7_count (wsV RX7 145 RX0 yX0_size wsX0_size) := goodIn_app (goodIn_of _ (by decide +kernel)) ggX7_count_X0_size
set_option maxRecDepth 20000 in
theorem ggX7_count_X6_length : GoodIn wsX7_count wsX6_length := goodIn_r _ [122, 123, 145, 146] (by decide +kernel) (by decide +kernel)
set_option maxRecDepth 20000 in
theorem gX7_count_X6_length : GoodIn wsX7_count (wsV RX7 132 RX6 yX6_length wsX6_length) := goodIn_app (goodIn_of _ (by decide +kernel)) ggX7_count_X6_length
theorem dX7_count_0 : decode cX7_count 0 = .ok (.aload_n 0, 1) := by decide +kernel
theorem dX7_count_1 : decode cX7_count 1 = .ok (.getfield 27, 3) := by decide +kernel
theorem dX7_count_4 : decode cX7_count 4 = .ok (.invokevirtual 78, 3) := by decide +kernel
theorem dX7_count_7 : decode cX7_count 7 = .ok (.iload_n 1, 1) := by decide +kernel
theorem dX7_count_8 : decode cX7_count 8 = .ok (.tableswitch 136 0 9 #[56, 64, 72, 80, 88, 96, 104, 112, 120, 128], 56) := by decide +kernel
theorem dX7_count_64 : decode cX7_count 64 = .ok (.aload_n 0, 1) := by decide +kernel
theorem dX7_count_65 : decode cX7_count 65 = .ok (.getfield 18, 3) := by decide +kernel
theorem dX7_count_68 : decode cX7_count 68 = .ok (.invokevirtual 108, 3) := by decide +kernel
theorem dX7_count_71 : decode cX7_count 71 = .ok (.ireturn, 1) := by decide +kernel
theorem dX7_count_72 : decode cX7_count 72 = .ok (.aload_n 0, 1) := by decide +kernel
theorem dX7_count_73 : decode cX7_count 73 = .ok (.getfield 18, 3) := by decide +kernel
theorem dX7_count_76 : decode cX7_count 76 = .ok (.invokevirtual 151, 3) := by decide +kernel
theorem dX7_count_79 : decode cX7_count 79 = .ok (.ireturn, 1) := by decide +kernel
theorem dX7_count_80 : decode cX7_count 80 = .ok (.aload_n 0, 1) := by decide +kernel
theorem dX7_count_81 : decode cX7_count 81 = .ok (.getfield 18, 3) := by decide +kernel
theorem dX7_count_84 : decode cX7_count 84 = .ok (.invokevirtual 154, 3) := by decide +kernel
theorem dX7_count_87 : decode cX7_count 87 = .ok (.ireturn, 1) := by decide +kernel
theorem dX7_count_88 : decode cX7_count 88 = .ok (.aload_n 0, 1) := by decide +kernel
theorem dX7_count_89 : decode cX7_count 89 = .ok (.getfield 27, 3) := by decide +kernel
theorem dX7_count_92 : decode cX7_count 92 = .ok (.invokevirtual 81, 3) := by decide +kernel
theorem dX7_count_95 : decode cX7_count 95 = .ok (.ireturn, 1) := by decide +kernel
theorem dX7_count_96 : decode cX7_count 96 = .ok (.aload_n 0, 1) := by decide +kernel
theorem dX7_count_97 : decode cX7_count 97 = .ok (.getfield 27, 3) := by decide +kernel
theorem dX7_count_100 : decode cX7_count 100 = .ok (.invokevirtual 157, 3) := by decide +kernel
theorem dX7_count_103 : decode cX7_count 103 = .ok (.ireturn, 1) := by decide +kernel
theorem dX7_count_104 : decode cX7_count 104 = .ok (.aload_n 0, 1) := by decide +kernel
theorem dX7_count_105 : decode cX7_count 105 = .ok (.getfield 27, 3) := by decide +kernel
theorem dX7_count_108 : decode cX7_count 108 = .ok (.invokevirtual 160, 3) := by decide +kernel
theorem dX7_count_111 : decode cX7_count 111 = .ok (.ireturn, 1) := by decide +kernel
theorem dX7_count_112 : decode cX7_count 112 = .ok (.aload_n 0, 1) := by decide +kernel
theorem dX7_count_113 : decode cX7_count 113 = .ok (.getfield 27, 3) := by decide +kernel
theorem dX7_count_116 : decode cX7_count 116 = .ok (.invokevirtual 163, 3) := by decide +kernel
theorem dX7_count_119 : decode cX7_count 119 = .ok (.ireturn, 1) := by decide +kernel
theorem dX7_count_120 : decode cX7_count 120 = .ok (.aload_n 0, 1) := by decide +kernel
theorem dX7_count_121 : decode cX7_count 121 = .ok (.getfield 18, 3) := by decide +kernel
theorem dX7_count_124 : decode cX7_count 124 = .ok (.invokevirtual 166, 3) := by decide +kernel
theorem dX7_count_127 : decode cX7_count 127 = .ok (.ireturn, 1) := by decide +kernel
theorem dX7_count_128 : decode cX7_count 128 = .ok (.aload_n 0, 1) := by decide +kernel
theorem dX7_count_129 : decode cX7_count 129 = .ok (.getfield 50, 3) := by decide +kernel
theorem dX7_count_132 : decode cX7_count 132 = .ok (.invokevirtual 145, 3) := by decide +kernel
theorem dX7_count_135 : decode cX7_count 135 = .ok (.ireturn, 1) := by decide +kernel
theorem dX7_count_136 : decode cX7_count 136 = .ok (.aload_n 0, 1) := by decide +kernel
theorem dX7_count_137 : decode cX7_count 137 = .ok (.getfield 54, 3) := by decide +kernel
theorem dX7_count_140 : decode cX7_count 140 = .ok (.invokevirtual 132, 3) := by decide +kernel
theorem dX7_count_143 : decode cX7_count 143 = .ok (.ireturn, 1) := by decide +kernel
theorem dX7_count_144 : decode cX7_count 144 = .ok (.bipush (-101), 2) := by decide +kernel
theorem dX7_count_146 : decode cX7_count 146 = .ok (.ireturn, 1) := by decide +kernel
set_option maxRecDepth 20000 in
theorem ggX7_piece_X1_has : GoodIn wsX7_piece wsX1_has := goodIn_r _ [8, 9, 155, 156, 157, 158, 159, 160] (by decide +kernel) (by decide +kernel)
set_option maxRecDepth 20000 in
theorem gX7_piece_X1_has : GoodIn wsX7_piece (wsV RX7 100 RX1 yX1_has wsX1_has) := goodIn_app (goodIn_of _ (by decide +kernel)) ggX7_piece_X1_has
set_option maxRecDepth 20000 in
theorem ggX7_piece_X7_isWithin : GoodIn wsX7_piece wsX7_isWithin := goodIn_r _ [13] (by decide +kernel) (by decide +kernel)
set_option maxRecDepth 20000 in
theorem gX7_piece_X7_isWithin : GoodIn wsX7_piece (va_wsS RX7 67 yX7_isWithin wsX7_isWithin) := goodIn_app (goodIn_of _ (by decide +kernel)) ggX7_piece_X7_isWithin
set_option maxRecDepth 20000 in
theorem ggX7_piece_X1_get : GoodIn wsX7_piece wsX1_get := goodIn_r _ [17, 18, 155, 156, 157, 158, 159, 160] (by decide +kernel) (by decide +kernel)
set_option maxRecDepth 20000 in
theorem gX7_piece_X1_get : GoodIn wsX7_piece (wsV RX7 169 RX1 yX1_get wsX1_get) := goodIn_app (goodIn_of _ (by decide +kernel)) ggX7_piece_X1_get
set_option maxRecDepth 20000 in
theorem ggX7_piece_X5_look : GoodIn wsX7_piece wsX5_look := goodIn_r _ [23, 24, 25, 26, 27, 28, 29, 30, 31, 32, 7, 33, 9, 34, 35, 36, 37, 38, 39, 12, 40, 41, 42, 43, 22, 44, 45, 46, 47, 15, 16, 17, 18, 48, 49, 50, 51, 52, 53, 54, 55, 56, 57, 58, 59, 60, 61, 62, 63, 64, 65, 66, 161, 162, 163, 164, 155, 156, 157, 158, 159, 160] (by decide +kernel) (by decide +kernel)
set_option maxRecDepth 20000 in
theorem gX7_piece_X5_look : GoodIn wsX7_piece (wsV RX7 78 RX5 yX5_look wsX5_look) := goodIn_app (goodIn_of _ (by decide +kernel)) ggX7_piece_X5_look
set_option maxRecDepth 20000 in
theorem ggX7_piece_X1_layerOf : GoodIn wsX7_piece wsX1_layerOf := goodIn_r _ [70, 9, 38, 39, 12, 40, 155, 156, 157, 158, 159, 160] (by decide +kernel) (by decide +kernel)
set_option maxRecDepth 20000 in
theorem gX7_piece_X1_layerOf : GoodIn wsX7_piece (wsV RX7 172 RX1 yX1_layerOf wsX1_layerOf) := goodIn_app (goodIn_of _ (by decide +kernel)) ggX7_piece_X1_layerOf
set_option maxRecDepth 20000 in
theorem ggX7_piece_X5_cells : GoodIn wsX7_piece wsX5_cells := goodIn_r _ [74, 46, 39, 12, 40, 161, 162, 163, 164] (by decide +kernel) (by decide +kernel)
set_option maxRecDepth 20000 in
theorem gX7_piece_X5_cells : GoodIn wsX7_piece (wsV RX7 176 RX5 yX5_cells wsX5_cells) := goodIn_app (goodIn_of _ (by decide +kernel)) ggX7_piece_X5_cells
set_option maxRecDepth 20000 in
theorem ggX7_piece_X5_isContent : GoodIn wsX7_piece wsX5_isContent := goodIn_r _ [78, 25, 46, 47, 15, 16, 7, 17, 18, 39, 12, 40, 161, 162, 163, 164, 155, 156, 157, 158, 159, 160] (by decide +kernel) (by decide +kernel)
set_option maxRecDepth 20000 in
theorem gX7_piece_X5_isContent : GoodIn wsX7_piece (wsV RX7 179 RX5 yX5_isContent wsX5_isContent) := goodIn_app (goodIn_of _ (by decide +kernel)) ggX7_piece_X5_isContent
set_option maxRecDepth 20000 in
theorem ggX7_piece_X2_split : GoodIn wsX7_piece wsX2_split := goodIn_r _ [83, 84, 85, 86, 87, 88, 89, 90, 91, 92, 93, 94, 22, 95, 25, 24, 45, 96, 97, 98, 7, 99, 52, 48, 49, 50, 51, 53, 54, 55, 56, 57, 39, 12, 40, 47, 15, 16, 17, 18, 58, 59, 100, 101, 102, 82, 103, 104, 105, 27, 28, 29, 106, 107, 108, 109, 110, 61, 62, 63, 64, 65, 66, 165, 166, 167, 168, 169, 161, 162, 163, 164, 155, 156, 157, 158, 159, 160] (by decide +kernel) (by decide +kernel)
set_option maxRecDepth 20000 in
theorem gX7_piece_X2_split : GoodIn wsX7_piece (wsV RX7 182 RX2 yX2_split wsX2_split) := goodIn_app (goodIn_of _ (by decide +kernel)) ggX7_piece_X2_split
set_option maxRecDepth 20000 in
theorem ggX7_piece_X2_number : GoodIn wsX7_piece wsX2_number := goodIn_r _ [114, 84, 165, 166, 167, 168, 169] (by decide +kernel) (by decide +kernel)
set_option maxRecDepth 20000 in
theorem gX7_piece_X2_number : GoodIn wsX7_piece (wsV RX7 185 RX2 yX2_number wsX2_number) := goodIn_app (goodIn_of _ (by decide +kernel)) ggX7_piece_X2_number
set_option maxRecDepth 20000 in
theorem ggX7_piece_X2_largest : GoodIn wsX7_piece wsX2_largest := goodIn_r _ [118, 85, 165, 166, 167, 168, 169] (by decide +kernel) (by decide +kernel)
set_option maxRecDepth 20000 in
theorem gX7_piece_X2_largest : GoodIn wsX7_piece (wsV RX7 188 RX2 yX2_largest wsX2_largest) := goodIn_app (goodIn_of _ (by decide +kernel)) ggX7_piece_X2_largest
set_option maxRecDepth 20000 in
theorem ggX7_piece_X5_cutStrips : GoodIn wsX7_piece wsX5_cutStrips := goodIn_r _ [122, 25, 123, 124, 90, 125, 47, 15, 16, 7, 17, 18, 126, 127, 128, 22, 129, 48, 49, 50, 51, 52, 130, 93, 94, 95, 24, 45, 96, 97, 98, 99, 53, 54, 55, 56, 57, 39, 12, 40, 60, 61, 62, 63, 64, 65, 66, 161, 162, 163, 164, 155, 156, 157, 158, 159, 160] (by decide +kernel) (by decide +kernel)
set_option maxRecDepth 20000 in
theorem gX7_piece_X5_cutStrips : GoodIn wsX7_piece (wsV RX7 191 RX5 yX5_cutStrips wsX5_cutStrips) := goodIn_app (goodIn_of _ (by decide +kernel)) ggX7_piece_X5_cutStrips
set_option maxRecDepth 20000 in
theorem ggX7_piece_X1_cellsOutside : GoodIn wsX7_piece wsX1_cellsOutside := goodIn_r _ [134, 57, 135, 136, 137, 7, 138, 139, 15, 16, 17, 18, 140, 54, 55, 56, 141, 49, 50, 51, 52, 142, 61, 62, 63, 64, 65, 66, 143, 144, 145, 146, 155, 156, 157, 158, 159, 160] (by decide +kernel) (by decide +kernel)
set_option maxRecDepth 20000 in
theorem gX7_piece_X1_cellsOutside : GoodIn wsX7_piece (wsV RX7 194 RX1 yX1_cellsOutside wsX1_cellsOutside) := goodIn_app (goodIn_of _ (by decide +kernel)) ggX7_piece_X1_cellsOutside
theorem dX7_piece_0 : decode cX7_piece 0 = .ok (.aload_n 0, 1) := by decide +kernel
theorem dX7_piece_1 : decode cX7_piece 1 = .ok (.getfield 18, 3) := by decide +kernel
theorem dX7_piece_4 : decode cX7_piece 4 = .ok (.iload_n 1, 1) := by decide +kernel
theorem dX7_piece_5 : decode cX7_piece 5 = .ok (.invokevirtual 100, 3) := by decide +kernel
theorem dX7_piece_8 : decode cX7_piece 8 = .ok (.ifCond .ne 6, 3) := by decide +kernel
theorem dX7_piece_11 : decode cX7_piece 11 = .ok (.bipush (-101), 2) := by decide +kernel
theorem dX7_piece_13 : decode cX7_piece 13 = .ok (.ireturn, 1) := by decide +kernel
theorem dX7_piece_14 : decode cX7_piece 14 = .ok (.iload_n 2, 1) := by decide +kernel
theorem dX7_piece_15 : decode cX7_piece 15 = .ok (.iconst 0, 1) := by decide +kernel
theorem dX7_piece_16 : decode cX7_piece 16 = .ok (.iconst 5, 1) := by decide +kernel
theorem dX7_piece_17 : decode cX7_piece 17 = .ok (.invokestatic 67, 3) := by decide +kernel
theorem dX7_piece_20 : decode cX7_piece 20 = .ok (.ifCond .eq 13, 3) := by decide +kernel
theorem dX7_piece_23 : decode cX7_piece 23 = .ok (.aload_n 0, 1) := by decide +kernel
theorem dX7_piece_24 : decode cX7_piece 24 = .ok (.getfield 18, 3) := by decide +kernel
theorem dX7_piece_27 : decode cX7_piece 27 = .ok (.iload_n 1, 1) := by decide +kernel
theorem dX7_piece_28 : decode cX7_piece 28 = .ok (.iload_n 2, 1) := by decide +kernel
theorem dX7_piece_29 : decode cX7_piece 29 = .ok (.invokevirtual 169, 3) := by decide +kernel
theorem dX7_piece_32 : decode cX7_piece 32 = .ok (.ireturn, 1) := by decide +kernel
theorem dX7_piece_33 : decode cX7_piece 33 = .ok (.aload_n 0, 1) := by decide +kernel
theorem dX7_piece_34 : decode cX7_piece 34 = .ok (.getfield 27, 3) := by decide +kernel
theorem dX7_piece_37 : decode cX7_piece 37 = .ok (.invokevirtual 78, 3) := by decide +kernel
theorem dX7_piece_40 : decode cX7_piece 40 = .ok (.iload_n 2, 1) := by decide +kernel
theorem dX7_piece_41 : decode cX7_piece 41 = .ok (.tableswitch 128 6 12 #[43, 52, 61, 78, 94, 110, 119], 43) := by decide +kernel
theorem dX7_piece_84 : decode cX7_piece 84 = .ok (.aload_n 0, 1) := by decide +kernel
theorem dX7_piece_85 : decode cX7_piece 85 = .ok (.getfield 18, 3) := by decide +kernel
theorem dX7_piece_88 : decode cX7_piece 88 = .ok (.iload_n 1, 1) := by decide +kernel
theorem dX7_piece_89 : decode cX7_piece 89 = .ok (.invokevirtual 172, 3) := by decide +kernel
theorem dX7_piece_92 : decode cX7_piece 92 = .ok (.ireturn, 1) := by decide +kernel
theorem dX7_piece_93 : decode cX7_piece 93 = .ok (.aload_n 0, 1) := by decide +kernel
theorem dX7_piece_94 : decode cX7_piece 94 = .ok (.getfield 27, 3) := by decide +kernel
theorem dX7_piece_97 : decode cX7_piece 97 = .ok (.iload_n 1, 1) := by decide +kernel
theorem dX7_piece_98 : decode cX7_piece 98 = .ok (.invokevirtual 176, 3) := by decide +kernel
theorem dX7_piece_101 : decode cX7_piece 101 = .ok (.ireturn, 1) := by decide +kernel
theorem dX7_piece_102 : decode cX7_piece 102 = .ok (.aload_n 0, 1) := by decide +kernel
theorem dX7_piece_103 : decode cX7_piece 103 = .ok (.getfield 27, 3) := by decide +kernel
theorem dX7_piece_106 : decode cX7_piece 106 = .ok (.iload_n 1, 1) := by decide +kernel
theorem dX7_piece_107 : decode cX7_piece 107 = .ok (.invokevirtual 179, 3) := by decide +kernel
theorem dX7_piece_110 : decode cX7_piece 110 = .ok (.ifCond .eq 7, 3) := by decide +kernel
theorem dX7_piece_113 : decode cX7_piece 113 = .ok (.iconst 1, 1) := by decide +kernel
theorem dX7_piece_114 : decode cX7_piece 114 = .ok (.goto 4, 3) := by decide +kernel
theorem dX7_piece_117 : decode cX7_piece 117 = .ok (.iconst 0, 1) := by decide +kernel
theorem dX7_piece_118 : decode cX7_piece 118 = .ok (.ireturn, 1) := by decide +kernel
theorem dX7_piece_119 : decode cX7_piece 119 = .ok (.aload_n 0, 1) := by decide +kernel
theorem dX7_piece_120 : decode cX7_piece 120 = .ok (.getfield 36, 3) := by decide +kernel
theorem dX7_piece_123 : decode cX7_piece 123 = .ok (.iload_n 1, 1) := by decide +kernel
theorem dX7_piece_124 : decode cX7_piece 124 = .ok (.invokevirtual 182, 3) := by decide +kernel
theorem dX7_piece_127 : decode cX7_piece 127 = .ok (.aload_n 0, 1) := by decide +kernel
theorem dX7_piece_128 : decode cX7_piece 128 = .ok (.getfield 36, 3) := by decide +kernel
theorem dX7_piece_131 : decode cX7_piece 131 = .ok (.invokevirtual 185, 3) := by decide +kernel
theorem dX7_piece_134 : decode cX7_piece 134 = .ok (.ireturn, 1) := by decide +kernel
theorem dX7_piece_135 : decode cX7_piece 135 = .ok (.aload_n 0, 1) := by decide +kernel
theorem dX7_piece_136 : decode cX7_piece 136 = .ok (.getfield 36, 3) := by decide +kernel
theorem dX7_piece_139 : decode cX7_piece 139 = .ok (.iload_n 1, 1) := by decide +kernel
theorem dX7_piece_140 : decode cX7_piece 140 = .ok (.invokevirtual 182, 3) := by decide +kernel
theorem dX7_piece_143 : decode cX7_piece 143 = .ok (.aload_n 0, 1) := by decide +kernel
theorem dX7_piece_144 : decode cX7_piece 144 = .ok (.getfield 36, 3) := by decide +kernel
theorem dX7_piece_147 : decode cX7_piece 147 = .ok (.invokevirtual 188, 3) := by decide +kernel
theorem dX7_piece_150 : decode cX7_piece 150 = .ok (.ireturn, 1) := by decide +kernel
theorem dX7_piece_151 : decode cX7_piece 151 = .ok (.aload_n 0, 1) := by decide +kernel
theorem dX7_piece_152 : decode cX7_piece 152 = .ok (.getfield 27, 3) := by decide +kernel
theorem dX7_piece_155 : decode cX7_piece 155 = .ok (.iload_n 1, 1) := by decide +kernel
theorem dX7_piece_156 : decode cX7_piece 156 = .ok (.invokevirtual 191, 3) := by decide +kernel
theorem dX7_piece_159 : decode cX7_piece 159 = .ok (.ireturn, 1) := by decide +kernel
theorem dX7_piece_160 : decode cX7_piece 160 = .ok (.aload_n 0, 1) := by decide +kernel
theorem dX7_piece_161 : decode cX7_piece 161 = .ok (.getfield 18, 3) := by decide +kernel
theorem dX7_piece_164 : decode cX7_piece 164 = .ok (.iload_n 1, 1) := by decide +kernel
theorem dX7_piece_165 : decode cX7_piece 165 = .ok (.invokevirtual 194, 3) := by decide +kernel
theorem dX7_piece_168 : decode cX7_piece 168 = .ok (.ireturn, 1) := by decide +kernel
theorem dX7_piece_169 : decode cX7_piece 169 = .ok (.bipush (-101), 2) := by decide +kernel
theorem dX7_piece_171 : decode cX7_piece 171 = .ok (.ireturn, 1) := by decide +kernel
set_option maxRecDepth 20000 in
theorem ggX7_seen_X1_hasCell : GoodIn wsX7_seen wsX1_hasCell := goodIn_r _ [6, 7, 8, 9, 10, 5, 11, 12, 43, 44, 45, 46, 47, 48] (by decide +kernel) (by decide +kernel)
set_option maxRecDepth 20000 in
theorem gX7_seen_X1_hasCell : GoodIn wsX7_seen (wsV RX7 197 RX1 yX1_hasCell wsX1_hasCell) := goodIn_app (goodIn_of _ (by decide +kernel)) ggX7_seen_X1_hasCell
set_option maxRecDepth 20000 in
theorem ggX7_seen_X1_coveringPiece : GoodIn wsX7_seen wsX1_coveringPiece := goodIn_r _ [16, 17, 18, 19, 20, 21, 22, 23, 24, 5, 25, 26, 27, 28, 29, 30, 8, 9, 10, 11, 12, 31, 32, 33, 34, 7, 43, 44, 45, 46, 47, 48] (by decide +kernel) (by decide +kernel)
set_option maxRecDepth 20000 in
theorem gX7_seen_X1_coveringPiece : GoodIn wsX7_seen (wsV RX7 200 RX1 yX1_coveringPiece wsX1_coveringPiece) := goodIn_app (goodIn_of _ (by decide +kernel)) ggX7_seen_X1_coveringPiece
theorem dX7_seen_0 : decode cX7_seen 0 = .ok (.aload_n 0, 1) := by decide +kernel
theorem dX7_seen_1 : decode cX7_seen 1 = .ok (.getfield 18, 3) := by decide +kernel
theorem dX7_seen_4 : decode cX7_seen 4 = .ok (.iload_n 1, 1) := by decide +kernel
theorem dX7_seen_5 : decode cX7_seen 5 = .ok (.iload_n 2, 1) := by decide +kernel
theorem dX7_seen_6 : decode cX7_seen 6 = .ok (.invokevirtual 197, 3) := by decide +kernel
theorem dX7_seen_9 : decode cX7_seen 9 = .ok (.ifCond .ne 6, 3) := by decide +kernel
theorem dX7_seen_12 : decode cX7_seen 12 = .ok (.bipush (-101), 2) := by decide +kernel
theorem dX7_seen_14 : decode cX7_seen 14 = .ok (.ireturn, 1) := by decide +kernel
theorem dX7_seen_15 : decode cX7_seen 15 = .ok (.aload_n 0, 1) := by decide +kernel
theorem dX7_seen_16 : decode cX7_seen 16 = .ok (.getfield 18, 3) := by decide +kernel
theorem dX7_seen_19 : decode cX7_seen 19 = .ok (.iload_n 1, 1) := by decide +kernel
theorem dX7_seen_20 : decode cX7_seen 20 = .ok (.iload_n 2, 1) := by decide +kernel
theorem dX7_seen_21 : decode cX7_seen 21 = .ok (.iconst 0, 1) := by decide +kernel
theorem dX7_seen_22 : decode cX7_seen 22 = .ok (.invokevirtual 200, 3) := by decide +kernel
theorem dX7_seen_25 : decode cX7_seen 25 = .ok (.istore_n 3, 1) := by decide +kernel
theorem dX7_seen_26 : decode cX7_seen 26 = .ok (.iload_n 3, 1) := by decide +kernel
theorem dX7_seen_27 : decode cX7_seen 27 = .ok (.bipush (-109), 2) := by decide +kernel
theorem dX7_seen_29 : decode cX7_seen 29 = .ok (.if_icmp .ne 7, 3) := by decide +kernel
theorem dX7_seen_32 : decode cX7_seen 32 = .ok (.iconst (-1), 1) := by decide +kernel
theorem dX7_seen_33 : decode cX7_seen 33 = .ok (.goto 4, 3) := by decide +kernel
theorem dX7_seen_36 : decode cX7_seen 36 = .ok (.iload_n 3, 1) := by decide +kernel
theorem dX7_seen_37 : decode cX7_seen 37 = .ok (.ireturn, 1) := by decide +kernel
set_option maxRecDepth 20000 in
theorem ggX7_inLayer_X1_has : GoodIn wsX7_inLayer wsX1_has := goodIn_r _ [6, 7, 24, 25, 26, 27, 28, 29] (by decide +kernel) (by decide +kernel)
set_option maxRecDepth 20000 in
theorem gX7_inLayer_X1_has : GoodIn wsX7_inLayer (wsV RX7 100 RX1 yX1_has wsX1_has) := goodIn_app (goodIn_of _ (by decide +kernel)) ggX7_inLayer_X1_has
set_option maxRecDepth 20000 in
theorem ggX7_inLayer_X1_pieceIn : GoodIn wsX7_inLayer wsX1_pieceIn := goodIn_r _ [11, 12, 13, 14, 15, 24, 25, 26, 27, 28, 29] (by decide +kernel) (by decide +kernel)
set_option maxRecDepth 20000 in
theorem gX7_inLayer_X1_pieceIn : GoodIn wsX7_inLayer (wsV RX7 203 RX1 yX1_pieceIn wsX1_pieceIn) := goodIn_app (goodIn_of _ (by decide +kernel)) ggX7_inLayer_X1_pieceIn
theorem dX7_inLayer_0 : decode cX7_inLayer 0 = .ok (.aload_n 0, 1) := by decide +kernel
theorem dX7_inLayer_1 : decode cX7_inLayer 1 = .ok (.getfield 18, 3) := by decide +kernel
theorem dX7_inLayer_4 : decode cX7_inLayer 4 = .ok (.iload_n 1, 1) := by decide +kernel
theorem dX7_inLayer_5 : decode cX7_inLayer 5 = .ok (.invokevirtual 100, 3) := by decide +kernel
theorem dX7_inLayer_8 : decode cX7_inLayer 8 = .ok (.ifCond .eq 14, 3) := by decide +kernel
theorem dX7_inLayer_11 : decode cX7_inLayer 11 = .ok (.aload_n 0, 1) := by decide +kernel
theorem dX7_inLayer_12 : decode cX7_inLayer 12 = .ok (.getfield 18, 3) := by decide +kernel
theorem dX7_inLayer_15 : decode cX7_inLayer 15 = .ok (.iload_n 1, 1) := by decide +kernel
theorem dX7_inLayer_16 : decode cX7_inLayer 16 = .ok (.invokevirtual 203, 3) := by decide +kernel
theorem dX7_inLayer_19 : decode cX7_inLayer 19 = .ok (.goto 5, 3) := by decide +kernel
theorem dX7_inLayer_22 : decode cX7_inLayer 22 = .ok (.bipush (-101), 2) := by decide +kernel
theorem dX7_inLayer_24 : decode cX7_inLayer 24 = .ok (.ireturn, 1) := by decide +kernel
set_option maxRecDepth 20000 in
theorem ggX7_covering_X1_hasCell : GoodIn wsX7_covering wsX1_hasCell := goodIn_r _ [6, 7, 8, 9, 10, 5, 11, 12, 43, 44, 45, 46, 47, 48] (by decide +kernel) (by decide +kernel)
set_option maxRecDepth 20000 in
theorem gX7_covering_X1_hasCell : GoodIn wsX7_covering (wsV RX7 197 RX1 yX1_hasCell wsX1_hasCell) := goodIn_app (goodIn_of _ (by decide +kernel)) ggX7_covering_X1_hasCell
set_option maxRecDepth 20000 in
theorem ggX7_covering_X1_coveringPiece : GoodIn wsX7_covering wsX1_coveringPiece := goodIn_r _ [16, 17, 18, 19, 20, 21, 22, 23, 24, 5, 25, 26, 27, 28, 29, 30, 8, 9, 10, 11, 12, 31, 32, 33, 34, 7, 43, 44, 45, 46, 47, 48] (by decide +kernel) (by decide +kernel)
set_option maxRecDepth 20000 in
theorem gX7_covering_X1_coveringPiece : GoodIn wsX7_covering (wsV RX7 200 RX1 yX1_coveringPiece wsX1_coveringPiece) := goodIn_app (goodIn_of _ (by decide +kernel)) ggX7_covering_X1_coveringPiece
theorem dX7_covering_0 : decode cX7_covering 0 = .ok (.aload_n 0, 1) := by decide +kernel
theorem dX7_covering_1 : decode cX7_covering 1 = .ok (.getfield 18, 3) := by decide +kernel
theorem dX7_covering_4 : decode cX7_covering 4 = .ok (.iload_n 1, 1) := by decide +kernel
theorem dX7_covering_5 : decode cX7_covering 5 = .ok (.iload_n 2, 1) := by decide +kernel
theorem dX7_covering_6 : decode cX7_covering 6 = .ok (.invokevirtual 197, 3) := by decide +kernel
theorem dX7_covering_9 : decode cX7_covering 9 = .ok (.ifCond .eq 7, 3) := by decide +kernel
theorem dX7_covering_12 : decode cX7_covering 12 = .ok (.iload_n 3, 1) := by decide +kernel
theorem dX7_covering_13 : decode cX7_covering 13 = .ok (.ifCond .ge 6, 3) := by decide +kernel
theorem dX7_covering_16 : decode cX7_covering 16 = .ok (.bipush (-101), 2) := by decide +kernel
theorem dX7_covering_18 : decode cX7_covering 18 = .ok (.ireturn, 1) := by decide +kernel
theorem dX7_covering_19 : decode cX7_covering 19 = .ok (.aload_n 0, 1) := by decide +kernel
theorem dX7_covering_20 : decode cX7_covering 20 = .ok (.getfield 18, 3) := by decide +kernel
theorem dX7_covering_23 : decode cX7_covering 23 = .ok (.iload_n 1, 1) := by decide +kernel
theorem dX7_covering_24 : decode cX7_covering 24 = .ok (.iload_n 2, 1) := by decide +kernel
theorem dX7_covering_25 : decode cX7_covering 25 = .ok (.iload_n 3, 1) := by decide +kernel
theorem dX7_covering_26 : decode cX7_covering 26 = .ok (.invokevirtual 200, 3) := by decide +kernel
theorem dX7_covering_29 : decode cX7_covering 29 = .ok (.ireturn, 1) := by decide +kernel
set_option maxRecDepth 20000 in
theorem ggX7_edge_X1_has : GoodIn wsX7_edge wsX1_has := goodIn_r _ [7, 8, 90, 91, 92, 93, 94, 95] (by decide +kernel) (by decide +kernel)
set_option maxRecDepth 20000 in
theorem gX7_edge_X1_has : GoodIn wsX7_edge (wsV RX7 100 RX1 yX1_has wsX1_has) := goodIn_app (goodIn_of _ (by decide +kernel)) ggX7_edge_X1_has
set_option maxRecDepth 20000 in
theorem ggX7_edge_X5_look : GoodIn wsX7_edge wsX5_look := goodIn_r _ [13, 14, 15, 16, 17, 18, 19, 20, 21, 22, 6, 23, 8, 24, 25, 26, 27, 28, 29, 30, 31, 32, 33, 34, 12, 35, 36, 37, 38, 39, 40, 41, 42, 43, 44, 45, 46, 47, 48, 49, 50, 51, 52, 53, 54, 55, 56, 57, 58, 59, 60, 61, 96, 97, 98, 99, 90, 91, 92, 93, 94, 95] (by decide +kernel) (by decide +kernel)
set_option maxRecDepth 20000 in
theorem gX7_edge_X5_look : GoodIn wsX7_edge (wsV RX7 78 RX5 yX5_look wsX5_look) := goodIn_app (goodIn_of _ (by decide +kernel)) ggX7_edge_X5_look
set_option maxRecDepth 20000 in
theorem ggX7_edge_X5_borderEdge : GoodIn wsX7_edge wsX5_borderEdge := goodIn_r _ [65, 15, 66, 67, 68, 6, 69, 47, 70, 71, 72, 12, 73, 14, 36, 43, 44, 45, 46, 48, 49, 50, 51, 52, 29, 30, 31, 38, 39, 40, 41, 42, 55, 56, 57, 58, 59, 60, 61, 74, 75, 76, 77, 96, 97, 98, 99, 90, 91, 92, 93, 94, 95] (by decide +kernel) (by decide +kernel)
set_option maxRecDepth 20000 in
theorem gX7_edge_X5_borderEdge : GoodIn wsX7_edge (wsV RX7 206 RX5 yX5_borderEdge wsX5_borderEdge) := goodIn_app (goodIn_of _ (by decide +kernel)) ggX7_edge_X5_borderEdge
set_option maxRecDepth 20000 in
theorem ggX7_edge_X5_edgeBetween : GoodIn wsX7_edge wsX5_edgeBetween := goodIn_r _ [81, 15, 74, 75, 76, 6, 77, 52, 70, 71, 72, 12, 73, 14, 36, 66, 67, 68, 69, 47, 43, 44, 45, 46, 48, 49, 50, 51, 29, 30, 31, 38, 39, 40, 41, 42, 55, 56, 57, 58, 59, 60, 61, 96, 97, 98, 99, 90, 91, 92, 93, 94, 95] (by decide +kernel) (by decide +kernel)
set_option maxRecDepth 20000 in
theorem gX7_edge_X5_edgeBetween : GoodIn wsX7_edge (wsV RX7 209 RX5 yX5_edgeBetween wsX5_edgeBetween) := goodIn_app (goodIn_of _ (by decide +kernel)) ggX7_edge_X5_edgeBetween
theorem dX7_edge_0 : decode cX7_edge 0 = .ok (.iload_n 2, 1) := by decide +kernel
theorem dX7_edge_1 : decode cX7_edge 1 = .ok (.iconst (-1), 1) := by decide +kernel
theorem dX7_edge_2 : decode cX7_edge 2 = .ok (.if_icmp .eq 20, 3) := by decide +kernel
theorem dX7_edge_5 : decode cX7_edge 5 = .ok (.iload_n 2, 1) := by decide +kernel
theorem dX7_edge_6 : decode cX7_edge 6 = .ok (.bipush (-2), 2) := by decide +kernel
theorem dX7_edge_8 : decode cX7_edge 8 = .ok (.if_icmp .eq 14, 3) := by decide +kernel
theorem dX7_edge_11 : decode cX7_edge 11 = .ok (.aload_n 0, 1) := by decide +kernel
theorem dX7_edge_12 : decode cX7_edge 12 = .ok (.getfield 18, 3) := by decide +kernel
theorem dX7_edge_15 : decode cX7_edge 15 = .ok (.iload_n 2, 1) := by decide +kernel
theorem dX7_edge_16 : decode cX7_edge 16 = .ok (.invokevirtual 100, 3) := by decide +kernel
theorem dX7_edge_19 : decode cX7_edge 19 = .ok (.ifCond .eq 7, 3) := by decide +kernel
theorem dX7_edge_22 : decode cX7_edge 22 = .ok (.iconst 1, 1) := by decide +kernel
theorem dX7_edge_23 : decode cX7_edge 23 = .ok (.goto 4, 3) := by decide +kernel
theorem dX7_edge_26 : decode cX7_edge 26 = .ok (.iconst 0, 1) := by decide +kernel
theorem dX7_edge_27 : decode cX7_edge 27 = .ok (.istore_n 3, 1) := by decide +kernel
theorem dX7_edge_28 : decode cX7_edge 28 = .ok (.aload_n 0, 1) := by decide +kernel
theorem dX7_edge_29 : decode cX7_edge 29 = .ok (.getfield 18, 3) := by decide +kernel
theorem dX7_edge_32 : decode cX7_edge 32 = .ok (.iload_n 1, 1) := by decide +kernel
theorem dX7_edge_33 : decode cX7_edge 33 = .ok (.invokevirtual 100, 3) := by decide +kernel
theorem dX7_edge_36 : decode cX7_edge 36 = .ok (.ifCond .eq 12, 3) := by decide +kernel
theorem dX7_edge_39 : decode cX7_edge 39 = .ok (.iload_n 3, 1) := by decide +kernel
theorem dX7_edge_40 : decode cX7_edge 40 = .ok (.ifCond .eq 8, 3) := by decide +kernel
theorem dX7_edge_43 : decode cX7_edge 43 = .ok (.iload_n 1, 1) := by decide +kernel
theorem dX7_edge_44 : decode cX7_edge 44 = .ok (.iload_n 2, 1) := by decide +kernel
theorem dX7_edge_45 : decode cX7_edge 45 = .ok (.if_icmp .ne 6, 3) := by decide +kernel
theorem dX7_edge_48 : decode cX7_edge 48 = .ok (.bipush (-101), 2) := by decide +kernel
theorem dX7_edge_50 : decode cX7_edge 50 = .ok (.ireturn, 1) := by decide +kernel
theorem dX7_edge_51 : decode cX7_edge 51 = .ok (.aload_n 0, 1) := by decide +kernel
theorem dX7_edge_52 : decode cX7_edge 52 = .ok (.getfield 27, 3) := by decide +kernel
theorem dX7_edge_55 : decode cX7_edge 55 = .ok (.invokevirtual 78, 3) := by decide +kernel
theorem dX7_edge_58 : decode cX7_edge 58 = .ok (.iload_n 2, 1) := by decide +kernel
theorem dX7_edge_59 : decode cX7_edge 59 = .ok (.bipush (-2), 2) := by decide +kernel
theorem dX7_edge_61 : decode cX7_edge 61 = .ok (.if_icmp .ne 14, 3) := by decide +kernel
theorem dX7_edge_64 : decode cX7_edge 64 = .ok (.aload_n 0, 1) := by decide +kernel
theorem dX7_edge_65 : decode cX7_edge 65 = .ok (.getfield 27, 3) := by decide +kernel
theorem dX7_edge_68 : decode cX7_edge 68 = .ok (.iload_n 1, 1) := by decide +kernel
theorem dX7_edge_69 : decode cX7_edge 69 = .ok (.invokevirtual 206, 3) := by decide +kernel
theorem dX7_edge_72 : decode cX7_edge 72 = .ok (.goto 12, 3) := by decide +kernel
theorem dX7_edge_75 : decode cX7_edge 75 = .ok (.aload_n 0, 1) := by decide +kernel
theorem dX7_edge_76 : decode cX7_edge 76 = .ok (.getfield 27, 3) := by decide +kernel
theorem dX7_edge_79 : decode cX7_edge 79 = .ok (.iload_n 1, 1) := by decide +kernel
theorem dX7_edge_80 : decode cX7_edge 80 = .ok (.iload_n 2, 1) := by decide +kernel
theorem dX7_edge_81 : decode cX7_edge 81 = .ok (.invokevirtual 209, 3) := by decide +kernel
theorem dX7_edge_84 : decode cX7_edge 84 = .ok (.ireturn, 1) := by decide +kernel
set_option maxRecDepth 20000 in
theorem ggX7_hides_X1_has : GoodIn wsX7_hides wsX1_has := goodIn_r _ [7, 8, 93, 94, 95, 96, 97, 98] (by decide +kernel) (by decide +kernel)
set_option maxRecDepth 20000 in
theorem gX7_hides_X1_has : GoodIn wsX7_hides (wsV RX7 100 RX1 yX1_has wsX1_has) := goodIn_app (goodIn_of _ (by decide +kernel)) ggX7_hides_X1_has
set_option maxRecDepth 20000 in
theorem ggX7_hides_X5_look : GoodIn wsX7_hides wsX5_look := goodIn_r _ [13, 14, 15, 16, 17, 18, 19, 20, 21, 22, 6, 23, 8, 24, 25, 26, 27, 28, 29, 30, 31, 32, 33, 34, 12, 35, 36, 37, 38, 39, 40, 41, 42, 43, 44, 45, 46, 47, 48, 49, 50, 51, 52, 53, 54, 55, 56, 57, 58, 59, 60, 61, 99, 100, 101, 102, 93, 94, 95, 96, 97, 98] (by decide +kernel) (by decide +kernel)
set_option maxRecDepth 20000 in
theorem gX7_hides_X5_look : GoodIn wsX7_hides (wsV RX7 78 RX5 yX5_look wsX5_look) := goodIn_app (goodIn_of _ (by decide +kernel)) ggX7_hides_X5_look
set_option maxRecDepth 20000 in
theorem ggX7_hides_X5_hiddenCells : GoodIn wsX7_hides wsX5_hiddenCells := goodIn_r _ [65, 15, 66, 67, 68, 6, 69, 52, 70, 71, 72, 12, 73, 14, 36, 74, 75, 76, 77, 47, 43, 44, 45, 46, 48, 49, 50, 51, 29, 30, 31, 38, 39, 40, 41, 42, 78, 79, 80, 81, 82, 83, 84, 55, 56, 57, 58, 59, 60, 61, 99, 100, 101, 102, 93, 94, 95, 96, 97, 98] (by decide +kernel) (by decide +kernel)
set_option maxRecDepth 20000 in
theorem gX7_hides_X5_hiddenCells : GoodIn wsX7_hides (wsV RX7 212 RX5 yX5_hiddenCells wsX5_hiddenCells) := goodIn_app (goodIn_of _ (by decide +kernel)) ggX7_hides_X5_hiddenCells
theorem dX7_hides_0 : decode cX7_hides 0 = .ok (.aload_n 0, 1) := by decide +kernel
theorem dX7_hides_1 : decode cX7_hides 1 = .ok (.getfield 18, 3) := by decide +kernel
theorem dX7_hides_4 : decode cX7_hides 4 = .ok (.iload_n 1, 1) := by decide +kernel
theorem dX7_hides_5 : decode cX7_hides 5 = .ok (.invokevirtual 100, 3) := by decide +kernel
theorem dX7_hides_8 : decode cX7_hides 8 = .ok (.ifCond .eq 19, 3) := by decide +kernel
theorem dX7_hides_11 : decode cX7_hides 11 = .ok (.aload_n 0, 1) := by decide +kernel
theorem dX7_hides_12 : decode cX7_hides 12 = .ok (.getfield 18, 3) := by decide +kernel
theorem dX7_hides_15 : decode cX7_hides 15 = .ok (.iload_n 2, 1) := by decide +kernel
theorem dX7_hides_16 : decode cX7_hides 16 = .ok (.invokevirtual 100, 3) := by decide +kernel
theorem dX7_hides_19 : decode cX7_hides 19 = .ok (.ifCond .eq 8, 3) := by decide +kernel
theorem dX7_hides_22 : decode cX7_hides 22 = .ok (.iload_n 1, 1) := by decide +kernel
theorem dX7_hides_23 : decode cX7_hides 23 = .ok (.iload_n 2, 1) := by decide +kernel
theorem dX7_hides_24 : decode cX7_hides 24 = .ok (.if_icmp .ne 6, 3) := by decide +kernel
theorem dX7_hides_27 : decode cX7_hides 27 = .ok (.bipush (-101), 2) := by decide +kernel
theorem dX7_hides_29 : decode cX7_hides 29 = .ok (.ireturn, 1) := by decide +kernel
theorem dX7_hides_30 : decode cX7_hides 30 = .ok (.aload_n 0, 1) := by decide +kernel
theorem dX7_hides_31 : decode cX7_hides 31 = .ok (.getfield 27, 3) := by decide +kernel
theorem dX7_hides_34 : decode cX7_hides 34 = .ok (.invokevirtual 78, 3) := by decide +kernel
theorem dX7_hides_37 : decode cX7_hides 37 = .ok (.aload_n 0, 1) := by decide +kernel
theorem dX7_hides_38 : decode cX7_hides 38 = .ok (.getfield 27, 3) := by decide +kernel
theorem dX7_hides_41 : decode cX7_hides 41 = .ok (.iload_n 1, 1) := by decide +kernel
theorem dX7_hides_42 : decode cX7_hides 42 = .ok (.iload_n 2, 1) := by decide +kernel
theorem dX7_hides_43 : decode cX7_hides 43 = .ok (.invokevirtual 212, 3) := by decide +kernel
theorem dX7_hides_46 : decode cX7_hides 46 = .ok (.ireturn, 1) := by decide +kernel
set_option maxRecDepth 20000 in
theorem ggX7_byShare_X5_look : GoodIn wsX7_byShare wsX5_look := goodIn_r _ [7, 8, 9, 10, 11, 12, 13, 14, 15, 16, 17, 18, 19, 20, 21, 22, 23, 24, 25, 26, 27, 28, 29, 30, 6, 31, 32, 33, 34, 35, 36, 37, 38, 39, 40, 41, 42, 43, 44, 45, 46, 47, 48, 49, 50, 51, 52, 53, 54, 55, 56, 57, 84, 85, 86, 87, 88, 89, 90, 91, 92, 93] (by decide +kernel) (by decide +kernel)
set_option maxRecDepth 20000 in
theorem gX7_byShare_X5_look : GoodIn wsX7_byShare (wsV RX7 78 RX5 yX5_look wsX5_look) := goodIn_app (goodIn_of _ (by decide +kernel)) ggX7_byShare_X5_look
set_option maxRecDepth 20000 in
theorem ggX7_byShare_X1_pieces : GoodIn wsX7_byShare wsX1_pieces := goodIn_r _ [18, 19, 88, 89, 90, 91, 92, 93] (by decide +kernel) (by decide +kernel)
set_option maxRecDepth 20000 in
theorem gX7_byShare_X1_pieces : GoodIn wsX7_byShare (wsV RX7 108 RX1 yX1_pieces wsX1_pieces) := goodIn_app (goodIn_of _ (by decide +kernel)) ggX7_byShare_X1_pieces
set_option maxRecDepth 20000 in
theorem ggX7_byShare_X5_rankByShare : GoodIn wsX7_byShare wsX5_rankByShare := goodIn_r _ [62, 9, 63, 64, 65, 6, 66, 33, 67, 68, 69, 17, 70, 71, 35, 36, 37, 38, 25, 26, 27, 72, 73, 74, 75, 19, 24, 14, 15, 16, 18, 84, 85, 86, 87, 88, 89, 90, 91, 92, 93] (by decide +kernel) (by decide +kernel)
set_option maxRecDepth 20000 in
theorem gX7_byShare_X5_rankByShare : GoodIn wsX7_byShare (wsV RX7 215 RX5 yX5_rankByShare wsX5_rankByShare) := goodIn_app (goodIn_of _ (by decide +kernel)) ggX7_byShare_X5_rankByShare
theorem dX7_byShare_0 : decode cX7_byShare 0 = .ok (.iload_n 1, 1) := by decide +kernel
theorem dX7_byShare_1 : decode cX7_byShare 1 = .ok (.ifCond .ge 6, 3) := by decide +kernel
theorem dX7_byShare_4 : decode cX7_byShare 4 = .ok (.bipush (-101), 2) := by decide +kernel
theorem dX7_byShare_6 : decode cX7_byShare 6 = .ok (.ireturn, 1) := by decide +kernel
theorem dX7_byShare_7 : decode cX7_byShare 7 = .ok (.aload_n 0, 1) := by decide +kernel
theorem dX7_byShare_8 : decode cX7_byShare 8 = .ok (.getfield 27, 3) := by decide +kernel
theorem dX7_byShare_11 : decode cX7_byShare 11 = .ok (.invokevirtual 78, 3) := by decide +kernel
theorem dX7_byShare_14 : decode cX7_byShare 14 = .ok (.iconst 0, 1) := by decide +kernel
theorem dX7_byShare_15 : decode cX7_byShare 15 = .ok (.istore_n 2, 1) := by decide +kernel
theorem dX7_byShare_16 : decode cX7_byShare 16 = .ok (.iload_n 2, 1) := by decide +kernel
theorem dX7_byShare_17 : decode cX7_byShare 17 = .ok (.aload_n 0, 1) := by decide +kernel
theorem dX7_byShare_18 : decode cX7_byShare 18 = .ok (.getfield 18, 3) := by decide +kernel
theorem dX7_byShare_21 : decode cX7_byShare 21 = .ok (.invokevirtual 108, 3) := by decide +kernel
theorem dX7_byShare_24 : decode cX7_byShare 24 = .ok (.if_icmp .ge 23, 3) := by decide +kernel
theorem dX7_byShare_27 : decode cX7_byShare 27 = .ok (.aload_n 0, 1) := by decide +kernel
theorem dX7_byShare_28 : decode cX7_byShare 28 = .ok (.getfield 27, 3) := by decide +kernel
theorem dX7_byShare_31 : decode cX7_byShare 31 = .ok (.iload_n 2, 1) := by decide +kernel
theorem dX7_byShare_32 : decode cX7_byShare 32 = .ok (.invokevirtual 215, 3) := by decide +kernel
theorem dX7_byShare_35 : decode cX7_byShare 35 = .ok (.iload_n 1, 1) := by decide +kernel
theorem dX7_byShare_36 : decode cX7_byShare 36 = .ok (.if_icmp .ne 5, 3) := by decide +kernel
theorem dX7_byShare_39 : decode cX7_byShare 39 = .ok (.iload_n 2, 1) := by decide +kernel
theorem dX7_byShare_40 : decode cX7_byShare 40 = .ok (.ireturn, 1) := by decide +kernel
theorem dX7_byShare_41 : decode cX7_byShare 41 = .ok (.iinc 2 1, 3) := by decide +kernel
theorem dX7_byShare_44 : decode cX7_byShare 44 = .ok (.goto (-28), 3) := by decide +kernel
theorem dX7_byShare_47 : decode cX7_byShare 47 = .ok (.bipush (-109), 2) := by decide +kernel
theorem dX7_byShare_49 : decode cX7_byShare 49 = .ok (.ireturn, 1) := by decide +kernel
set_option maxRecDepth 20000 in
theorem ggX7_leastShift_X1_has : GoodIn wsX7_leastShift wsX1_has := goodIn_r _ [7, 8, 141, 142, 143, 144, 145, 146] (by decide +kernel) (by decide +kernel)
set_option maxRecDepth 20000 in
theorem gX7_leastShift_X1_has : GoodIn wsX7_leastShift (wsV RX7 100 RX1 yX1_has wsX1_has) := goodIn_app (goodIn_of _ (by decide +kernel)) ggX7_leastShift_X1_has
set_option maxRecDepth 20000 in
theorem ggX7_leastShift_X7_isWithin : GoodIn wsX7_leastShift wsX7_isWithin := goodIn_r _ [12] (by decide +kernel) (by decide +kernel)
set_option maxRecDepth 20000 in
theorem gX7_leastShift_X7_isWithin : GoodIn wsX7_leastShift (va_wsS RX7 67 yX7_isWithin wsX7_isWithin) := goodIn_app (goodIn_of _ (by decide +kernel)) ggX7_leastShift_X7_isWithin
set_option maxRecDepth 20000 in
theorem ggX7_leastShift_X3_findShift : GoodIn wsX7_leastShift wsX3_findShift := goodIn_r _ [17, 18, 19, 20, 21, 22, 23, 24, 25, 26, 6, 27, 28, 29, 30, 31, 32, 33, 34, 35, 8, 36, 37, 38, 39, 16, 40, 41, 42, 43, 44, 45, 46, 47, 48, 49, 50, 51, 52, 53, 54, 55, 56, 57, 58, 59, 60, 61, 11, 62, 63, 64, 65, 66, 67, 68, 69, 70, 71, 72, 73, 74, 75, 76, 77, 78, 79, 80, 81, 82, 83, 84, 85, 86, 87, 88, 89, 90, 91, 92, 93, 94, 95, 96, 97, 98, 99, 100, 101, 102, 103, 104, 105, 106, 107, 108, 109, 110, 111, 112, 113, 114, 9, 10, 12, 115, 116, 117, 118, 119, 120, 147, 148, 149, 150, 151, 141, 142, 143, 144, 145, 146, 152, 153, 154, 155] (by decide +kernel) (by decide +kernel)
set_option maxRecDepth 20000 in
theorem gX7_leastShift_X3_findShift : GoodIn wsX7_leastShift (wsV RX7 218 RX3 yX3_findShift wsX3_findShift) := goodIn_app (goodIn_of _ (by decide +kernel)) ggX7_leastShift_X3_findShift
set_option maxRecDepth 20000 in
theorem ggX7_leastShift_X3_cost : GoodIn wsX7_leastShift wsX3_cost := goodIn_r _ [124, 103, 20, 21, 22, 23, 104, 147, 148, 149, 150, 151] (by decide +kernel) (by decide +kernel)
set_option maxRecDepth 20000 in
theorem gX7_leastShift_X3_cost : GoodIn wsX7_leastShift (wsV RX7 221 RX3 yX3_cost wsX3_cost) := goodIn_app (goodIn_of _ (by decide +kernel)) ggX7_leastShift_X3_cost
set_option maxRecDepth 20000 in
theorem ggX7_leastShift_X3_dx : GoodIn wsX7_leastShift wsX3_dx := goodIn_r _ [128, 103, 147, 148, 149, 150, 151] (by decide +kernel) (by decide +kernel)
set_option maxRecDepth 20000 in
theorem gX7_leastShift_X3_dx : GoodIn wsX7_leastShift (wsV RX7 222 RX3 yX3_dx wsX3_dx) := goodIn_app (goodIn_of _ (by decide +kernel)) ggX7_leastShift_X3_dx
set_option maxRecDepth 20000 in
theorem ggX7_leastShift_X3_dy : GoodIn wsX7_leastShift wsX3_dy := goodIn_r _ [132, 104, 147, 148, 149, 150, 151] (by decide +kernel) (by decide +kernel)
set_option maxRecDepth 20000 in
theorem gX7_leastShift_X3_dy : GoodIn wsX7_leastShift (wsV RX7 225 RX3 yX3_dy wsX3_dy) := goodIn_app (goodIn_of _ (by decide +kernel)) ggX7_leastShift_X3_dy
theorem dX7_leastShift_0 : decode cX7_leastShift 0 = .ok (.aload_n 0, 1) := by decide +kernel
theorem dX7_leastShift_1 : decode cX7_leastShift 1 = .ok (.getfield 18, 3) := by decide +kernel
theorem dX7_leastShift_4 : decode cX7_leastShift 4 = .ok (.iload_n 1, 1) := by decide +kernel
theorem dX7_leastShift_5 : decode cX7_leastShift 5 = .ok (.invokevirtual 100, 3) := by decide +kernel
theorem dX7_leastShift_8 : decode cX7_leastShift 8 = .ok (.ifCond .eq 21, 3) := by decide +kernel
theorem dX7_leastShift_11 : decode cX7_leastShift 11 = .ok (.iload_n 2, 1) := by decide +kernel
theorem dX7_leastShift_12 : decode cX7_leastShift 12 = .ok (.iconst 0, 1) := by decide +kernel
theorem dX7_leastShift_13 : decode cX7_leastShift 13 = .ok (.iconst 2, 1) := by decide +kernel
theorem dX7_leastShift_14 : decode cX7_leastShift 14 = .ok (.invokestatic 67, 3) := by decide +kernel
theorem dX7_leastShift_17 : decode cX7_leastShift 17 = .ok (.ifCond .eq 12, 3) := by decide +kernel
theorem dX7_leastShift_20 : decode cX7_leastShift 20 = .ok (.iload_n 3, 1) := by decide +kernel
theorem dX7_leastShift_21 : decode cX7_leastShift 21 = .ok (.iconst 0, 1) := by decide +kernel
theorem dX7_leastShift_22 : decode cX7_leastShift 22 = .ok (.iconst 2, 1) := by decide +kernel
theorem dX7_leastShift_23 : decode cX7_leastShift 23 = .ok (.invokestatic 67, 3) := by decide +kernel
theorem dX7_leastShift_26 : decode cX7_leastShift 26 = .ok (.ifCond .ne 6, 3) := by decide +kernel
theorem dX7_leastShift_29 : decode cX7_leastShift 29 = .ok (.bipush (-101), 2) := by decide +kernel
theorem dX7_leastShift_31 : decode cX7_leastShift 31 = .ok (.ireturn, 1) := by decide +kernel
theorem dX7_leastShift_32 : decode cX7_leastShift 32 = .ok (.aload_n 0, 1) := by decide +kernel
theorem dX7_leastShift_33 : decode cX7_leastShift 33 = .ok (.getfield 43, 3) := by decide +kernel
theorem dX7_leastShift_36 : decode cX7_leastShift 36 = .ok (.iload_n 1, 1) := by decide +kernel
theorem dX7_leastShift_37 : decode cX7_leastShift 37 = .ok (.iload_n 2, 1) := by decide +kernel
theorem dX7_leastShift_38 : decode cX7_leastShift 38 = .ok (.bipush 8, 2) := by decide +kernel
theorem dX7_leastShift_40 : decode cX7_leastShift 40 = .ok (.invokevirtual 218, 3) := by decide +kernel
theorem dX7_leastShift_43 : decode cX7_leastShift 43 = .ok (.ifCond .ne 6, 3) := by decide +kernel
theorem dX7_leastShift_46 : decode cX7_leastShift 46 = .ok (.bipush (-109), 2) := by decide +kernel
theorem dX7_leastShift_48 : decode cX7_leastShift 48 = .ok (.ireturn, 1) := by decide +kernel
theorem dX7_leastShift_49 : decode cX7_leastShift 49 = .ok (.iload_n 3, 1) := by decide +kernel
theorem dX7_leastShift_50 : decode cX7_leastShift 50 = .ok (.ifCond .ne 11, 3) := by decide +kernel
theorem dX7_leastShift_53 : decode cX7_leastShift 53 = .ok (.aload_n 0, 1) := by decide +kernel
theorem dX7_leastShift_54 : decode cX7_leastShift 54 = .ok (.getfield 43, 3) := by decide +kernel
theorem dX7_leastShift_57 : decode cX7_leastShift 57 = .ok (.invokevirtual 221, 3) := by decide +kernel
theorem dX7_leastShift_60 : decode cX7_leastShift 60 = .ok (.ireturn, 1) := by decide +kernel
theorem dX7_leastShift_61 : decode cX7_leastShift 61 = .ok (.iload_n 3, 1) := by decide +kernel
theorem dX7_leastShift_62 : decode cX7_leastShift 62 = .ok (.iconst 1, 1) := by decide +kernel
theorem dX7_leastShift_63 : decode cX7_leastShift 63 = .ok (.if_icmp .ne 13, 3) := by decide +kernel
theorem dX7_leastShift_66 : decode cX7_leastShift 66 = .ok (.aload_n 0, 1) := by decide +kernel
theorem dX7_leastShift_67 : decode cX7_leastShift 67 = .ok (.getfield 43, 3) := by decide +kernel
theorem dX7_leastShift_70 : decode cX7_leastShift 70 = .ok (.invokevirtual 222, 3) := by decide +kernel
theorem dX7_leastShift_73 : decode cX7_leastShift 73 = .ok (.goto 10, 3) := by decide +kernel
theorem dX7_leastShift_76 : decode cX7_leastShift 76 = .ok (.aload_n 0, 1) := by decide +kernel
theorem dX7_leastShift_77 : decode cX7_leastShift 77 = .ok (.getfield 43, 3) := by decide +kernel
theorem dX7_leastShift_80 : decode cX7_leastShift 80 = .ok (.invokevirtual 225, 3) := by decide +kernel
theorem dX7_leastShift_83 : decode cX7_leastShift 83 = .ok (.ireturn, 1) := by decide +kernel
set_option maxRecDepth 20000 in
theorem ggX7_layerFor_X1_has : GoodIn wsX7_layerFor wsX1_has := goodIn_r _ [7, 8, 100, 101, 102, 103, 104, 105] (by decide +kernel) (by decide +kernel)
set_option maxRecDepth 20000 in
theorem gX7_layerFor_X1_has : GoodIn wsX7_layerFor (wsV RX7 100 RX1 yX1_has wsX1_has) := goodIn_app (goodIn_of _ (by decide +kernel)) ggX7_layerFor_X1_has
set_option maxRecDepth 20000 in
theorem ggX7_layerFor_X3_lowestLayer : GoodIn wsX7_layerFor wsX3_lowestLayer := goodIn_r _ [13, 14, 15, 16, 17, 18, 19, 6, 20, 21, 22, 23, 24, 25, 26, 27, 28, 8, 29, 30, 31, 32, 33, 34, 35, 36, 37, 38, 39, 40, 41, 42, 43, 44, 45, 46, 47, 48, 49, 50, 51, 52, 53, 54, 55, 56, 57, 58, 59, 60, 61, 62, 63, 64, 65, 66, 67, 68, 69, 70, 71, 72, 73, 74, 75, 76, 77, 78, 79, 80, 81, 82, 83, 84, 85, 86, 87, 88, 89, 90, 91, 106, 107, 108, 109, 110, 100, 101, 102, 103, 104, 105, 111, 112, 113, 114] (by decide +kernel) (by decide +kernel)
set_option maxRecDepth 20000 in
theorem gX7_layerFor_X3_lowestLayer : GoodIn wsX7_layerFor (wsV RX7 228 RX3 yX3_lowestLayer wsX3_lowestLayer) := goodIn_app (goodIn_of _ (by decide +kernel)) ggX7_layerFor_X3_lowestLayer
theorem dX7_layerFor_0 : decode cX7_layerFor 0 = .ok (.aload_n 0, 1) := by decide +kernel
theorem dX7_layerFor_1 : decode cX7_layerFor 1 = .ok (.getfield 18, 3) := by decide +kernel
theorem dX7_layerFor_4 : decode cX7_layerFor 4 = .ok (.iload_n 1, 1) := by decide +kernel
theorem dX7_layerFor_5 : decode cX7_layerFor 5 = .ok (.invokevirtual 100, 3) := by decide +kernel
theorem dX7_layerFor_8 : decode cX7_layerFor 8 = .ok (.ifCond .eq 14, 3) := by decide +kernel
theorem dX7_layerFor_11 : decode cX7_layerFor 11 = .ok (.aload_n 0, 1) := by decide +kernel
theorem dX7_layerFor_12 : decode cX7_layerFor 12 = .ok (.getfield 43, 3) := by decide +kernel
theorem dX7_layerFor_15 : decode cX7_layerFor 15 = .ok (.iload_n 1, 1) := by decide +kernel
theorem dX7_layerFor_16 : decode cX7_layerFor 16 = .ok (.invokevirtual 228, 3) := by decide +kernel
theorem dX7_layerFor_19 : decode cX7_layerFor 19 = .ok (.goto 5, 3) := by decide +kernel
theorem dX7_layerFor_22 : decode cX7_layerFor 22 = .ok (.bipush (-101), 2) := by decide +kernel
theorem dX7_layerFor_24 : decode cX7_layerFor 24 = .ok (.ireturn, 1) := by decide +kernel
