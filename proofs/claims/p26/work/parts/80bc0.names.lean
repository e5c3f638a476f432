theorem dX1_area_2 : decode cX1_area 2 = .ok (.iconst 2, 1) := by decide +kernel
theorem dX1_area_3 : decode cX1_area 3 = .ok (.invokevirtual 61, 3) := by decide +kernel
theorem dX1_area_6 : decode cX1_area 6 = .ok (.aload_n 0, 1) := by decide +kernel
theorem dX1_area_7 : decode cX1_area 7 = .ok (.iload_n 1, 1) := by decide +kernel
theorem dX1_area_8 : decode cX1_area 8 = .ok (.iconst 3, 1) := by decide +kernel
theorem dX1_area_9 : decode cX1_area 9 = .ok (.invokevirtual 61, 3) := by decide +kernel
theorem dX1_area_12 : decode cX1_area 12 = .ok (.imul, 1) := by decide +kernel
theorem dX1_area_13 : decode cX1_area 13 = .ok (.ireturn, 1) := by decide +kernel
set_option maxRecDepth 100000 in
theorem ggX1_cellsOutside_X1_coverRow : GoodIn wsX1_cellsOutside wsX1_coverRow := goodIn_r _ [6, 7, 8, 9, 5, 10, 11, 12, 13, 14, 15, 1, 16, 17, 18, 19, 20, 32, 33, 34, 35, 36, 37] rfl (by decide +kernel)
set_option maxRecDepth 100000 in
theorem gX1_cellsOutside_X1_coverRow : GoodIn wsX1_cellsOutside (wsV RX1 76 RX1 yX1_coverRow wsX1_coverRow) := goodIn_app (goodIn_of _ (by decide +kernel)) ggX1_cellsOutside_X1_coverRow
set_option maxRecDepth 100000 in
theorem ggX1_cellsOutside_J6_bitCount_0f7a4 : GoodIn wsX1_cellsOutside wsJ6_bitCount_0f7a4 := goodIn_r _ [24, 25, 26, 27] rfl (by decide +kernel)
set_option maxRecDepth 100000 in
theorem gX1_cellsOutside_J6_bitCount_0f7a4 : GoodIn wsX1_cellsOutside (va_wsS RX1 79 yJ6_bitCount_0f7a4 wsJ6_bitCount_0f7a4) := goodIn_app (goodIn_of _ (by decide +kernel)) ggX1_cellsOutside_J6_bitCount_0f7a4
set_option maxRecDepth 100000 in
theorem ggX1_cellsOutside_X1_area : GoodIn wsX1_cellsOutside wsX1_area := goodIn_r _ [31, 7, 8, 9, 5, 10, 11, 32, 33, 34, 35, 36, 37] rfl (by decide +kernel)
set_option maxRecDepth 100000 in
theorem gX1_cellsOutside_X1_area : GoodIn wsX1_cellsOutside (wsV RX1 84 RX1 yX1_area wsX1_area) := goodIn_app (goodIn_of _ (by decide +kernel)) ggX1_cellsOutside_X1_area
theorem dX1_cellsOutside_0 : decode cX1_cellsOutside 0 = .ok (.iconst 0, 1) := by decide +kernel
theorem dX1_cellsOutside_1 : decode cX1_cellsOutside 1 = .ok (.istore_n 2, 1) := by decide +kernel
theorem dX1_cellsOutside_2 : decode cX1_cellsOutside 2 = .ok (.iconst 0, 1) := by decide +kernel
theorem dX1_cellsOutside_3 : decode cX1_cellsOutside 3 = .ok (.istore_n 3, 1) := by decide +kernel
theorem dX1_cellsOutside_4 : decode cX1_cellsOutside 4 = .ok (.iload_n 3, 1) := by decide +kernel
theorem dX1_cellsOutside_5 : decode cX1_cellsOutside 5 = .ok (.aload_n 0, 1) := by decide +kernel
theorem dX1_cellsOutside_6 : decode cX1_cellsOutside 6 = .ok (.getfield 22, 3) := by decide +kernel
theorem dX1_cellsOutside_9 : decode cX1_cellsOutside 9 = .ok (.if_icmp .ge 21, 3) := by decide +kernel
theorem dX1_cellsOutside_12 : decode cX1_cellsOutside 12 = .ok (.iload_n 2, 1) := by decide +kernel
theorem dX1_cellsOutside_13 : decode cX1_cellsOutside 13 = .ok (.aload_n 0, 1) := by decide +kernel
theorem dX1_cellsOutside_14 : decode cX1_cellsOutside 14 = .ok (.iload_n 1, 1) := by decide +kernel
theorem dX1_cellsOutside_15 : decode cX1_cellsOutside 15 = .ok (.iload_n 3, 1) := by decide +kernel
theorem dX1_cellsOutside_16 : decode cX1_cellsOutside 16 = .ok (.invokevirtual 76, 3) := by decide +kernel
theorem dX1_cellsOutside_19 : decode cX1_cellsOutside 19 = .ok (.invokestatic 79, 3) := by decide +kernel
theorem dX1_cellsOutside_22 : decode cX1_cellsOutside 22 = .ok (.iadd, 1) := by decide +kernel
theorem dX1_cellsOutside_23 : decode cX1_cellsOutside 23 = .ok (.istore_n 2, 1) := by decide +kernel
theorem dX1_cellsOutside_24 : decode cX1_cellsOutside 24 = .ok (.iinc 3 1, 3) := by decide +kernel
theorem dX1_cellsOutside_27 : decode cX1_cellsOutside 27 = .ok (.goto (-23), 3) := by decide +kernel
theorem dX1_cellsOutside_30 : decode cX1_cellsOutside 30 = .ok (.aload_n 0, 1) := by decide +kernel
theorem dX1_cellsOutside_31 : decode cX1_cellsOutside 31 = .ok (.iload_n 1, 1) := by decide +kernel
theorem dX1_cellsOutside_32 : decode cX1_cellsOutside 32 = .ok (.invokevirtual 84, 3) := by decide +kernel
theorem dX1_cellsOutside_35 : decode cX1_cellsOutside 35 = .ok (.iload_n 2, 1) := by decide +kernel
theorem dX1_cellsOutside_36 : decode cX1_cellsOutside 36 = .ok (.isub, 1) := by decide +kernel
theorem dX1_cellsOutside_37 : decode cX1_cellsOutside 37 = .ok (.ireturn, 1) := by decide +kernel
theorem dX2_init_0 : decode cX2_init 0 = .ok (.aload_n 0, 1) := by decide +kernel
theorem dX2_init_1 : decode cX2_init 1 = .ok (.invokespecial 3, 3) := by decide +kernel
theorem dX2_init_4 : decode cX2_init 4 = .ok (.aload_n 0, 1) := by decide +kernel
theorem dX2_init_5 : decode cX2_init 5 = .ok (.aload_n 1, 1) := by decide +kernel
theorem dX2_init_6 : decode cX2_init 6 = .ok (.putfield 9, 3) := by decide +kernel
theorem dX2_init_9 : decode cX2_init 9 = .ok (.aload_n 0, 1) := by decide +kernel
theorem dX2_init_10 : decode cX2_init 10 = .ok (.bipush 24, 2) := by decide +kernel
theorem dX2_init_12 : decode cX2_init 12 = .ok (.newarray .int, 2) := by decide +kernel
theorem dX2_init_14 : decode cX2_init 14 = .ok (.putfield 15, 3) := by decide +kernel
theorem dX2_init_17 : decode cX2_init 17 = .ok (.aload_n 0, 1) := by decide +kernel
theorem dX2_init_18 : decode cX2_init 18 = .ok (.bipush 24, 2) := by decide +kernel
theorem dX2_init_20 : decode cX2_init 20 = .ok (.newarray .int, 2) := by decide +kernel
theorem dX2_init_22 : decode cX2_init 22 = .ok (.putfield 19, 3) := by decide +kernel
theorem dX2_init_25 : decode cX2_init 25 = .ok (.aload_n 0, 1) := by decide +kernel
theorem dX2_init_26 : decode cX2_init 26 = .ok (.iconst 0, 1) := by decide +kernel
theorem dX2_init_27 : decode cX2_init 27 = .ok (.putfield 22, 3) := by decide +kernel
theorem dX2_init_30 : decode cX2_init 30 = .ok (.aload_n 0, 1) := by decide +kernel
theorem dX2_init_31 : decode cX2_init 31 = .ok (.iconst 0, 1) := by decide +kernel
theorem dX2_init_32 : decode cX2_init 32 = .ok (.putfield 26, 3) := by decide +kernel
theorem dX2_init_35 : decode cX2_init 35 = .ok (.return_, 1) := by decide +kernel
theorem dX2_number_0 : decode cX2_number 0 = .ok (.aload_n 0, 1) := by decide +kernel
theorem dX2_number_1 : decode cX2_number 1 = .ok (.getfield 22, 3) := by decide +kernel
theorem dX2_number_4 : decode cX2_number 4 = .ok (.ireturn, 1) := by decide +kernel
theorem dX2_largest_0 : decode cX2_largest 0 = .ok (.aload_n 0, 1) := by decide +kernel
theorem dX2_largest_1 : decode cX2_largest 1 = .ok (.getfield 26, 3) := by decide +kernel
theorem dX2_largest_4 : decode cX2_largest 4 = .ok (.ireturn, 1) := by decide +kernel
set_option maxRecDepth 100000 in
theorem ggX2_split_X5_rowOf : GoodIn wsX2_split wsX5_rowOf := goodIn_r _ [13, 14, 15, 16, 17, 18, 19, 20, 21, 22, 23, 24, 25, 26, 27, 28, 29, 30, 31, 32, 33, 34, 35, 36, 37, 38, 39, 68, 69, 70, 71, 72, 73, 74, 75, 76, 77] rfl (by decide +kernel)
set_option maxRecDepth 100000 in
theorem gX2_split_X5_rowOf : GoodIn wsX2_split (wsV RX2 29 RX5 yX5_rowOf wsX5_rowOf) := goodIn_app (goodIn_of _ (by decide +kernel)) ggX2_split_X5_rowOf
set_option maxRecDepth 100000 in
theorem ggX2_split_X7_put : GoodIn wsX2_split wsX7_put := goodIn_r _ [41] rfl (by decide +kernel)
set_option maxRecDepth 100000 in
theorem gX2_split_X7_put_n35 : GoodIn wsX2_split (wsX7_put) := ggX2_split_X7_put
set_option maxRecDepth 100000 in
theorem ggX2_split_X7_at : GoodIn wsX2_split wsX7_at := goodIn_r _ [34] rfl (by decide +kernel)
set_option maxRecDepth 100000 in
theorem gX2_split_X7_at_n39 : GoodIn wsX2_split (wsX7_at) := ggX2_split_X7_at
set_option maxRecDepth 100000 in
theorem ggX2_split_X2_takePart : GoodIn wsX2_split wsX2_takePart := goodIn_r _ [46, 47, 3, 48, 49, 50, 51, 32, 33, 34, 40, 41, 52, 53, 54, 45, 55, 56, 57, 58, 59, 60, 61, 62, 63, 64, 65, 66, 67] rfl (by decide +kernel)
set_option maxRecDepth 100000 in
theorem gX2_split_X2_takePart : GoodIn wsX2_split (wsV RX2 43 RX2 yX2_takePart wsX2_takePart) := goodIn_app (goodIn_of _ (by decide +kernel)) ggX2_split_X2_takePart
theorem dX2_split_0 : decode cX2_split 0 = .ok (.aload_n 0, 1) := by decide +kernel
theorem dX2_split_1 : decode cX2_split 1 = .ok (.iconst 0, 1) := by decide +kernel
theorem dX2_split_2 : decode cX2_split 2 = .ok (.putfield 22, 3) := by decide +kernel
theorem dX2_split_5 : decode cX2_split 5 = .ok (.aload_n 0, 1) := by decide +kernel
theorem dX2_split_6 : decode cX2_split 6 = .ok (.iconst 0, 1) := by decide +kernel
theorem dX2_split_7 : decode cX2_split 7 = .ok (.putfield 26, 3) := by decide +kernel
theorem dX2_split_10 : decode cX2_split 10 = .ok (.iconst 0, 1) := by decide +kernel
theorem dX2_split_11 : decode cX2_split 11 = .ok (.istore_n 2, 1) := by decide +kernel
theorem dX2_split_12 : decode cX2_split 12 = .ok (.iload_n 2, 1) := by decide +kernel
theorem dX2_split_13 : decode cX2_split 13 = .ok (.bipush 24, 2) := by decide +kernel
theorem dX2_split_15 : decode cX2_split 15 = .ok (.if_icmp .ge 26, 3) := by decide +kernel
theorem dX2_split_18 : decode cX2_split 18 = .ok (.aload_n 0, 1) := by decide +kernel
theorem dX2_split_19 : decode cX2_split 19 = .ok (.getfield 15, 3) := by decide +kernel
theorem dX2_split_22 : decode cX2_split 22 = .ok (.iload_n 2, 1) := by decide +kernel
theorem dX2_split_23 : decode cX2_split 23 = .ok (.aload_n 0, 1) := by decide +kernel
theorem dX2_split_24 : decode cX2_split 24 = .ok (.getfield 9, 3) := by decide +kernel
theorem dX2_split_27 : decode cX2_split 27 = .ok (.iload_n 1, 1) := by decide +kernel
theorem dX2_split_28 : decode cX2_split 28 = .ok (.iload_n 2, 1) := by decide +kernel
theorem dX2_split_29 : decode cX2_split 29 = .ok (.invokevirtual 29, 3) := by decide +kernel
theorem dX2_split_32 : decode cX2_split 32 = .ok (.invokestatic 35, 3) := by decide +kernel
theorem dX2_split_35 : decode cX2_split 35 = .ok (.iinc 2 1, 3) := by decide +kernel
theorem dX2_split_38 : decode cX2_split 38 = .ok (.goto (-26), 3) := by decide +kernel
theorem dX2_split_41 : decode cX2_split 41 = .ok (.iconst 0, 1) := by decide +kernel
theorem dX2_split_42 : decode cX2_split 42 = .ok (.istore_n 2, 1) := by decide +kernel
theorem dX2_split_43 : decode cX2_split 43 = .ok (.iload_n 2, 1) := by decide +kernel
theorem dX2_split_44 : decode cX2_split 44 = .ok (.bipush 24, 2) := by decide +kernel
theorem dX2_split_46 : decode cX2_split 46 = .ok (.if_icmp .ge 60, 3) := by decide +kernel
theorem dX2_split_49 : decode cX2_split 49 = .ok (.iconst 0, 1) := by decide +kernel
theorem dX2_split_50 : decode cX2_split 50 = .ok (.istore_n 3, 1) := by decide +kernel
theorem dX2_split_51 : decode cX2_split 51 = .ok (.iload_n 3, 1) := by decide +kernel
theorem dX2_split_52 : decode cX2_split 52 = .ok (.bipush 24, 2) := by decide +kernel
theorem dX2_split_54 : decode cX2_split 54 = .ok (.if_icmp .ge 46, 3) := by decide +kernel
theorem dX2_split_57 : decode cX2_split 57 = .ok (.aload_n 0, 1) := by decide +kernel
theorem dX2_split_58 : decode cX2_split 58 = .ok (.getfield 15, 3) := by decide +kernel
theorem dX2_split_61 : decode cX2_split 61 = .ok (.iload_n 2, 1) := by decide +kernel
theorem dX2_split_62 : decode cX2_split 62 = .ok (.invokestatic 39, 3) := by decide +kernel
theorem dX2_split_65 : decode cX2_split 65 = .ok (.ifCond .eq 35, 3) := by decide +kernel
theorem dX2_split_68 : decode cX2_split 68 = .ok (.aload_n 0, 1) := by decide +kernel
theorem dX2_split_69 : decode cX2_split 69 = .ok (.dup, 1) := by decide +kernel
theorem dX2_split_70 : decode cX2_split 70 = .ok (.getfield 22, 3) := by decide +kernel
theorem dX2_split_73 : decode cX2_split 73 = .ok (.iconst 1, 1) := by decide +kernel
theorem dX2_split_74 : decode cX2_split 74 = .ok (.iadd, 1) := by decide +kernel
theorem dX2_split_75 : decode cX2_split 75 = .ok (.putfield 22, 3) := by decide +kernel
theorem dX2_split_78 : decode cX2_split 78 = .ok (.aload_n 0, 1) := by decide +kernel
theorem dX2_split_79 : decode cX2_split 79 = .ok (.aload_n 0, 1) := by decide +kernel
theorem dX2_split_80 : decode cX2_split 80 = .ok (.getfield 26, 3) := by decide +kernel
theorem dX2_split_83 : decode cX2_split 83 = .ok (.aload_n 0, 1) := by decide +kernel
theorem dX2_split_84 : decode cX2_split 84 = .ok (.iload_n 2, 1) := by decide +kernel
theorem dX2_split_85 : decode cX2_split 85 = .ok (.invokevirtual 43, 3) := by decide +kernel
theorem dX2_split_88 : decode cX2_split 88 = .ok (.invokestatic 47, 3) := by decide +kernel
theorem dX2_split_91 : decode cX2_split 91 = .ok (.putfield 26, 3) := by decide +kernel
theorem dX2_split_94 : decode cX2_split 94 = .ok (.iinc 3 1, 3) := by decide +kernel
theorem dX2_split_97 : decode cX2_split 97 = .ok (.goto (-46), 3) := by decide +kernel
theorem dX2_split_100 : decode cX2_split 100 = .ok (.iinc 2 1, 3) := by decide +kernel
theorem dX2_split_103 : decode cX2_split 103 = .ok (.goto (-60), 3) := by decide +kernel
theorem dX2_split_106 : decode cX2_split 106 = .ok (.return_, 1) := by decide +kernel
set_option maxRecDepth 100000 in
theorem ggX2_takePart_J7_fill_53178 : GoodIn wsX2_takePart wsJ7_fill_53178 := goodIn_r _ [6] rfl (by decide +kernel)
set_option maxRecDepth 100000 in
theorem gX2_takePart_J7_fill_53178 : GoodIn wsX2_takePart (va_wsS RX2 52 yJ7_fill_53178 wsJ7_fill_53178) := goodIn_app (goodIn_of _ (by decide +kernel)) ggX2_takePart_J7_fill_53178
set_option maxRecDepth 100000 in
theorem ggX2_takePart_X7_at : GoodIn wsX2_takePart wsX7_at := goodIn_r _ [9] rfl (by decide +kernel)
set_option maxRecDepth 100000 in
theorem gX2_takePart_X7_at_n39 : GoodIn wsX2_takePart (wsX7_at) := ggX2_takePart_X7_at
set_option maxRecDepth 100000 in
theorem ggX2_takePart_X7_put : GoodIn wsX2_takePart wsX7_put := goodIn_r _ [11] rfl (by decide +kernel)
set_option maxRecDepth 100000 in
theorem gX2_takePart_X7_put_n35 : GoodIn wsX2_takePart (wsX7_put) := ggX2_takePart_X7_put
set_option maxRecDepth 100000 in
theorem ggX2_takePart_X2_grow : GoodIn wsX2_takePart wsX2_grow := goodIn_r _ [16, 1, 2, 7, 8, 9, 10, 11, 24, 25, 26, 27, 28] rfl (by decide +kernel)
set_option maxRecDepth 100000 in
theorem gX2_takePart_X2_grow : GoodIn wsX2_takePart (wsV RX2 58 RX2 yX2_grow wsX2_grow) := goodIn_app (goodIn_of _ (by decide +kernel)) ggX2_takePart_X2_grow
set_option maxRecDepth 100000 in
theorem ggX2_takePart_J6_bitCount_0f7a4 : GoodIn wsX2_takePart wsJ6_bitCount_0f7a4 := goodIn_r _ [20, 21, 22, 23] rfl (by decide +kernel)
set_option maxRecDepth 100000 in
theorem gX2_takePart_J6_bitCount_0f7a4 : GoodIn wsX2_takePart (va_wsS RX2 62 yJ6_bitCount_0f7a4 wsJ6_bitCount_0f7a4) := goodIn_app (goodIn_of _ (by decide +kernel)) ggX2_takePart_J6_bitCount_0f7a4
theorem dX2_takePart_0 : decode cX2_takePart 0 = .ok (.aload_n 0, 1) := by decide +kernel
theorem dX2_takePart_1 : decode cX2_takePart 1 = .ok (.getfield 19, 3) := by decide +kernel
theorem dX2_takePart_4 : decode cX2_takePart 4 = .ok (.iconst 0, 1) := by decide +kernel
theorem dX2_takePart_5 : decode cX2_takePart 5 = .ok (.invokestatic 52, 3) := by decide +kernel
theorem dX2_takePart_8 : decode cX2_takePart 8 = .ok (.aload_n 0, 1) := by decide +kernel
theorem dX2_takePart_9 : decode cX2_takePart 9 = .ok (.getfield 19, 3) := by decide +kernel
theorem dX2_takePart_12 : decode cX2_takePart 12 = .ok (.iload_n 1, 1) := by decide +kernel
theorem dX2_takePart_13 : decode cX2_takePart 13 = .ok (.aload_n 0, 1) := by decide +kernel
theorem dX2_takePart_14 : decode cX2_takePart 14 = .ok (.getfield 15, 3) := by decide +kernel
theorem dX2_takePart_17 : decode cX2_takePart 17 = .ok (.iload_n 1, 1) := by decide +kernel
theorem dX2_takePart_18 : decode cX2_takePart 18 = .ok (.invokestatic 39, 3) := by decide +kernel
theorem dX2_takePart_21 : decode cX2_takePart 21 = .ok (.aload_n 0, 1) := by decide +kernel
theorem dX2_takePart_22 : decode cX2_takePart 22 = .ok (.getfield 15, 3) := by decide +kernel
theorem dX2_takePart_25 : decode cX2_takePart 25 = .ok (.iload_n 1, 1) := by decide +kernel
theorem dX2_takePart_26 : decode cX2_takePart 26 = .ok (.invokestatic 39, 3) := by decide +kernel
theorem dX2_takePart_29 : decode cX2_takePart 29 = .ok (.ineg, 1) := by decide +kernel
theorem dX2_takePart_30 : decode cX2_takePart 30 = .ok (.iand, 1) := by decide +kernel
theorem dX2_takePart_31 : decode cX2_takePart 31 = .ok (.invokestatic 35, 3) := by decide +kernel
theorem dX2_takePart_34 : decode cX2_takePart 34 = .ok (.iconst 1, 1) := by decide +kernel
theorem dX2_takePart_35 : decode cX2_takePart 35 = .ok (.istore_n 2, 1) := by decide +kernel
theorem dX2_takePart_36 : decode cX2_takePart 36 = .ok (.iconst 0, 1) := by decide +kernel
theorem dX2_takePart_37 : decode cX2_takePart 37 = .ok (.istore_n 3, 1) := by decide +kernel
theorem dX2_takePart_38 : decode cX2_takePart 38 = .ok (.iload_n 3, 1) := by decide +kernel
theorem dX2_takePart_39 : decode cX2_takePart 39 = .ok (.sipush 576, 3) := by decide +kernel
theorem dX2_takePart_42 : decode cX2_takePart 42 = .ok (.if_icmp .ge 18, 3) := by decide +kernel
theorem dX2_takePart_45 : decode cX2_takePart 45 = .ok (.iload_n 2, 1) := by decide +kernel
theorem dX2_takePart_46 : decode cX2_takePart 46 = .ok (.ifCond .eq 14, 3) := by decide +kernel
theorem dX2_takePart_49 : decode cX2_takePart 49 = .ok (.aload_n 0, 1) := by decide +kernel
theorem dX2_takePart_50 : decode cX2_takePart 50 = .ok (.invokevirtual 58, 3) := by decide +kernel
theorem dX2_takePart_53 : decode cX2_takePart 53 = .ok (.istore_n 2, 1) := by decide +kernel
theorem dX2_takePart_54 : decode cX2_takePart 54 = .ok (.iinc 3 1, 3) := by decide +kernel
theorem dX2_takePart_57 : decode cX2_takePart 57 = .ok (.goto (-19), 3) := by decide +kernel
theorem dX2_takePart_60 : decode cX2_takePart 60 = .ok (.iconst 0, 1) := by decide +kernel
theorem dX2_takePart_61 : decode cX2_takePart 61 = .ok (.istore_n 3, 1) := by decide +kernel
theorem dX2_takePart_62 : decode cX2_takePart 62 = .ok (.iconst 0, 1) := by decide +kernel
theorem dX2_takePart_63 : decode cX2_takePart 63 = .ok (.istore 4, 2) := by decide +kernel
theorem dX2_takePart_65 : decode cX2_takePart 65 = .ok (.iload 4, 2) := by decide +kernel
theorem dX2_takePart_67 : decode cX2_takePart 67 = .ok (.bipush 24, 2) := by decide +kernel
theorem dX2_takePart_69 : decode cX2_takePart 69 = .ok (.if_icmp .ge 54, 3) := by decide +kernel
theorem dX2_takePart_72 : decode cX2_takePart 72 = .ok (.iload_n 3, 1) := by decide +kernel
theorem dX2_takePart_73 : decode cX2_takePart 73 = .ok (.aload_n 0, 1) := by decide +kernel
theorem dX2_takePart_74 : decode cX2_takePart 74 = .ok (.getfield 19, 3) := by decide +kernel
theorem dX2_takePart_77 : decode cX2_takePart 77 = .ok (.iload 4, 2) := by decide +kernel
theorem dX2_takePart_79 : decode cX2_takePart 79 = .ok (.invokestatic 39, 3) := by decide +kernel
theorem dX2_takePart_82 : decode cX2_takePart 82 = .ok (.invokestatic 62, 3) := by decide +kernel
theorem dX2_takePart_85 : decode cX2_takePart 85 = .ok (.iadd, 1) := by decide +kernel
theorem dX2_takePart_86 : decode cX2_takePart 86 = .ok (.istore_n 3, 1) := by decide +kernel
theorem dX2_takePart_87 : decode cX2_takePart 87 = .ok (.aload_n 0, 1) := by decide +kernel
theorem dX2_takePart_88 : decode cX2_takePart 88 = .ok (.getfield 15, 3) := by decide +kernel
theorem dX2_takePart_91 : decode cX2_takePart 91 = .ok (.iload 4, 2) := by decide +kernel
theorem dX2_takePart_93 : decode cX2_takePart 93 = .ok (.aload_n 0, 1) := by decide +kernel
theorem dX2_takePart_94 : decode cX2_takePart 94 = .ok (.getfield 15, 3) := by decide +kernel
theorem dX2_takePart_97 : decode cX2_takePart 97 = .ok (.iload 4, 2) := by decide +kernel
theorem dX2_takePart_99 : decode cX2_takePart 99 = .ok (.invokestatic 39, 3) := by decide +kernel
theorem dX2_takePart_102 : decode cX2_takePart 102 = .ok (.aload_n 0, 1) := by decide +kernel
theorem dX2_takePart_103 : decode cX2_takePart 103 = .ok (.getfield 19, 3) := by decide +kernel
theorem dX2_takePart_106 : decode cX2_takePart 106 = .ok (.iload 4, 2) := by decide +kernel
theorem dX2_takePart_108 : decode cX2_takePart 108 = .ok (.invokestatic 39, 3) := by decide +kernel
theorem dX2_takePart_111 : decode cX2_takePart 111 = .ok (.iconst (-1), 1) := by decide +kernel
theorem dX2_takePart_112 : decode cX2_takePart 112 = .ok (.ixor, 1) := by decide +kernel
theorem dX2_takePart_113 : decode cX2_takePart 113 = .ok (.iand, 1) := by decide +kernel
theorem dX2_takePart_114 : decode cX2_takePart 114 = .ok (.invokestatic 35, 3) := by decide +kernel
theorem dX2_takePart_117 : decode cX2_takePart 117 = .ok (.iinc 4 1, 3) := by decide +kernel
theorem dX2_takePart_120 : decode cX2_takePart 120 = .ok (.goto (-55), 3) := by decide +kernel
theorem dX2_takePart_123 : decode cX2_takePart 123 = .ok (.iload_n 3, 1) := by decide +kernel
theorem dX2_takePart_124 : decode cX2_takePart 124 = .ok (.ireturn, 1) := by decide +kernel
set_option maxRecDepth 100000 in
theorem ggX2_grow_X7_at : GoodIn wsX2_grow wsX7_at := goodIn_r _ [5] rfl (by decide +kernel)
set_option maxRecDepth 100000 in
theorem gX2_grow_X7_at_n39 : GoodIn wsX2_grow (wsX7_at) := ggX2_grow_X7_at
set_option maxRecDepth 100000 in
theorem ggX2_grow_X7_put : GoodIn wsX2_grow wsX7_put := goodIn_r _ [7] rfl (by decide +kernel)
set_option maxRecDepth 100000 in
theorem gX2_grow_X7_put_n35 : GoodIn wsX2_grow (wsX7_put) := ggX2_grow_X7_put
theorem dX2_grow_0 : decode cX2_grow 0 = .ok (.iconst 0, 1) := by decide +kernel
theorem dX2_grow_1 : decode cX2_grow 1 = .ok (.istore_n 1, 1) := by decide +kernel
theorem dX2_grow_2 : decode cX2_grow 2 = .ok (.iconst 0, 1) := by decide +kernel
theorem dX2_grow_3 : decode cX2_grow 3 = .ok (.istore_n 2, 1) := by decide +kernel
theorem dX2_grow_4 : decode cX2_grow 4 = .ok (.iload_n 2, 1) := by decide +kernel
theorem dX2_grow_5 : decode cX2_grow 5 = .ok (.bipush 24, 2) := by decide +kernel
theorem dX2_grow_7 : decode cX2_grow 7 = .ok (.if_icmp .ge 82, 3) := by decide +kernel
theorem dX2_grow_10 : decode cX2_grow 10 = .ok (.aload_n 0, 1) := by decide +kernel
theorem dX2_grow_11 : decode cX2_grow 11 = .ok (.getfield 19, 3) := by decide +kernel
theorem dX2_grow_14 : decode cX2_grow 14 = .ok (.iload_n 2, 1) := by decide +kernel
theorem dX2_grow_15 : decode cX2_grow 15 = .ok (.invokestatic 39, 3) := by decide +kernel
theorem dX2_grow_18 : decode cX2_grow 18 = .ok (.istore_n 3, 1) := by decide +kernel
theorem dX2_grow_19 : decode cX2_grow 19 = .ok (.iload_n 3, 1) := by decide +kernel
theorem dX2_grow_20 : decode cX2_grow 20 = .ok (.iload_n 3, 1) := by decide +kernel
theorem dX2_grow_21 : decode cX2_grow 21 = .ok (.iconst 1, 1) := by decide +kernel
theorem dX2_grow_22 : decode cX2_grow 22 = .ok (.ishl, 1) := by decide +kernel
theorem dX2_grow_23 : decode cX2_grow 23 = .ok (.ior, 1) := by decide +kernel
theorem dX2_grow_24 : decode cX2_grow 24 = .ok (.iload_n 3, 1) := by decide +kernel
theorem dX2_grow_25 : decode cX2_grow 25 = .ok (.iconst 1, 1) := by decide +kernel
theorem dX2_grow_26 : decode cX2_grow 26 = .ok (.ishr, 1) := by decide +kernel
theorem dX2_grow_27 : decode cX2_grow 27 = .ok (.ior, 1) := by decide +kernel
theorem dX2_grow_28 : decode cX2_grow 28 = .ok (.aload_n 0, 1) := by decide +kernel
theorem dX2_grow_29 : decode cX2_grow 29 = .ok (.getfield 19, 3) := by decide +kernel
theorem dX2_grow_32 : decode cX2_grow 32 = .ok (.iload_n 2, 1) := by decide +kernel
theorem dX2_grow_33 : decode cX2_grow 33 = .ok (.iconst 1, 1) := by decide +kernel
theorem dX2_grow_34 : decode cX2_grow 34 = .ok (.isub, 1) := by decide +kernel
theorem dX2_grow_35 : decode cX2_grow 35 = .ok (.invokestatic 39, 3) := by decide +kernel
theorem dX2_grow_38 : decode cX2_grow 38 = .ok (.ior, 1) := by decide +kernel
theorem dX2_grow_39 : decode cX2_grow 39 = .ok (.aload_n 0, 1) := by decide +kernel
theorem dX2_grow_40 : decode cX2_grow 40 = .ok (.getfield 19, 3) := by decide +kernel
theorem dX2_grow_43 : decode cX2_grow 43 = .ok (.iload_n 2, 1) := by decide +kernel
theorem dX2_grow_44 : decode cX2_grow 44 = .ok (.iconst 1, 1) := by decide +kernel
theorem dX2_grow_45 : decode cX2_grow 45 = .ok (.iadd, 1) := by decide +kernel
theorem dX2_grow_46 : decode cX2_grow 46 = .ok (.invokestatic 39, 3) := by decide +kernel
theorem dX2_grow_49 : decode cX2_grow 49 = .ok (.ior, 1) := by decide +kernel
theorem dX2_grow_50 : decode cX2_grow 50 = .ok (.istore 4, 2) := by decide +kernel
theorem dX2_grow_52 : decode cX2_grow 52 = .ok (.iload 4, 2) := by decide +kernel
theorem dX2_grow_54 : decode cX2_grow 54 = .ok (.aload_n 0, 1) := by decide +kernel
theorem dX2_grow_55 : decode cX2_grow 55 = .ok (.getfield 15, 3) := by decide +kernel
theorem dX2_grow_58 : decode cX2_grow 58 = .ok (.iload_n 2, 1) := by decide +kernel
theorem dX2_grow_59 : decode cX2_grow 59 = .ok (.invokestatic 39, 3) := by decide +kernel
theorem dX2_grow_62 : decode cX2_grow 62 = .ok (.iand, 1) := by decide +kernel
theorem dX2_grow_63 : decode cX2_grow 63 = .ok (.istore 5, 2) := by decide +kernel
theorem dX2_grow_65 : decode cX2_grow 65 = .ok (.iload 5, 2) := by decide +kernel
theorem dX2_grow_67 : decode cX2_grow 67 = .ok (.iload_n 3, 1) := by decide +kernel
theorem dX2_grow_68 : decode cX2_grow 68 = .ok (.if_icmp .eq 15, 3) := by decide +kernel
theorem dX2_grow_71 : decode cX2_grow 71 = .ok (.aload_n 0, 1) := by decide +kernel
theorem dX2_grow_72 : decode cX2_grow 72 = .ok (.getfield 19, 3) := by decide +kernel
theorem dX2_grow_75 : decode cX2_grow 75 = .ok (.iload_n 2, 1) := by decide +kernel
theorem dX2_grow_76 : decode cX2_grow 76 = .ok (.iload 5, 2) := by decide +kernel
theorem dX2_grow_78 : decode cX2_grow 78 = .ok (.invokestatic 35, 3) := by decide +kernel
theorem dX2_grow_81 : decode cX2_grow 81 = .ok (.iconst 1, 1) := by decide +kernel
theorem dX2_grow_82 : decode cX2_grow 82 = .ok (.istore_n 1, 1) := by decide +kernel
theorem dX2_grow_83 : decode cX2_grow 83 = .ok (.iinc 2 1, 3) := by decide +kernel
theorem dX2_grow_86 : decode cX2_grow 86 = .ok (.goto (-82), 3) := by decide +kernel
theorem dX2_grow_89 : decode cX2_grow 89 = .ok (.iload_n 1, 1) := by decide +kernel
theorem dX2_grow_90 : decode cX2_grow 90 = .ok (.ireturn, 1) := by decide +kernel
set_option maxRecDepth 100000 in
theorem ggX3_init_X1_init : GoodIn wsX3_init wsX1_init := goodIn_r _ [17, 18, 2, 3, 19, 20, 21, 22, 23, 24, 25, 34, 35, 36, 37, 38, 39] rfl (by decide +kernel)
set_option maxRecDepth 100000 in
theorem gX3_init_X1_init : GoodIn wsX3_init (wsX1_init) := ggX3_init_X1_init
set_option maxRecDepth 100000 in
theorem ggX3_init_X5_init : GoodIn wsX3_init wsX5_init := goodIn_r _ [28, 29, 2, 3, 30, 19, 31, 32, 33, 45, 46, 47, 48] rfl (by decide +kernel)
set_option maxRecDepth 100000 in
theorem gX3_init_X5_init : GoodIn wsX3_init (wsX5_init) := ggX3_init_X5_init
theorem dX3_init_0 : decode cX3_init 0 = .ok (.aload_n 0, 1) := by decide +kernel
theorem dX3_init_1 : decode cX3_init 1 = .ok (.invokespecial 3, 3) := by decide +kernel
theorem dX3_init_4 : decode cX3_init 4 = .ok (.new 9, 3) := by decide +kernel
theorem dX3_init_7 : decode cX3_init 7 = .ok (.dup, 1) := by decide +kernel
theorem dX3_init_8 : decode cX3_init 8 = .ok (.invokespecial 11, 3) := by decide +kernel
theorem dX3_init_11 : decode cX3_init 11 = .ok (.astore_n 2, 1) := by decide +kernel
theorem dX3_init_12 : decode cX3_init 12 = .ok (.aload_n 0, 1) := by decide +kernel
theorem dX3_init_13 : decode cX3_init 13 = .ok (.aload_n 1, 1) := by decide +kernel
theorem dX3_init_14 : decode cX3_init 14 = .ok (.putfield 12, 3) := by decide +kernel
theorem dX3_init_17 : decode cX3_init 17 = .ok (.aload_n 0, 1) := by decide +kernel
theorem dX3_init_18 : decode cX3_init 18 = .ok (.aload_n 2, 1) := by decide +kernel
theorem dX3_init_19 : decode cX3_init 19 = .ok (.putfield 18, 3) := by decide +kernel
theorem dX3_init_22 : decode cX3_init 22 = .ok (.aload_n 0, 1) := by decide +kernel
theorem dX3_init_23 : decode cX3_init 23 = .ok (.new 21, 3) := by decide +kernel
theorem dX3_init_26 : decode cX3_init 26 = .ok (.dup, 1) := by decide +kernel
theorem dX3_init_27 : decode cX3_init 27 = .ok (.aload_n 2, 1) := by decide +kernel
theorem dX3_init_28 : decode cX3_init 28 = .ok (.invokespecial 23, 3) := by decide +kernel
theorem dX3_init_31 : decode cX3_init 31 = .ok (.putfield 26, 3) := by decide +kernel
theorem dX3_init_34 : decode cX3_init 34 = .ok (.aload_n 0, 1) := by decide +kernel
theorem dX3_init_35 : decode cX3_init 35 = .ok (.iconst 0, 1) := by decide +kernel
theorem dX3_init_36 : decode cX3_init 36 = .ok (.putfield 30, 3) := by decide +kernel
theorem dX3_init_39 : decode cX3_init 39 = .ok (.aload_n 0, 1) := by decide +kernel
theorem dX3_init_40 : decode cX3_init 40 = .ok (.iconst 0, 1) := by decide +kernel
theorem dX3_init_41 : decode cX3_init 41 = .ok (.putfield 34, 3) := by decide +kernel
theorem dX3_init_44 : decode cX3_init 44 = .ok (.return_, 1) := by decide +kernel
theorem dX3_dx_0 : decode cX3_dx 0 = .ok (.aload_n 0, 1) := by decide +kernel
theorem dX3_dx_1 : decode cX3_dx 1 = .ok (.getfield 30, 3) := by decide +kernel
theorem dX3_dx_4 : decode cX3_dx 4 = .ok (.ireturn, 1) := by decide +kernel
theorem dX3_dy_0 : decode cX3_dy 0 = .ok (.aload_n 0, 1) := by decide +kernel
theorem dX3_dy_1 : decode cX3_dy 1 = .ok (.getfield 34, 3) := by decide +kernel
theorem dX3_dy_4 : decode cX3_dy 4 = .ok (.ireturn, 1) := by decide +kernel
theorem dX3_cost_0 : decode cX3_cost 0 = .ok (.aload_n 0, 1) := by decide +kernel
theorem dX3_cost_1 : decode cX3_cost 1 = .ok (.getfield 30, 3) := by decide +kernel
theorem dX3_cost_4 : decode cX3_cost 4 = .ok (.invokestatic 37, 3) := by decide +kernel
theorem dX3_cost_7 : decode cX3_cost 7 = .ok (.aload_n 0, 1) := by decide +kernel
theorem dX3_cost_8 : decode cX3_cost 8 = .ok (.getfield 34, 3) := by decide +kernel
theorem dX3_cost_11 : decode cX3_cost 11 = .ok (.invokestatic 37, 3) := by decide +kernel
theorem dX3_cost_14 : decode cX3_cost 14 = .ok (.iadd, 1) := by decide +kernel
theorem dX3_cost_15 : decode cX3_cost 15 = .ok (.ireturn, 1) := by decide +kernel
set_option maxRecDepth 100000 in
theorem ggX3_findShift_X1_take : GoodIn wsX3_findShift wsX1_take := goodIn_r _ [11, 12, 13, 14, 15, 16, 17, 18, 19, 20, 21, 116, 117, 118, 119, 120, 121] rfl (by decide +kernel)
set_option maxRecDepth 100000 in
theorem gX3_findShift_X1_take : GoodIn wsX3_findShift (wsV RX3 43 RX1 yX1_take wsX1_take) := goodIn_app (goodIn_of _ (by decide +kernel)) ggX3_findShift_X1_take
set_option maxRecDepth 100000 in
theorem ggX3_findShift_X3_contentPiecesNeeded : GoodIn wsX3_findShift wsX3_contentPiecesNeeded := goodIn_r _ [26, 27, 2, 28, 29, 30, 31, 32, 33, 34, 35, 36, 37, 38, 39, 40, 41, 10, 42, 20, 43, 44, 45, 46, 17, 47, 48, 49, 50, 51, 52, 53, 54, 55, 56, 57, 58, 59, 12, 60, 61, 62, 63, 18, 64, 65, 66, 67, 19, 68, 69, 70, 71, 72, 73, 74, 75, 76, 77, 78, 79, 80, 81, 82, 83, 84, 85, 111, 112, 113, 114, 115, 122, 123, 124, 125, 116, 117, 118, 119, 120, 121] rfl (by decide +kernel)
set_option maxRecDepth 100000 in
theorem gX3_findShift_X3_contentPiecesNeeded : GoodIn wsX3_findShift (wsV RX3 46 RX3 yX3_contentPiecesNeeded wsX3_contentPiecesNeeded) := goodIn_app (goodIn_of _ (by decide +kernel)) ggX3_findShift_X3_contentPiecesNeeded
set_option maxRecDepth 100000 in
theorem ggX3_findShift_X3_reaches : GoodIn wsX3_findShift wsX3_reaches := goodIn_r _ [89, 2, 90, 91, 1, 27, 92, 93, 94, 10, 95, 96, 57, 58, 59, 12, 97, 48, 98, 99, 100, 101, 47, 49, 102, 103, 104, 105, 106, 107, 108, 109, 68, 69, 28, 29, 30, 31, 32, 33, 34, 35, 36, 37, 38, 39, 40, 41, 42, 20, 43, 44, 45, 46, 17, 50, 51, 52, 53, 54, 55, 56, 60, 61, 62, 63, 18, 64, 65, 66, 67, 19, 70, 71, 72, 73, 74, 75, 76, 110, 82, 83, 84, 77, 78, 79, 80, 81, 111, 112, 113, 114, 115, 116, 117, 118, 119, 120, 121, 122, 123, 124, 125] rfl (by decide +kernel)
set_option maxRecDepth 100000 in
theorem gX3_findShift_X3_reaches : GoodIn wsX3_findShift (wsV RX3 49 RX3 yX3_reaches wsX3_reaches) := goodIn_app (goodIn_of _ (by decide +kernel)) ggX3_findShift_X3_reaches
theorem dX3_findShift_0 : decode cX3_findShift 0 = .ok (.aload_n 0, 1) := by decide +kernel
theorem dX3_findShift_1 : decode cX3_findShift 1 = .ok (.getfield 18, 3) := by decide +kernel
theorem dX3_findShift_4 : decode cX3_findShift 4 = .ok (.aload_n 0, 1) := by decide +kernel
theorem dX3_findShift_5 : decode cX3_findShift 5 = .ok (.getfield 12, 3) := by decide +kernel
theorem dX3_findShift_8 : decode cX3_findShift 8 = .ok (.invokevirtual 43, 3) := by decide +kernel
theorem dX3_findShift_11 : decode cX3_findShift 11 = .ok (.aload_n 0, 1) := by decide +kernel
theorem dX3_findShift_12 : decode cX3_findShift 12 = .ok (.iload_n 2, 1) := by decide +kernel
theorem dX3_findShift_13 : decode cX3_findShift 13 = .ok (.invokevirtual 46, 3) := by decide +kernel
theorem dX3_findShift_16 : decode cX3_findShift 16 = .ok (.istore 4, 2) := by decide +kernel
theorem dX3_findShift_18 : decode cX3_findShift 18 = .ok (.iconst 0, 1) := by decide +kernel
theorem dX3_findShift_19 : decode cX3_findShift 19 = .ok (.istore 5, 2) := by decide +kernel
theorem dX3_findShift_21 : decode cX3_findShift 21 = .ok (.iload 5, 2) := by decide +kernel
theorem dX3_findShift_23 : decode cX3_findShift 23 = .ok (.iload_n 3, 1) := by decide +kernel
theorem dX3_findShift_24 : decode cX3_findShift 24 = .ok (.if_icmp .gt 73, 3) := by decide +kernel
theorem dX3_findShift_27 : decode cX3_findShift 27 = .ok (.iload 5, 2) := by decide +kernel
theorem dX3_findShift_29 : decode cX3_findShift 29 = .ok (.ineg, 1) := by decide +kernel
theorem dX3_findShift_30 : decode cX3_findShift 30 = .ok (.istore 6, 2) := by decide +kernel
theorem dX3_findShift_32 : decode cX3_findShift 32 = .ok (.iload 6, 2) := by decide +kernel
theorem dX3_findShift_34 : decode cX3_findShift 34 = .ok (.iload 5, 2) := by decide +kernel
theorem dX3_findShift_36 : decode cX3_findShift 36 = .ok (.if_icmp .gt 55, 3) := by decide +kernel
theorem dX3_findShift_39 : decode cX3_findShift 39 = .ok (.iload 5, 2) := by decide +kernel
theorem dX3_findShift_41 : decode cX3_findShift 41 = .ok (.iload 6, 2) := by decide +kernel
theorem dX3_findShift_43 : decode cX3_findShift 43 = .ok (.invokestatic 37, 3) := by decide +kernel
theorem dX3_findShift_46 : decode cX3_findShift 46 = .ok (.isub, 1) := by decide +kernel
theorem dX3_findShift_47 : decode cX3_findShift 47 = .ok (.istore 7, 2) := by decide +kernel
theorem dX3_findShift_49 : decode cX3_findShift 49 = .ok (.aload_n 0, 1) := by decide +kernel
theorem dX3_findShift_50 : decode cX3_findShift 50 = .ok (.iload_n 1, 1) := by decide +kernel
theorem dX3_findShift_51 : decode cX3_findShift 51 = .ok (.iload 6, 2) := by decide +kernel
theorem dX3_findShift_53 : decode cX3_findShift 53 = .ok (.iload 7, 2) := by decide +kernel
theorem dX3_findShift_55 : decode cX3_findShift 55 = .ok (.ineg, 1) := by decide +kernel
theorem dX3_findShift_56 : decode cX3_findShift 56 = .ok (.iload 4, 2) := by decide +kernel
theorem dX3_findShift_58 : decode cX3_findShift 58 = .ok (.invokevirtual 49, 3) := by decide +kernel
theorem dX3_findShift_61 : decode cX3_findShift 61 = .ok (.ifCond .ne 22, 3) := by decide +kernel
theorem dX3_findShift_64 : decode cX3_findShift 64 = .ok (.iload 7, 2) := by decide +kernel
theorem dX3_findShift_66 : decode cX3_findShift 66 = .ok (.ifCond .le 19, 3) := by decide +kernel
theorem dX3_findShift_69 : decode cX3_findShift 69 = .ok (.aload_n 0, 1) := by decide +kernel
theorem dX3_findShift_70 : decode cX3_findShift 70 = .ok (.iload_n 1, 1) := by decide +kernel
theorem dX3_findShift_71 : decode cX3_findShift 71 = .ok (.iload 6, 2) := by decide +kernel
theorem dX3_findShift_73 : decode cX3_findShift 73 = .ok (.iload 7, 2) := by decide +kernel
theorem dX3_findShift_75 : decode cX3_findShift 75 = .ok (.iload 4, 2) := by decide +kernel
theorem dX3_findShift_77 : decode cX3_findShift 77 = .ok (.invokevirtual 49, 3) := by decide +kernel
theorem dX3_findShift_80 : decode cX3_findShift 80 = .ok (.ifCond .eq 5, 3) := by decide +kernel
theorem dX3_findShift_83 : decode cX3_findShift 83 = .ok (.iconst 1, 1) := by decide +kernel
theorem dX3_findShift_84 : decode cX3_findShift 84 = .ok (.ireturn, 1) := by decide +kernel
theorem dX3_findShift_85 : decode cX3_findShift 85 = .ok (.iinc 6 1, 3) := by decide +kernel
theorem dX3_findShift_88 : decode cX3_findShift 88 = .ok (.goto (-56), 3) := by decide +kernel
theorem dX3_findShift_91 : decode cX3_findShift 91 = .ok (.iinc 5 1, 3) := by decide +kernel
theorem dX3_findShift_94 : decode cX3_findShift 94 = .ok (.goto (-73), 3) := by decide +kernel
theorem dX3_findShift_97 : decode cX3_findShift 97 = .ok (.iconst 0, 1) := by decide +kernel
theorem dX3_findShift_98 : decode cX3_findShift 98 = .ok (.ireturn, 1) := by decide +kernel
set_option maxRecDepth 100000 in
theorem ggX3_contentPiecesNeeded_X5_look : GoodIn wsX3_contentPiecesNeeded wsX5_look := goodIn_r _ [7, 8, 9, 10, 11, 12, 13, 14, 15, 16, 17, 18, 19, 20, 21, 22, 23, 24, 25, 26, 27, 28, 29, 30, 6, 31, 32, 33, 34, 35, 36, 37, 38, 39, 40, 41, 42, 43, 44, 45, 46, 47, 48, 49, 50, 51, 52, 53, 54, 55, 56, 57, 72, 73, 74, 75, 76, 77, 78, 79, 80, 81] rfl (by decide +kernel)
set_option maxRecDepth 100000 in
theorem gX3_contentPiecesNeeded_X5_look : GoodIn wsX3_contentPiecesNeeded (wsV RX3 53 RX5 yX5_look wsX5_look) := goodIn_app (goodIn_of _ (by decide +kernel)) ggX3_contentPiecesNeeded_X5_look
set_option maxRecDepth 100000 in
theorem ggX3_contentPiecesNeeded_X5_contentPieces : GoodIn wsX3_contentPiecesNeeded wsX5_contentPieces := goodIn_r _ [61, 9, 14, 15, 16, 17, 18, 19, 62, 63, 64, 6, 65, 33, 34, 35, 36, 37, 38, 25, 26, 27, 72, 73, 74, 75, 76, 77, 78, 79, 80, 81] rfl (by decide +kernel)
set_option maxRecDepth 100000 in
theorem gX3_contentPiecesNeeded_X5_contentPieces : GoodIn wsX3_contentPiecesNeeded (wsV RX3 56 RX5 yX5_contentPieces wsX5_contentPieces) := goodIn_app (goodIn_of _ (by decide +kernel)) ggX3_contentPiecesNeeded_X5_contentPieces
set_option maxRecDepth 100000 in
theorem ggX3_contentPiecesNeeded_X1_pieces : GoodIn wsX3_contentPiecesNeeded wsX1_pieces := goodIn_r _ [18, 19, 76, 77, 78, 79, 80, 81] rfl (by decide +kernel)
set_option maxRecDepth 100000 in
theorem gX3_contentPiecesNeeded_X1_pieces : GoodIn wsX3_contentPiecesNeeded (wsV RX3 60 RX1 yX1_pieces wsX1_pieces) := goodIn_app (goodIn_of _ (by decide +kernel)) ggX3_contentPiecesNeeded_X1_pieces
theorem dX3_contentPiecesNeeded_0 : decode cX3_contentPiecesNeeded 0 = .ok (.iload_n 1, 1) := by decide +kernel
theorem dX3_contentPiecesNeeded_1 : decode cX3_contentPiecesNeeded 1 = .ok (.iconst 1, 1) := by decide +kernel
theorem dX3_contentPiecesNeeded_2 : decode cX3_contentPiecesNeeded 2 = .ok (.if_icmp .ne 18, 3) := by decide +kernel
theorem dX3_contentPiecesNeeded_5 : decode cX3_contentPiecesNeeded 5 = .ok (.aload_n 0, 1) := by decide +kernel
theorem dX3_contentPiecesNeeded_6 : decode cX3_contentPiecesNeeded 6 = .ok (.getfield 26, 3) := by decide +kernel
theorem dX3_contentPiecesNeeded_9 : decode cX3_contentPiecesNeeded 9 = .ok (.invokevirtual 53, 3) := by decide +kernel
theorem dX3_contentPiecesNeeded_12 : decode cX3_contentPiecesNeeded 12 = .ok (.aload_n 0, 1) := by decide +kernel
theorem dX3_contentPiecesNeeded_13 : decode cX3_contentPiecesNeeded 13 = .ok (.getfield 26, 3) := by decide +kernel
theorem dX3_contentPiecesNeeded_16 : decode cX3_contentPiecesNeeded 16 = .ok (.invokevirtual 56, 3) := by decide +kernel
theorem dX3_contentPiecesNeeded_19 : decode cX3_contentPiecesNeeded 19 = .ok (.ireturn, 1) := by decide +kernel
theorem dX3_contentPiecesNeeded_20 : decode cX3_contentPiecesNeeded 20 = .ok (.iload_n 1, 1) := by decide +kernel
theorem dX3_contentPiecesNeeded_21 : decode cX3_contentPiecesNeeded 21 = .ok (.iconst 2, 1) := by decide +kernel
theorem dX3_contentPiecesNeeded_22 : decode cX3_contentPiecesNeeded 22 = .ok (.if_icmp .ne 13, 3) := by decide +kernel
theorem dX3_contentPiecesNeeded_25 : decode cX3_contentPiecesNeeded 25 = .ok (.aload_n 0, 1) := by decide +kernel
theorem dX3_contentPiecesNeeded_26 : decode cX3_contentPiecesNeeded 26 = .ok (.getfield 12, 3) := by decide +kernel
theorem dX3_contentPiecesNeeded_29 : decode cX3_contentPiecesNeeded 29 = .ok (.invokevirtual 60, 3) := by decide +kernel
theorem dX3_contentPiecesNeeded_32 : decode cX3_contentPiecesNeeded 32 = .ok (.goto 4, 3) := by decide +kernel
theorem dX3_contentPiecesNeeded_35 : decode cX3_contentPiecesNeeded 35 = .ok (.iconst 0, 1) := by decide +kernel
theorem dX3_contentPiecesNeeded_36 : decode cX3_contentPiecesNeeded 36 = .ok (.ireturn, 1) := by decide +kernel
set_option maxRecDepth 100000 in
theorem ggX3_reaches_X1_canMove : GoodIn wsX3_reaches wsX1_canMove := goodIn_r _ [10, 11, 12, 13, 9, 14, 15, 16, 17, 18, 19, 20, 21, 22, 23, 24, 25, 26, 93, 94, 95, 96, 97, 98] rfl (by decide +kernel)
set_option maxRecDepth 100000 in
theorem gX3_reaches_X1_canMove : GoodIn wsX3_reaches (wsV RX3 63 RX1 yX1_canMove wsX1_canMove) := goodIn_app (goodIn_of _ (by decide +kernel)) ggX3_reaches_X1_canMove
set_option maxRecDepth 100000 in
theorem ggX3_reaches_X1_get : GoodIn wsX3_reaches wsX1_get := goodIn_r _ [14, 15, 93, 94, 95, 96, 97, 98] rfl (by decide +kernel)
set_option maxRecDepth 100000 in
theorem gX3_reaches_X1_get : GoodIn wsX3_reaches (wsV RX3 67 RX1 yX1_get wsX1_get) := goodIn_app (goodIn_of _ (by decide +kernel)) ggX3_reaches_X1_get
set_option maxRecDepth 100000 in
theorem ggX3_reaches_X1_set : GoodIn wsX3_reaches wsX1_set := goodIn_r _ [31, 15, 32, 17, 33, 93, 94, 95, 96, 97, 98] rfl (by decide +kernel)
set_option maxRecDepth 100000 in
theorem gX3_reaches_X1_set : GoodIn wsX3_reaches (wsV RX3 71 RX1 yX1_set wsX1_set) := goodIn_app (goodIn_of _ (by decide +kernel)) ggX3_reaches_X1_set
set_option maxRecDepth 100000 in
theorem ggX3_reaches_X5_look : GoodIn wsX3_reaches wsX5_look := goodIn_r _ [38, 39, 40, 41, 42, 43, 44, 45, 46, 47, 9, 48, 49, 50, 51, 52, 53, 54, 22, 17, 23, 55, 56, 57, 37, 58, 59, 60, 61, 12, 13, 14, 15, 62, 63, 64, 65, 66, 67, 68, 69, 70, 71, 32, 33, 72, 73, 74, 75, 76, 77, 78, 99, 100, 101, 102, 93, 94, 95, 96, 97, 98] rfl (by decide +kernel)
set_option maxRecDepth 100000 in
theorem gX3_reaches_X5_look : GoodIn wsX3_reaches (wsV RX3 53 RX5 yX5_look wsX5_look) := goodIn_app (goodIn_of _ (by decide +kernel)) ggX3_reaches_X5_look
set_option maxRecDepth 100000 in
theorem ggX3_reaches_X5_isContent : GoodIn wsX3_reaches wsX5_isContent := goodIn_r _ [82, 40, 60, 61, 12, 13, 9, 14, 15, 22, 17, 23, 99, 100, 101, 102, 93, 94, 95, 96, 97, 98] rfl (by decide +kernel)
set_option maxRecDepth 100000 in
theorem gX3_reaches_X5_isContent : GoodIn wsX3_reaches (wsV RX3 75 RX5 yX5_isContent wsX5_isContent) := goodIn_app (goodIn_of _ (by decide +kernel)) ggX3_reaches_X5_isContent
set_option maxRecDepth 100000 in
theorem ggX3_reaches_X5_contentPieces : GoodIn wsX3_reaches wsX5_contentPieces := goodIn_r _ [86, 40, 45, 46, 47, 9, 48, 49, 87, 80, 81, 37, 82, 60, 61, 12, 13, 14, 15, 22, 17, 23, 99, 100, 101, 102, 93, 94, 95, 96, 97, 98] rfl (by decide +kernel)
set_option maxRecDepth 100000 in
theorem gX3_reaches_X5_contentPieces : GoodIn wsX3_reaches (wsV RX3 56 RX5 yX5_contentPieces wsX5_contentPieces) := goodIn_app (goodIn_of _ (by decide +kernel)) ggX3_reaches_X5_contentPieces
theorem dX3_reaches_0 : decode cX3_reaches 0 = .ok (.aload_n 0, 1) := by decide +kernel
theorem dX3_reaches_1 : decode cX3_reaches 1 = .ok (.getfield 12, 3) := by decide +kernel
theorem dX3_reaches_4 : decode cX3_reaches 4 = .ok (.iload_n 1, 1) := by decide +kernel
theorem dX3_reaches_5 : decode cX3_reaches 5 = .ok (.iload_n 2, 1) := by decide +kernel
theorem dX3_reaches_6 : decode cX3_reaches 6 = .ok (.iload_n 3, 1) := by decide +kernel
theorem dX3_reaches_7 : decode cX3_reaches 7 = .ok (.invokevirtual 63, 3) := by decide +kernel
theorem dX3_reaches_10 : decode cX3_reaches 10 = .ok (.ifCond .ne 5, 3) := by decide +kernel
theorem dX3_reaches_13 : decode cX3_reaches 13 = .ok (.iconst 0, 1) := by decide +kernel
theorem dX3_reaches_14 : decode cX3_reaches 14 = .ok (.ireturn, 1) := by decide +kernel
theorem dX3_reaches_15 : decode cX3_reaches 15 = .ok (.aload_n 0, 1) := by decide +kernel
theorem dX3_reaches_16 : decode cX3_reaches 16 = .ok (.iload_n 2, 1) := by decide +kernel
theorem dX3_reaches_17 : decode cX3_reaches 17 = .ok (.putfield 30, 3) := by decide +kernel
theorem dX3_reaches_20 : decode cX3_reaches 20 = .ok (.aload_n 0, 1) := by decide +kernel
theorem dX3_reaches_21 : decode cX3_reaches 21 = .ok (.iload_n 3, 1) := by decide +kernel
theorem dX3_reaches_22 : decode cX3_reaches 22 = .ok (.putfield 34, 3) := by decide +kernel
theorem dX3_reaches_25 : decode cX3_reaches 25 = .ok (.aload_n 0, 1) := by decide +kernel
theorem dX3_reaches_26 : decode cX3_reaches 26 = .ok (.getfield 18, 3) := by decide +kernel
theorem dX3_reaches_29 : decode cX3_reaches 29 = .ok (.iload_n 1, 1) := by decide +kernel
theorem dX3_reaches_30 : decode cX3_reaches 30 = .ok (.iconst 0, 1) := by decide +kernel
theorem dX3_reaches_31 : decode cX3_reaches 31 = .ok (.aload_n 0, 1) := by decide +kernel
theorem dX3_reaches_32 : decode cX3_reaches 32 = .ok (.getfield 12, 3) := by decide +kernel
theorem dX3_reaches_35 : decode cX3_reaches 35 = .ok (.iload_n 1, 1) := by decide +kernel
theorem dX3_reaches_36 : decode cX3_reaches 36 = .ok (.iconst 0, 1) := by decide +kernel
theorem dX3_reaches_37 : decode cX3_reaches 37 = .ok (.invokevirtual 67, 3) := by decide +kernel
theorem dX3_reaches_40 : decode cX3_reaches 40 = .ok (.iload_n 2, 1) := by decide +kernel
theorem dX3_reaches_41 : decode cX3_reaches 41 = .ok (.iadd, 1) := by decide +kernel
theorem dX3_reaches_42 : decode cX3_reaches 42 = .ok (.invokevirtual 71, 3) := by decide +kernel
theorem dX3_reaches_45 : decode cX3_reaches 45 = .ok (.aload_n 0, 1) := by decide +kernel
theorem dX3_reaches_46 : decode cX3_reaches 46 = .ok (.getfield 18, 3) := by decide +kernel
theorem dX3_reaches_49 : decode cX3_reaches 49 = .ok (.iload_n 1, 1) := by decide +kernel
theorem dX3_reaches_50 : decode cX3_reaches 50 = .ok (.iconst 1, 1) := by decide +kernel
theorem dX3_reaches_51 : decode cX3_reaches 51 = .ok (.aload_n 0, 1) := by decide +kernel
theorem dX3_reaches_52 : decode cX3_reaches 52 = .ok (.getfield 12, 3) := by decide +kernel
theorem dX3_reaches_55 : decode cX3_reaches 55 = .ok (.iload_n 1, 1) := by decide +kernel
theorem dX3_reaches_56 : decode cX3_reaches 56 = .ok (.iconst 1, 1) := by decide +kernel
theorem dX3_reaches_57 : decode cX3_reaches 57 = .ok (.invokevirtual 67, 3) := by decide +kernel
theorem dX3_reaches_60 : decode cX3_reaches 60 = .ok (.iload_n 3, 1) := by decide +kernel
theorem dX3_reaches_61 : decode cX3_reaches 61 = .ok (.iadd, 1) := by decide +kernel
theorem dX3_reaches_62 : decode cX3_reaches 62 = .ok (.invokevirtual 71, 3) := by decide +kernel
theorem dX3_reaches_65 : decode cX3_reaches 65 = .ok (.aload_n 0, 1) := by decide +kernel
theorem dX3_reaches_66 : decode cX3_reaches 66 = .ok (.getfield 26, 3) := by decide +kernel
theorem dX3_reaches_69 : decode cX3_reaches 69 = .ok (.invokevirtual 53, 3) := by decide +kernel
theorem dX3_reaches_72 : decode cX3_reaches 72 = .ok (.aload_n 0, 1) := by decide +kernel
theorem dX3_reaches_73 : decode cX3_reaches 73 = .ok (.getfield 26, 3) := by decide +kernel
theorem dX3_reaches_76 : decode cX3_reaches 76 = .ok (.iload_n 1, 1) := by decide +kernel
theorem dX3_reaches_77 : decode cX3_reaches 77 = .ok (.invokevirtual 75, 3) := by decide +kernel
theorem dX3_reaches_80 : decode cX3_reaches 80 = .ok (.ifCond .eq 19, 3) := by decide +kernel
theorem dX3_reaches_83 : decode cX3_reaches 83 = .ok (.aload_n 0, 1) := by decide +kernel
theorem dX3_reaches_84 : decode cX3_reaches 84 = .ok (.getfield 26, 3) := by decide +kernel
theorem dX3_reaches_87 : decode cX3_reaches 87 = .ok (.invokevirtual 56, 3) := by decide +kernel
theorem dX3_reaches_90 : decode cX3_reaches 90 = .ok (.iload 4, 2) := by decide +kernel
theorem dX3_reaches_92 : decode cX3_reaches 92 = .ok (.if_icmp .lt 7, 3) := by decide +kernel
theorem dX3_reaches_95 : decode cX3_reaches 95 = .ok (.iconst 1, 1) := by decide +kernel
theorem dX3_reaches_96 : decode cX3_reaches 96 = .ok (.goto 4, 3) := by decide +kernel
theorem dX3_reaches_99 : decode cX3_reaches 99 = .ok (.iconst 0, 1) := by decide +kernel
theorem dX3_reaches_100 : decode cX3_reaches 100 = .ok (.ireturn, 1) := by decide +kernel
set_option maxRecDepth 100000 in
theorem ggX3_lowestLayer_X1_take : GoodIn wsX3_lowestLayer wsX1_take := goodIn_r _ [8, 9, 10, 11, 12, 13, 14, 15, 16, 17, 18, 86, 87, 88, 89, 90, 91] rfl (by decide +kernel)
set_option maxRecDepth 100000 in
theorem gX3_lowestLayer_X1_take : GoodIn wsX3_lowestLayer (wsV RX3 43 RX1 yX1_take wsX1_take) := goodIn_app (goodIn_of _ (by decide +kernel)) ggX3_lowestLayer_X1_take
set_option maxRecDepth 100000 in
theorem ggX3_lowestLayer_X1_pieces : GoodIn wsX3_lowestLayer wsX1_pieces := goodIn_r _ [22, 17, 86, 87, 88, 89, 90, 91] rfl (by decide +kernel)
set_option maxRecDepth 100000 in
theorem gX3_lowestLayer_X1_pieces : GoodIn wsX3_lowestLayer (wsV RX3 60 RX1 yX1_pieces wsX1_pieces) := goodIn_app (goodIn_of _ (by decide +kernel)) ggX3_lowestLayer_X1_pieces
set_option maxRecDepth 100000 in
theorem ggX3_lowestLayer_X1_putIntoLayer : GoodIn wsX3_lowestLayer wsX1_putIntoLayer := goodIn_r _ [26, 14, 27, 28, 29, 7, 30, 17, 31, 32, 33, 34, 35, 86, 87, 88, 89, 90, 91] rfl (by decide +kernel)
set_option maxRecDepth 100000 in
theorem gX3_lowestLayer_X1_putIntoLayer : GoodIn wsX3_lowestLayer (wsV RX3 79 RX1 yX1_putIntoLayer wsX1_putIntoLayer) := goodIn_app (goodIn_of _ (by decide +kernel)) ggX3_lowestLayer_X1_putIntoLayer
set_option maxRecDepth 100000 in
theorem ggX3_lowestLayer_X5_look : GoodIn wsX3_lowestLayer wsX5_look := goodIn_r _ [40, 41, 42, 43, 44, 45, 46, 47, 20, 21, 7, 22, 17, 48, 49, 50, 51, 14, 31, 32, 33, 52, 53, 54, 39, 55, 56, 57, 58, 59, 60, 61, 9, 62, 63, 64, 65, 15, 66, 67, 68, 69, 16, 34, 35, 70, 71, 72, 73, 74, 75, 76, 92, 93, 94, 95, 86, 87, 88, 89, 90, 91] rfl (by decide +kernel)
set_option maxRecDepth 100000 in
theorem gX3_lowestLayer_X5_look : GoodIn wsX3_lowestLayer (wsV RX3 53 RX5 yX5_look wsX5_look) := goodIn_app (goodIn_of _ (by decide +kernel)) ggX3_lowestLayer_X5_look
set_option maxRecDepth 100000 in
theorem ggX3_lowestLayer_X5_isContent : GoodIn wsX3_lowestLayer wsX5_isContent := goodIn_r _ [80, 42, 57, 58, 59, 60, 7, 61, 9, 31, 32, 33, 92, 93, 94, 95, 86, 87, 88, 89, 90, 91] rfl (by decide +kernel)
set_option maxRecDepth 100000 in
theorem gX3_lowestLayer_X5_isContent : GoodIn wsX3_lowestLayer (wsV RX3 75 RX5 yX5_isContent wsX5_isContent) := goodIn_app (goodIn_of _ (by decide +kernel)) ggX3_lowestLayer_X5_isContent
theorem dX3_lowestLayer_0 : decode cX3_lowestLayer 0 = .ok (.aload_n 0, 1) := by decide +kernel
theorem dX3_lowestLayer_1 : decode cX3_lowestLayer 1 = .ok (.getfield 18, 3) := by decide +kernel
theorem dX3_lowestLayer_4 : decode cX3_lowestLayer 4 = .ok (.aload_n 0, 1) := by decide +kernel
theorem dX3_lowestLayer_5 : decode cX3_lowestLayer 5 = .ok (.getfield 12, 3) := by decide +kernel
theorem dX3_lowestLayer_8 : decode cX3_lowestLayer 8 = .ok (.invokevirtual 43, 3) := by decide +kernel
theorem dX3_lowestLayer_11 : decode cX3_lowestLayer 11 = .ok (.iconst 0, 1) := by decide +kernel
theorem dX3_lowestLayer_12 : decode cX3_lowestLayer 12 = .ok (.istore_n 2, 1) := by decide +kernel
theorem dX3_lowestLayer_13 : decode cX3_lowestLayer 13 = .ok (.iload_n 2, 1) := by decide +kernel
theorem dX3_lowestLayer_14 : decode cX3_lowestLayer 14 = .ok (.aload_n 0, 1) := by decide +kernel
theorem dX3_lowestLayer_15 : decode cX3_lowestLayer 15 = .ok (.getfield 12, 3) := by decide +kernel
theorem dX3_lowestLayer_18 : decode cX3_lowestLayer 18 = .ok (.invokevirtual 60, 3) := by decide +kernel
theorem dX3_lowestLayer_21 : decode cX3_lowestLayer 21 = .ok (.if_icmp .ge 39, 3) := by decide +kernel
theorem dX3_lowestLayer_24 : decode cX3_lowestLayer 24 = .ok (.aload_n 0, 1) := by decide +kernel
theorem dX3_lowestLayer_25 : decode cX3_lowestLayer 25 = .ok (.getfield 18, 3) := by decide +kernel
theorem dX3_lowestLayer_28 : decode cX3_lowestLayer 28 = .ok (.iload_n 1, 1) := by decide +kernel
theorem dX3_lowestLayer_29 : decode cX3_lowestLayer 29 = .ok (.iload_n 2, 1) := by decide +kernel
theorem dX3_lowestLayer_30 : decode cX3_lowestLayer 30 = .ok (.invokevirtual 79, 3) := by decide +kernel
theorem dX3_lowestLayer_33 : decode cX3_lowestLayer 33 = .ok (.pop, 1) := by decide +kernel
theorem dX3_lowestLayer_34 : decode cX3_lowestLayer 34 = .ok (.aload_n 0, 1) := by decide +kernel
theorem dX3_lowestLayer_35 : decode cX3_lowestLayer 35 = .ok (.getfield 26, 3) := by decide +kernel
theorem dX3_lowestLayer_38 : decode cX3_lowestLayer 38 = .ok (.invokevirtual 53, 3) := by decide +kernel
theorem dX3_lowestLayer_41 : decode cX3_lowestLayer 41 = .ok (.aload_n 0, 1) := by decide +kernel
theorem dX3_lowestLayer_42 : decode cX3_lowestLayer 42 = .ok (.getfield 26, 3) := by decide +kernel
theorem dX3_lowestLayer_45 : decode cX3_lowestLayer 45 = .ok (.iload_n 1, 1) := by decide +kernel
theorem dX3_lowestLayer_46 : decode cX3_lowestLayer 46 = .ok (.invokevirtual 75, 3) := by decide +kernel
theorem dX3_lowestLayer_49 : decode cX3_lowestLayer 49 = .ok (.ifCond .eq 5, 3) := by decide +kernel
theorem dX3_lowestLayer_52 : decode cX3_lowestLayer 52 = .ok (.iload_n 2, 1) := by decide +kernel
theorem dX3_lowestLayer_53 : decode cX3_lowestLayer 53 = .ok (.ireturn, 1) := by decide +kernel
theorem dX3_lowestLayer_54 : decode cX3_lowestLayer 54 = .ok (.iinc 2 1, 3) := by decide +kernel
theorem dX3_lowestLayer_57 : decode cX3_lowestLayer 57 = .ok (.goto (-44), 3) := by decide +kernel
theorem dX3_lowestLayer_60 : decode cX3_lowestLayer 60 = .ok (.bipush (-109), 2) := by decide +kernel
theorem dX3_lowestLayer_62 : decode cX3_lowestLayer 62 = .ok (.ireturn, 1) := by decide +kernel
set_option maxRecDepth 100000 in
theorem ggX3_worstPiece_X1_pieces : GoodIn wsX3_worstPiece wsX1_pieces := goodIn_r _ [8, 9, 94, 95, 96, 97, 98, 99] rfl (by decide +kernel)
set_option maxRecDepth 100000 in
theorem gX3_worstPiece_X1_pieces : GoodIn wsX3_worstPiece (wsV RX3 60 RX1 yX1_pieces wsX1_pieces) := goodIn_app (goodIn_of _ (by decide +kernel)) ggX3_worstPiece_X1_pieces
set_option maxRecDepth 100000 in
theorem ggX3_worstPiece_X1_take : GoodIn wsX3_worstPiece wsX1_take := goodIn_r _ [13, 14, 15, 16, 17, 18, 19, 20, 21, 9, 22, 94, 95, 96, 97, 98, 99] rfl (by decide +kernel)
set_option maxRecDepth 100000 in
theorem gX3_worstPiece_X1_take : GoodIn wsX3_worstPiece (wsV RX3 43 RX1 yX1_take wsX1_take) := goodIn_app (goodIn_of _ (by decide +kernel)) ggX3_worstPiece_X1_take
set_option maxRecDepth 100000 in
theorem ggX3_worstPiece_X1_remove : GoodIn wsX3_worstPiece wsX1_remove := goodIn_r _ [26, 9, 19, 14, 27, 28, 29, 7, 30, 31, 32, 33, 34, 35, 36, 37, 38, 39, 94, 95, 96, 97, 98, 99] rfl (by decide +kernel)
set_option maxRecDepth 100000 in
theorem gX3_worstPiece_X1_remove : GoodIn wsX3_worstPiece (wsV RX3 82 RX1 yX1_remove wsX1_remove) := goodIn_app (goodIn_of _ (by decide +kernel)) ggX3_worstPiece_X1_remove
set_option maxRecDepth 100000 in
theorem ggX3_worstPiece_X5_look : GoodIn wsX3_worstPiece wsX5_look := goodIn_r _ [44, 45, 46, 47, 48, 49, 50, 51, 5, 6, 7, 8, 9, 52, 53, 54, 55, 19, 35, 36, 37, 56, 57, 58, 43, 59, 60, 61, 62, 63, 64, 65, 14, 66, 67, 68, 69, 20, 70, 71, 72, 73, 21, 38, 39, 74, 75, 76, 77, 78, 79, 80, 100, 101, 102, 103, 94, 95, 96, 97, 98, 99] rfl (by decide +kernel)
set_option maxRecDepth 100000 in
theorem gX3_worstPiece_X5_look : GoodIn wsX3_worstPiece (wsV RX3 53 RX5 yX5_look wsX5_look) := goodIn_app (goodIn_of _ (by decide +kernel)) ggX3_worstPiece_X5_look
set_option maxRecDepth 100000 in
theorem ggX3_worstPiece_X5_contentPieces : GoodIn wsX3_worstPiece wsX5_contentPieces := goodIn_r _ [84, 46, 51, 5, 6, 7, 8, 9, 85, 86, 87, 43, 88, 61, 62, 63, 64, 65, 14, 35, 36, 37, 100, 101, 102, 103, 94, 95, 96, 97, 98, 99] rfl (by decide +kernel)
set_option maxRecDepth 100000 in
theorem gX3_worstPiece_X5_contentPieces : GoodIn wsX3_worstPiece (wsV RX3 56 RX5 yX5_contentPieces wsX5_contentPieces) := goodIn_app (goodIn_of _ (by decide +kernel)) ggX3_worstPiece_X5_contentPieces
theorem dX3_worstPiece_0 : decode cX3_worstPiece 0 = .ok (.bipush (-109), 2) := by decide +kernel
theorem dX3_worstPiece_2 : decode cX3_worstPiece 2 = .ok (.istore_n 1, 1) := by decide +kernel
theorem dX3_worstPiece_3 : decode cX3_worstPiece 3 = .ok (.iconst (-1), 1) := by decide +kernel
theorem dX3_worstPiece_4 : decode cX3_worstPiece 4 = .ok (.istore_n 2, 1) := by decide +kernel
theorem dX3_worstPiece_5 : decode cX3_worstPiece 5 = .ok (.iconst 0, 1) := by decide +kernel
theorem dX3_worstPiece_6 : decode cX3_worstPiece 6 = .ok (.istore_n 3, 1) := by decide +kernel
theorem dX3_worstPiece_7 : decode cX3_worstPiece 7 = .ok (.iload_n 3, 1) := by decide +kernel
theorem dX3_worstPiece_8 : decode cX3_worstPiece 8 = .ok (.aload_n 0, 1) := by decide +kernel
theorem dX3_worstPiece_9 : decode cX3_worstPiece 9 = .ok (.getfield 12, 3) := by decide +kernel
theorem dX3_worstPiece_12 : decode cX3_worstPiece 12 = .ok (.invokevirtual 60, 3) := by decide +kernel
theorem dX3_worstPiece_15 : decode cX3_worstPiece 15 = .ok (.if_icmp .ge 55, 3) := by decide +kernel
theorem dX3_worstPiece_18 : decode cX3_worstPiece 18 = .ok (.aload_n 0, 1) := by decide +kernel
theorem dX3_worstPiece_19 : decode cX3_worstPiece 19 = .ok (.getfield 18, 3) := by decide +kernel
theorem dX3_worstPiece_22 : decode cX3_worstPiece 22 = .ok (.aload_n 0, 1) := by decide +kernel
theorem dX3_worstPiece_23 : decode cX3_worstPiece 23 = .ok (.getfield 12, 3) := by decide +kernel
theorem dX3_worstPiece_26 : decode cX3_worstPiece 26 = .ok (.invokevirtual 43, 3) := by decide +kernel
theorem dX3_worstPiece_29 : decode cX3_worstPiece 29 = .ok (.aload_n 0, 1) := by decide +kernel
theorem dX3_worstPiece_30 : decode cX3_worstPiece 30 = .ok (.getfield 18, 3) := by decide +kernel
theorem dX3_worstPiece_33 : decode cX3_worstPiece 33 = .ok (.iload_n 3, 1) := by decide +kernel
theorem dX3_worstPiece_34 : decode cX3_worstPiece 34 = .ok (.invokevirtual 82, 3) := by decide +kernel
theorem dX3_worstPiece_37 : decode cX3_worstPiece 37 = .ok (.aload_n 0, 1) := by decide +kernel
theorem dX3_worstPiece_38 : decode cX3_worstPiece 38 = .ok (.getfield 26, 3) := by decide +kernel
theorem dX3_worstPiece_41 : decode cX3_worstPiece 41 = .ok (.invokevirtual 53, 3) := by decide +kernel
theorem dX3_worstPiece_44 : decode cX3_worstPiece 44 = .ok (.aload_n 0, 1) := by decide +kernel
theorem dX3_worstPiece_45 : decode cX3_worstPiece 45 = .ok (.getfield 26, 3) := by decide +kernel
theorem dX3_worstPiece_48 : decode cX3_worstPiece 48 = .ok (.invokevirtual 56, 3) := by decide +kernel
theorem dX3_worstPiece_51 : decode cX3_worstPiece 51 = .ok (.istore 4, 2) := by decide +kernel
theorem dX3_worstPiece_53 : decode cX3_worstPiece 53 = .ok (.iload 4, 2) := by decide +kernel
theorem dX3_worstPiece_55 : decode cX3_worstPiece 55 = .ok (.iload_n 2, 1) := by decide +kernel
theorem dX3_worstPiece_56 : decode cX3_worstPiece 56 = .ok (.if_icmp .le 8, 3) := by decide +kernel
theorem dX3_worstPiece_59 : decode cX3_worstPiece 59 = .ok (.iload 4, 2) := by decide +kernel
theorem dX3_worstPiece_61 : decode cX3_worstPiece 61 = .ok (.istore_n 2, 1) := by decide +kernel
theorem dX3_worstPiece_62 : decode cX3_worstPiece 62 = .ok (.iload_n 3, 1) := by decide +kernel
theorem dX3_worstPiece_63 : decode cX3_worstPiece 63 = .ok (.istore_n 1, 1) := by decide +kernel
theorem dX3_worstPiece_64 : decode cX3_worstPiece 64 = .ok (.iinc 3 1, 3) := by decide +kernel
theorem dX3_worstPiece_67 : decode cX3_worstPiece 67 = .ok (.goto (-60), 3) := by decide +kernel
theorem dX3_worstPiece_70 : decode cX3_worstPiece 70 = .ok (.iload_n 1, 1) := by decide +kernel
theorem dX3_worstPiece_71 : decode cX3_worstPiece 71 = .ok (.ireturn, 1) := by decide +kernel
theorem dX4_init_0 : decode cX4_init 0 = .ok (.aload_n 0, 1) := by decide +kernel
theorem dX4_init_1 : decode cX4_init 1 = .ok (.invokespecial 3, 3) := by decide +kernel
theorem dX4_init_4 : decode cX4_init 4 = .ok (.aload_n 0, 1) := by decide +kernel
theorem dX4_init_5 : decode cX4_init 5 = .ok (.aload_n 1, 1) := by decide +kernel
theorem dX4_init_6 : decode cX4_init 6 = .ok (.putfield 9, 3) := by decide +kernel
theorem dX4_init_9 : decode cX4_init 9 = .ok (.aload_n 0, 1) := by decide +kernel
theorem dX4_init_10 : decode cX4_init 10 = .ok (.iconst 0, 1) := by decide +kernel
theorem dX4_init_11 : decode cX4_init 11 = .ok (.putfield 15, 3) := by decide +kernel
theorem dX4_init_14 : decode cX4_init 14 = .ok (.aload_n 0, 1) := by decide +kernel
theorem dX4_init_15 : decode cX4_init 15 = .ok (.iconst 0, 1) := by decide +kernel
theorem dX4_init_16 : decode cX4_init 16 = .ok (.putfield 19, 3) := by decide +kernel
theorem dX4_init_19 : decode cX4_init 19 = .ok (.aload_n 0, 1) := by decide +kernel
theorem dX4_init_20 : decode cX4_init 20 = .ok (.iconst 0, 1) := by decide +kernel
theorem dX4_init_21 : decode cX4_init 21 = .ok (.putfield 22, 3) := by decide +kernel
theorem dX4_init_24 : decode cX4_init 24 = .ok (.aload_n 0, 1) := by decide +kernel
theorem dX4_init_25 : decode cX4_init 25 = .ok (.iconst 0, 1) := by decide +kernel
theorem dX4_init_26 : decode cX4_init 26 = .ok (.putfield 25, 3) := by decide +kernel
theorem dX4_init_29 : decode cX4_init 29 = .ok (.return_, 1) := by decide +kernel
theorem dX5_init_0 : decode cX5_init 0 = .ok (.aload_n 0, 1) := by decide +kernel
theorem dX5_init_1 : decode cX5_init 1 = .ok (.invokespecial 3, 3) := by decide +kernel
theorem dX5_init_4 : decode cX5_init 4 = .ok (.aload_n 0, 1) := by decide +kernel
theorem dX5_init_5 : decode cX5_init 5 = .ok (.aload_n 1, 1) := by decide +kernel
theorem dX5_init_6 : decode cX5_init 6 = .ok (.putfield 9, 3) := by decide +kernel
theorem dX5_init_9 : decode cX5_init 9 = .ok (.aload_n 0, 1) := by decide +kernel
theorem dX5_init_10 : decode cX5_init 10 = .ok (.sipush 144, 3) := by decide +kernel
theorem dX5_init_13 : decode cX5_init 13 = .ok (.newarray .int, 2) := by decide +kernel
theorem dX5_init_15 : decode cX5_init 15 = .ok (.putfield 15, 3) := by decide +kernel
theorem dX5_init_18 : decode cX5_init 18 = .ok (.aload_n 0, 1) := by decide +kernel
theorem dX5_init_19 : decode cX5_init 19 = .ok (.bipush 24, 2) := by decide +kernel
theorem dX5_init_21 : decode cX5_init 21 = .ok (.newarray .int, 2) := by decide +kernel
theorem dX5_init_23 : decode cX5_init 23 = .ok (.putfield 19, 3) := by decide +kernel
theorem dX5_init_26 : decode cX5_init 26 = .ok (.aload_n 0, 1) := by decide +kernel
theorem dX5_init_27 : decode cX5_init 27 = .ok (.bipush 12, 2) := by decide +kernel
theorem dX5_init_29 : decode cX5_init 29 = .ok (.newarray .int, 2) := by decide +kernel
theorem dX5_init_31 : decode cX5_init 31 = .ok (.putfield 22, 3) := by decide +kernel
theorem dX5_init_34 : decode cX5_init 34 = .ok (.return_, 1) := by decide +kernel
set_option maxRecDepth 100000 in
theorem ggX5_look_J7_fill_53178 : GoodIn wsX5_look wsJ7_fill_53178 := goodIn_r _ [6] rfl (by decide +kernel)
set_option maxRecDepth 100000 in
theorem gX5_look_J7_fill_53178 : GoodIn wsX5_look (va_wsS RX5 25 yJ7_fill_53178 wsJ7_fill_53178) := goodIn_app (goodIn_of _ (by decide +kernel)) ggX5_look_J7_fill_53178
set_option maxRecDepth 100000 in
theorem ggX5_look_X1_pieces : GoodIn wsX5_look wsX1_pieces := goodIn_r _ [11, 12, 56, 57, 58, 59, 60, 61] rfl (by decide +kernel)
set_option maxRecDepth 100000 in
theorem gX5_look_X1_pieces : GoodIn wsX5_look (wsV RX5 31 RX1 yX1_pieces wsX1_pieces) := goodIn_app (goodIn_of _ (by decide +kernel)) ggX5_look_X1_pieces
set_option maxRecDepth 100000 in
theorem ggX5_look_X1_pieceIn : GoodIn wsX5_look wsX1_pieceIn := goodIn_r _ [16, 17, 18, 19, 20, 56, 57, 58, 59, 60, 61] rfl (by decide +kernel)
set_option maxRecDepth 100000 in
theorem gX5_look_X1_pieceIn : GoodIn wsX5_look (wsV RX5 37 RX1 yX1_pieceIn wsX1_pieceIn) := goodIn_app (goodIn_of _ (by decide +kernel)) ggX5_look_X1_pieceIn
set_option maxRecDepth 100000 in
theorem ggX5_look_X5_lookAt : GoodIn wsX5_look wsX5_lookAt := goodIn_r _ [25, 2, 1, 26, 27, 28, 29, 30, 10, 31, 32, 33, 34, 35, 36, 37, 18, 19, 20, 38, 39, 40, 41, 42, 43, 44, 45, 46, 47, 48, 49, 50, 51, 52, 53, 54, 55, 56, 57, 58, 59, 60, 61] rfl (by decide +kernel)
set_option maxRecDepth 100000 in
theorem gX5_look_X5_lookAt : GoodIn wsX5_look (wsV RX5 41 RX5 yX5_lookAt wsX5_lookAt) := goodIn_app (goodIn_of _ (by decide +kernel)) ggX5_look_X5_lookAt
theorem dX5_look_0 : decode cX5_look 0 = .ok (.aload_n 0, 1) := by decide +kernel
theorem dX5_look_1 : decode cX5_look 1 = .ok (.getfield 19, 3) := by decide +kernel
theorem dX5_look_4 : decode cX5_look 4 = .ok (.iconst 0, 1) := by decide +kernel
theorem dX5_look_5 : decode cX5_look 5 = .ok (.invokestatic 25, 3) := by decide +kernel
theorem dX5_look_8 : decode cX5_look 8 = .ok (.aload_n 0, 1) := by decide +kernel
theorem dX5_look_9 : decode cX5_look 9 = .ok (.getfield 9, 3) := by decide +kernel
theorem dX5_look_12 : decode cX5_look 12 = .ok (.invokevirtual 31, 3) := by decide +kernel
theorem dX5_look_15 : decode cX5_look 15 = .ok (.iconst 1, 1) := by decide +kernel
theorem dX5_look_16 : decode cX5_look 16 = .ok (.isub, 1) := by decide +kernel
theorem dX5_look_17 : decode cX5_look 17 = .ok (.istore_n 1, 1) := by decide +kernel
theorem dX5_look_18 : decode cX5_look 18 = .ok (.iload_n 1, 1) := by decide +kernel
theorem dX5_look_19 : decode cX5_look 19 = .ok (.ifCond .lt 21, 3) := by decide +kernel
theorem dX5_look_22 : decode cX5_look 22 = .ok (.aload_n 0, 1) := by decide +kernel
theorem dX5_look_23 : decode cX5_look 23 = .ok (.aload_n 0, 1) := by decide +kernel
theorem dX5_look_24 : decode cX5_look 24 = .ok (.getfield 9, 3) := by decide +kernel
theorem dX5_look_27 : decode cX5_look 27 = .ok (.iload_n 1, 1) := by decide +kernel
theorem dX5_look_28 : decode cX5_look 28 = .ok (.invokevirtual 37, 3) := by decide +kernel
theorem dX5_look_31 : decode cX5_look 31 = .ok (.invokevirtual 41, 3) := by decide +kernel
theorem dX5_look_34 : decode cX5_look 34 = .ok (.iinc 1 (-1), 3) := by decide +kernel
theorem dX5_look_37 : decode cX5_look 37 = .ok (.goto (-19), 3) := by decide +kernel
theorem dX5_look_40 : decode cX5_look 40 = .ok (.return_, 1) := by decide +kernel
set_option maxRecDepth 100000 in
theorem ggX5_lookAt_X1_get : GoodIn wsX5_lookAt wsX1_get := goodIn_r _ [9, 10, 37, 38, 39, 40, 41, 42] rfl (by decide +kernel)
set_option maxRecDepth 100000 in
theorem gX5_lookAt_X1_get : GoodIn wsX5_lookAt (wsV RX5 45 RX1 yX1_get wsX1_get) := goodIn_app (goodIn_of _ (by decide +kernel)) ggX5_lookAt_X1_get
