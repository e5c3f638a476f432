theorem dX5_isWholly_7 : decode cX5_isWholly 7 = .ok (.invokevirtual 49, 3) := by decide +kernel
theorem dX5_isWholly_10 : decode cX5_isWholly 10 = .ok (.istore 6, 2) := by decide +kernel
theorem dX5_isWholly_12 : decode cX5_isWholly 12 = .ok (.iconst 0, 1) := by decide +kernel
theorem dX5_isWholly_13 : decode cX5_isWholly 13 = .ok (.istore 7, 2) := by decide +kernel
theorem dX5_isWholly_15 : decode cX5_isWholly 15 = .ok (.iload_n 3, 1) := by decide +kernel
theorem dX5_isWholly_16 : decode cX5_isWholly 16 = .ok (.istore 8, 2) := by decide +kernel
theorem dX5_isWholly_18 : decode cX5_isWholly 18 = .ok (.iload 8, 2) := by decide +kernel
theorem dX5_isWholly_20 : decode cX5_isWholly 20 = .ok (.iload_n 3, 1) := by decide +kernel
theorem dX5_isWholly_21 : decode cX5_isWholly 21 = .ok (.iload 5, 2) := by decide +kernel
theorem dX5_isWholly_23 : decode cX5_isWholly 23 = .ok (.iadd, 1) := by decide +kernel
theorem dX5_isWholly_24 : decode cX5_isWholly 24 = .ok (.if_icmp .ge 27, 3) := by decide +kernel
theorem dX5_isWholly_27 : decode cX5_isWholly 27 = .ok (.iload 7, 2) := by decide +kernel
theorem dX5_isWholly_29 : decode cX5_isWholly 29 = .ok (.aload_n 0, 1) := by decide +kernel
theorem dX5_isWholly_30 : decode cX5_isWholly 30 = .ok (.iload_n 1, 1) := by decide +kernel
theorem dX5_isWholly_31 : decode cX5_isWholly 31 = .ok (.iload 8, 2) := by decide +kernel
theorem dX5_isWholly_33 : decode cX5_isWholly 33 = .ok (.invokevirtual 78, 3) := by decide +kernel
theorem dX5_isWholly_36 : decode cX5_isWholly 36 = .ok (.iload 6, 2) := by decide +kernel
theorem dX5_isWholly_38 : decode cX5_isWholly 38 = .ok (.iand, 1) := by decide +kernel
theorem dX5_isWholly_39 : decode cX5_isWholly 39 = .ok (.invokestatic 64, 3) := by decide +kernel
theorem dX5_isWholly_42 : decode cX5_isWholly 42 = .ok (.iadd, 1) := by decide +kernel
theorem dX5_isWholly_43 : decode cX5_isWholly 43 = .ok (.istore 7, 2) := by decide +kernel
theorem dX5_isWholly_45 : decode cX5_isWholly 45 = .ok (.iinc 8 1, 3) := by decide +kernel
theorem dX5_isWholly_48 : decode cX5_isWholly 48 = .ok (.goto (-30), 3) := by decide +kernel
theorem dX5_isWholly_51 : decode cX5_isWholly 51 = .ok (.iload 7, 2) := by decide +kernel
theorem dX5_isWholly_53 : decode cX5_isWholly 53 = .ok (.iload 4, 2) := by decide +kernel
theorem dX5_isWholly_55 : decode cX5_isWholly 55 = .ok (.iload 5, 2) := by decide +kernel
theorem dX5_isWholly_57 : decode cX5_isWholly 57 = .ok (.imul, 1) := by decide +kernel
theorem dX5_isWholly_58 : decode cX5_isWholly 58 = .ok (.if_icmp .ne 7, 3) := by decide +kernel
theorem dX5_isWholly_61 : decode cX5_isWholly 61 = .ok (.iconst 1, 1) := by decide +kernel
theorem dX5_isWholly_62 : decode cX5_isWholly 62 = .ok (.goto 4, 3) := by decide +kernel
theorem dX5_isWholly_65 : decode cX5_isWholly 65 = .ok (.iconst 0, 1) := by decide +kernel
theorem dX5_isWholly_66 : decode cX5_isWholly 66 = .ok (.ireturn, 1) := by decide +kernel
set_option maxRecDepth 20000 in
theorem ggX5_edgeBetween_X1_rows : GoodIn wsX5_edgeBetween wsX1_rows := goodIn_r _ [6, 7, 47, 48, 49, 50, 51, 52] (by decide +kernel) (by decide +kernel)
set_option maxRecDepth 20000 in
theorem gX5_edgeBetween_X1_rows : GoodIn wsX5_edgeBetween (wsV RX5 75 RX1 yX1_rows wsX1_rows) := goodIn_app (goodIn_of _ (by decide +kernel)) ggX5_edgeBetween_X1_rows
set_option maxRecDepth 20000 in
theorem ggX5_edgeBetween_X5_rowOf : GoodIn wsX5_edgeBetween wsX5_rowOf := goodIn_r _ [12, 1, 13, 14, 15, 16, 17, 5, 18, 19, 20, 21, 22, 23, 24, 25, 26, 27, 7, 28, 29, 30, 31, 32, 33, 34, 35, 43, 44, 45, 46, 47, 48, 49, 50, 51, 52] (by decide +kernel) (by decide +kernel)
set_option maxRecDepth 20000 in
theorem gX5_edgeBetween_X5_rowOf : GoodIn wsX5_edgeBetween (wsV RX5 78 RX5 yX5_rowOf wsX5_rowOf) := goodIn_app (goodIn_of _ (by decide +kernel)) ggX5_edgeBetween_X5_rowOf
set_option maxRecDepth 20000 in
theorem ggX5_edgeBetween_J6_bitCount_0f7a4 : GoodIn wsX5_edgeBetween wsJ6_bitCount_0f7a4 := goodIn_r _ [39, 40, 41, 42] (by decide +kernel) (by decide +kernel)
set_option maxRecDepth 20000 in
theorem gX5_edgeBetween_J6_bitCount_0f7a4 : GoodIn wsX5_edgeBetween (va_wsS RX5 64 yJ6_bitCount_0f7a4 wsJ6_bitCount_0f7a4) := goodIn_app (goodIn_of _ (by decide +kernel)) ggX5_edgeBetween_J6_bitCount_0f7a4
theorem dX5_edgeBetween_0 : decode cX5_edgeBetween 0 = .ok (.iconst 0, 1) := by decide +kernel
theorem dX5_edgeBetween_1 : decode cX5_edgeBetween 1 = .ok (.istore_n 3, 1) := by decide +kernel
theorem dX5_edgeBetween_2 : decode cX5_edgeBetween 2 = .ok (.iconst 0, 1) := by decide +kernel
theorem dX5_edgeBetween_3 : decode cX5_edgeBetween 3 = .ok (.istore 4, 2) := by decide +kernel
theorem dX5_edgeBetween_5 : decode cX5_edgeBetween 5 = .ok (.iload 4, 2) := by decide +kernel
theorem dX5_edgeBetween_7 : decode cX5_edgeBetween 7 = .ok (.aload_n 0, 1) := by decide +kernel
theorem dX5_edgeBetween_8 : decode cX5_edgeBetween 8 = .ok (.getfield 9, 3) := by decide +kernel
theorem dX5_edgeBetween_11 : decode cX5_edgeBetween 11 = .ok (.invokevirtual 75, 3) := by decide +kernel
theorem dX5_edgeBetween_14 : decode cX5_edgeBetween 14 = .ok (.if_icmp .ge 89, 3) := by decide +kernel
theorem dX5_edgeBetween_17 : decode cX5_edgeBetween 17 = .ok (.aload_n 0, 1) := by decide +kernel
theorem dX5_edgeBetween_18 : decode cX5_edgeBetween 18 = .ok (.iload_n 1, 1) := by decide +kernel
theorem dX5_edgeBetween_19 : decode cX5_edgeBetween 19 = .ok (.iload 4, 2) := by decide +kernel
theorem dX5_edgeBetween_21 : decode cX5_edgeBetween 21 = .ok (.invokevirtual 78, 3) := by decide +kernel
theorem dX5_edgeBetween_24 : decode cX5_edgeBetween 24 = .ok (.istore 5, 2) := by decide +kernel
theorem dX5_edgeBetween_26 : decode cX5_edgeBetween 26 = .ok (.aload_n 0, 1) := by decide +kernel
theorem dX5_edgeBetween_27 : decode cX5_edgeBetween 27 = .ok (.iload_n 2, 1) := by decide +kernel
theorem dX5_edgeBetween_28 : decode cX5_edgeBetween 28 = .ok (.iload 4, 2) := by decide +kernel
theorem dX5_edgeBetween_30 : decode cX5_edgeBetween 30 = .ok (.invokevirtual 78, 3) := by decide +kernel
theorem dX5_edgeBetween_33 : decode cX5_edgeBetween 33 = .ok (.istore 6, 2) := by decide +kernel
theorem dX5_edgeBetween_35 : decode cX5_edgeBetween 35 = .ok (.iload_n 3, 1) := by decide +kernel
theorem dX5_edgeBetween_36 : decode cX5_edgeBetween 36 = .ok (.iload 5, 2) := by decide +kernel
theorem dX5_edgeBetween_38 : decode cX5_edgeBetween 38 = .ok (.iload 6, 2) := by decide +kernel
theorem dX5_edgeBetween_40 : decode cX5_edgeBetween 40 = .ok (.iconst 1, 1) := by decide +kernel
theorem dX5_edgeBetween_41 : decode cX5_edgeBetween 41 = .ok (.ishl, 1) := by decide +kernel
theorem dX5_edgeBetween_42 : decode cX5_edgeBetween 42 = .ok (.iand, 1) := by decide +kernel
theorem dX5_edgeBetween_43 : decode cX5_edgeBetween 43 = .ok (.invokestatic 64, 3) := by decide +kernel
theorem dX5_edgeBetween_46 : decode cX5_edgeBetween 46 = .ok (.iadd, 1) := by decide +kernel
theorem dX5_edgeBetween_47 : decode cX5_edgeBetween 47 = .ok (.istore_n 3, 1) := by decide +kernel
theorem dX5_edgeBetween_48 : decode cX5_edgeBetween 48 = .ok (.iload_n 3, 1) := by decide +kernel
theorem dX5_edgeBetween_49 : decode cX5_edgeBetween 49 = .ok (.iload 5, 2) := by decide +kernel
theorem dX5_edgeBetween_51 : decode cX5_edgeBetween 51 = .ok (.iload 6, 2) := by decide +kernel
theorem dX5_edgeBetween_53 : decode cX5_edgeBetween 53 = .ok (.iconst 1, 1) := by decide +kernel
theorem dX5_edgeBetween_54 : decode cX5_edgeBetween 54 = .ok (.ishr, 1) := by decide +kernel
theorem dX5_edgeBetween_55 : decode cX5_edgeBetween 55 = .ok (.iand, 1) := by decide +kernel
theorem dX5_edgeBetween_56 : decode cX5_edgeBetween 56 = .ok (.invokestatic 64, 3) := by decide +kernel
theorem dX5_edgeBetween_59 : decode cX5_edgeBetween 59 = .ok (.iadd, 1) := by decide +kernel
theorem dX5_edgeBetween_60 : decode cX5_edgeBetween 60 = .ok (.istore_n 3, 1) := by decide +kernel
theorem dX5_edgeBetween_61 : decode cX5_edgeBetween 61 = .ok (.iload_n 3, 1) := by decide +kernel
theorem dX5_edgeBetween_62 : decode cX5_edgeBetween 62 = .ok (.iload 5, 2) := by decide +kernel
theorem dX5_edgeBetween_64 : decode cX5_edgeBetween 64 = .ok (.aload_n 0, 1) := by decide +kernel
theorem dX5_edgeBetween_65 : decode cX5_edgeBetween 65 = .ok (.iload_n 2, 1) := by decide +kernel
theorem dX5_edgeBetween_66 : decode cX5_edgeBetween 66 = .ok (.iload 4, 2) := by decide +kernel
theorem dX5_edgeBetween_68 : decode cX5_edgeBetween 68 = .ok (.iconst 1, 1) := by decide +kernel
theorem dX5_edgeBetween_69 : decode cX5_edgeBetween 69 = .ok (.isub, 1) := by decide +kernel
theorem dX5_edgeBetween_70 : decode cX5_edgeBetween 70 = .ok (.invokevirtual 78, 3) := by decide +kernel
theorem dX5_edgeBetween_73 : decode cX5_edgeBetween 73 = .ok (.iand, 1) := by decide +kernel
theorem dX5_edgeBetween_74 : decode cX5_edgeBetween 74 = .ok (.invokestatic 64, 3) := by decide +kernel
theorem dX5_edgeBetween_77 : decode cX5_edgeBetween 77 = .ok (.iadd, 1) := by decide +kernel
theorem dX5_edgeBetween_78 : decode cX5_edgeBetween 78 = .ok (.istore_n 3, 1) := by decide +kernel
theorem dX5_edgeBetween_79 : decode cX5_edgeBetween 79 = .ok (.iload_n 3, 1) := by decide +kernel
theorem dX5_edgeBetween_80 : decode cX5_edgeBetween 80 = .ok (.iload 5, 2) := by decide +kernel
theorem dX5_edgeBetween_82 : decode cX5_edgeBetween 82 = .ok (.aload_n 0, 1) := by decide +kernel
theorem dX5_edgeBetween_83 : decode cX5_edgeBetween 83 = .ok (.iload_n 2, 1) := by decide +kernel
theorem dX5_edgeBetween_84 : decode cX5_edgeBetween 84 = .ok (.iload 4, 2) := by decide +kernel
theorem dX5_edgeBetween_86 : decode cX5_edgeBetween 86 = .ok (.iconst 1, 1) := by decide +kernel
theorem dX5_edgeBetween_87 : decode cX5_edgeBetween 87 = .ok (.iadd, 1) := by decide +kernel
theorem dX5_edgeBetween_88 : decode cX5_edgeBetween 88 = .ok (.invokevirtual 78, 3) := by decide +kernel
theorem dX5_edgeBetween_91 : decode cX5_edgeBetween 91 = .ok (.iand, 1) := by decide +kernel
theorem dX5_edgeBetween_92 : decode cX5_edgeBetween 92 = .ok (.invokestatic 64, 3) := by decide +kernel
theorem dX5_edgeBetween_95 : decode cX5_edgeBetween 95 = .ok (.iadd, 1) := by decide +kernel
theorem dX5_edgeBetween_96 : decode cX5_edgeBetween 96 = .ok (.istore_n 3, 1) := by decide +kernel
theorem dX5_edgeBetween_97 : decode cX5_edgeBetween 97 = .ok (.iinc 4 1, 3) := by decide +kernel
theorem dX5_edgeBetween_100 : decode cX5_edgeBetween 100 = .ok (.goto (-95), 3) := by decide +kernel
theorem dX5_edgeBetween_103 : decode cX5_edgeBetween 103 = .ok (.iload_n 3, 1) := by decide +kernel
theorem dX5_edgeBetween_104 : decode cX5_edgeBetween 104 = .ok (.ireturn, 1) := by decide +kernel
set_option maxRecDepth 20000 in
theorem ggX5_borderEdge_X1_columns : GoodIn wsX5_borderEdge wsX1_columns := goodIn_r _ [6, 7, 47, 48, 49, 50, 51, 52] (by decide +kernel) (by decide +kernel)
set_option maxRecDepth 20000 in
theorem gX5_borderEdge_X1_columns : GoodIn wsX5_borderEdge (wsV RX5 69 RX1 yX1_columns wsX1_columns) := goodIn_app (goodIn_of _ (by decide +kernel)) ggX5_borderEdge_X1_columns
set_option maxRecDepth 20000 in
theorem ggX5_borderEdge_X5_rowOf : GoodIn wsX5_borderEdge wsX5_rowOf := goodIn_r _ [12, 1, 13, 14, 2, 3, 4, 5, 6, 7, 15, 16, 17, 18, 19, 20, 21, 22, 23, 24, 25, 26, 27, 28, 29, 30, 31, 43, 44, 45, 46, 47, 48, 49, 50, 51, 52] (by decide +kernel) (by decide +kernel)
set_option maxRecDepth 20000 in
theorem gX5_borderEdge_X5_rowOf : GoodIn wsX5_borderEdge (wsV RX5 78 RX5 yX5_rowOf wsX5_rowOf) := goodIn_app (goodIn_of _ (by decide +kernel)) ggX5_borderEdge_X5_rowOf
set_option maxRecDepth 20000 in
theorem ggX5_borderEdge_J6_bitCount_0f7a4 : GoodIn wsX5_borderEdge wsJ6_bitCount_0f7a4 := goodIn_r _ [35, 36, 37, 38] (by decide +kernel) (by decide +kernel)
set_option maxRecDepth 20000 in
theorem gX5_borderEdge_J6_bitCount_0f7a4 : GoodIn wsX5_borderEdge (va_wsS RX5 64 yJ6_bitCount_0f7a4 wsJ6_bitCount_0f7a4) := goodIn_app (goodIn_of _ (by decide +kernel)) ggX5_borderEdge_J6_bitCount_0f7a4
set_option maxRecDepth 20000 in
theorem ggX5_borderEdge_X1_rows : GoodIn wsX5_borderEdge wsX1_rows := goodIn_r _ [42, 23, 47, 48, 49, 50, 51, 52] (by decide +kernel) (by decide +kernel)
set_option maxRecDepth 20000 in
theorem gX5_borderEdge_X1_rows : GoodIn wsX5_borderEdge (wsV RX5 75 RX1 yX1_rows wsX1_rows) := goodIn_app (goodIn_of _ (by decide +kernel)) ggX5_borderEdge_X1_rows
theorem dX5_borderEdge_0 : decode cX5_borderEdge 0 = .ok (.iconst 1, 1) := by decide +kernel
theorem dX5_borderEdge_1 : decode cX5_borderEdge 1 = .ok (.iconst 1, 1) := by decide +kernel
theorem dX5_borderEdge_2 : decode cX5_borderEdge 2 = .ok (.aload_n 0, 1) := by decide +kernel
theorem dX5_borderEdge_3 : decode cX5_borderEdge 3 = .ok (.getfield 9, 3) := by decide +kernel
theorem dX5_borderEdge_6 : decode cX5_borderEdge 6 = .ok (.invokevirtual 69, 3) := by decide +kernel
theorem dX5_borderEdge_9 : decode cX5_borderEdge 9 = .ok (.iconst 1, 1) := by decide +kernel
theorem dX5_borderEdge_10 : decode cX5_borderEdge 10 = .ok (.isub, 1) := by decide +kernel
theorem dX5_borderEdge_11 : decode cX5_borderEdge 11 = .ok (.ishl, 1) := by decide +kernel
theorem dX5_borderEdge_12 : decode cX5_borderEdge 12 = .ok (.ior, 1) := by decide +kernel
theorem dX5_borderEdge_13 : decode cX5_borderEdge 13 = .ok (.istore_n 2, 1) := by decide +kernel
theorem dX5_borderEdge_14 : decode cX5_borderEdge 14 = .ok (.aload_n 0, 1) := by decide +kernel
theorem dX5_borderEdge_15 : decode cX5_borderEdge 15 = .ok (.iload_n 1, 1) := by decide +kernel
theorem dX5_borderEdge_16 : decode cX5_borderEdge 16 = .ok (.iconst 0, 1) := by decide +kernel
theorem dX5_borderEdge_17 : decode cX5_borderEdge 17 = .ok (.invokevirtual 78, 3) := by decide +kernel
theorem dX5_borderEdge_20 : decode cX5_borderEdge 20 = .ok (.invokestatic 64, 3) := by decide +kernel
theorem dX5_borderEdge_23 : decode cX5_borderEdge 23 = .ok (.aload_n 0, 1) := by decide +kernel
theorem dX5_borderEdge_24 : decode cX5_borderEdge 24 = .ok (.iload_n 1, 1) := by decide +kernel
theorem dX5_borderEdge_25 : decode cX5_borderEdge 25 = .ok (.aload_n 0, 1) := by decide +kernel
theorem dX5_borderEdge_26 : decode cX5_borderEdge 26 = .ok (.getfield 9, 3) := by decide +kernel
theorem dX5_borderEdge_29 : decode cX5_borderEdge 29 = .ok (.invokevirtual 75, 3) := by decide +kernel
theorem dX5_borderEdge_32 : decode cX5_borderEdge 32 = .ok (.iconst 1, 1) := by decide +kernel
theorem dX5_borderEdge_33 : decode cX5_borderEdge 33 = .ok (.isub, 1) := by decide +kernel
theorem dX5_borderEdge_34 : decode cX5_borderEdge 34 = .ok (.invokevirtual 78, 3) := by decide +kernel
theorem dX5_borderEdge_37 : decode cX5_borderEdge 37 = .ok (.invokestatic 64, 3) := by decide +kernel
theorem dX5_borderEdge_40 : decode cX5_borderEdge 40 = .ok (.iadd, 1) := by decide +kernel
theorem dX5_borderEdge_41 : decode cX5_borderEdge 41 = .ok (.istore_n 3, 1) := by decide +kernel
theorem dX5_borderEdge_42 : decode cX5_borderEdge 42 = .ok (.iconst 0, 1) := by decide +kernel
theorem dX5_borderEdge_43 : decode cX5_borderEdge 43 = .ok (.istore 4, 2) := by decide +kernel
theorem dX5_borderEdge_45 : decode cX5_borderEdge 45 = .ok (.iload 4, 2) := by decide +kernel
theorem dX5_borderEdge_47 : decode cX5_borderEdge 47 = .ok (.aload_n 0, 1) := by decide +kernel
theorem dX5_borderEdge_48 : decode cX5_borderEdge 48 = .ok (.getfield 9, 3) := by decide +kernel
theorem dX5_borderEdge_51 : decode cX5_borderEdge 51 = .ok (.invokevirtual 75, 3) := by decide +kernel
theorem dX5_borderEdge_54 : decode cX5_borderEdge 54 = .ok (.if_icmp .ge 24, 3) := by decide +kernel
theorem dX5_borderEdge_57 : decode cX5_borderEdge 57 = .ok (.iload_n 3, 1) := by decide +kernel
theorem dX5_borderEdge_58 : decode cX5_borderEdge 58 = .ok (.aload_n 0, 1) := by decide +kernel
theorem dX5_borderEdge_59 : decode cX5_borderEdge 59 = .ok (.iload_n 1, 1) := by decide +kernel
theorem dX5_borderEdge_60 : decode cX5_borderEdge 60 = .ok (.iload 4, 2) := by decide +kernel
theorem dX5_borderEdge_62 : decode cX5_borderEdge 62 = .ok (.invokevirtual 78, 3) := by decide +kernel
theorem dX5_borderEdge_65 : decode cX5_borderEdge 65 = .ok (.iload_n 2, 1) := by decide +kernel
theorem dX5_borderEdge_66 : decode cX5_borderEdge 66 = .ok (.iand, 1) := by decide +kernel
theorem dX5_borderEdge_67 : decode cX5_borderEdge 67 = .ok (.invokestatic 64, 3) := by decide +kernel
theorem dX5_borderEdge_70 : decode cX5_borderEdge 70 = .ok (.iadd, 1) := by decide +kernel
theorem dX5_borderEdge_71 : decode cX5_borderEdge 71 = .ok (.istore_n 3, 1) := by decide +kernel
theorem dX5_borderEdge_72 : decode cX5_borderEdge 72 = .ok (.iinc 4 1, 3) := by decide +kernel
theorem dX5_borderEdge_75 : decode cX5_borderEdge 75 = .ok (.goto (-30), 3) := by decide +kernel
theorem dX5_borderEdge_78 : decode cX5_borderEdge 78 = .ok (.iload_n 3, 1) := by decide +kernel
theorem dX5_borderEdge_79 : decode cX5_borderEdge 79 = .ok (.ireturn, 1) := by decide +kernel
set_option maxRecDepth 20000 in
theorem ggX5_hiddenCells_X1_rows : GoodIn wsX5_hiddenCells wsX1_rows := goodIn_r _ [6, 7, 54, 55, 56, 57, 58, 59] (by decide +kernel) (by decide +kernel)
set_option maxRecDepth 20000 in
theorem gX5_hiddenCells_X1_rows : GoodIn wsX5_hiddenCells (wsV RX5 75 RX1 yX1_rows wsX1_rows) := goodIn_app (goodIn_of _ (by decide +kernel)) ggX5_hiddenCells_X1_rows
set_option maxRecDepth 20000 in
theorem ggX5_hiddenCells_X5_rowOf : GoodIn wsX5_hiddenCells wsX5_rowOf := goodIn_r _ [12, 1, 13, 14, 15, 16, 17, 5, 18, 19, 20, 21, 22, 23, 24, 25, 26, 27, 7, 28, 29, 30, 31, 32, 33, 34, 35, 50, 51, 52, 53, 54, 55, 56, 57, 58, 59] (by decide +kernel) (by decide +kernel)
set_option maxRecDepth 20000 in
theorem gX5_hiddenCells_X5_rowOf : GoodIn wsX5_hiddenCells (wsV RX5 78 RX5 yX5_rowOf wsX5_rowOf) := goodIn_app (goodIn_of _ (by decide +kernel)) ggX5_hiddenCells_X5_rowOf
set_option maxRecDepth 20000 in
theorem ggX5_hiddenCells_X1_coverRow : GoodIn wsX5_hiddenCells wsX1_coverRow := goodIn_r _ [39, 40, 32, 33, 5, 34, 35, 41, 25, 26, 27, 7, 42, 21, 22, 23, 19, 54, 55, 56, 57, 58, 59] (by decide +kernel) (by decide +kernel)
set_option maxRecDepth 20000 in
theorem gX5_hiddenCells_X1_coverRow : GoodIn wsX5_hiddenCells (wsV RX5 93 RX1 yX1_coverRow wsX1_coverRow) := goodIn_app (goodIn_of _ (by decide +kernel)) ggX5_hiddenCells_X1_coverRow
set_option maxRecDepth 20000 in
theorem ggX5_hiddenCells_J6_bitCount_0f7a4 : GoodIn wsX5_hiddenCells wsJ6_bitCount_0f7a4 := goodIn_r _ [46, 47, 48, 49] (by decide +kernel) (by decide +kernel)
set_option maxRecDepth 20000 in
theorem gX5_hiddenCells_J6_bitCount_0f7a4 : GoodIn wsX5_hiddenCells (va_wsS RX5 64 yJ6_bitCount_0f7a4 wsJ6_bitCount_0f7a4) := goodIn_app (goodIn_of _ (by decide +kernel)) ggX5_hiddenCells_J6_bitCount_0f7a4
theorem dX5_hiddenCells_0 : decode cX5_hiddenCells 0 = .ok (.iconst 0, 1) := by decide +kernel
theorem dX5_hiddenCells_1 : decode cX5_hiddenCells 1 = .ok (.istore_n 3, 1) := by decide +kernel
theorem dX5_hiddenCells_2 : decode cX5_hiddenCells 2 = .ok (.iconst 0, 1) := by decide +kernel
theorem dX5_hiddenCells_3 : decode cX5_hiddenCells 3 = .ok (.istore 4, 2) := by decide +kernel
theorem dX5_hiddenCells_5 : decode cX5_hiddenCells 5 = .ok (.iload 4, 2) := by decide +kernel
theorem dX5_hiddenCells_7 : decode cX5_hiddenCells 7 = .ok (.aload_n 0, 1) := by decide +kernel
theorem dX5_hiddenCells_8 : decode cX5_hiddenCells 8 = .ok (.getfield 9, 3) := by decide +kernel
theorem dX5_hiddenCells_11 : decode cX5_hiddenCells 11 = .ok (.invokevirtual 75, 3) := by decide +kernel
theorem dX5_hiddenCells_14 : decode cX5_hiddenCells 14 = .ok (.if_icmp .ge 33, 3) := by decide +kernel
theorem dX5_hiddenCells_17 : decode cX5_hiddenCells 17 = .ok (.iload_n 3, 1) := by decide +kernel
theorem dX5_hiddenCells_18 : decode cX5_hiddenCells 18 = .ok (.aload_n 0, 1) := by decide +kernel
theorem dX5_hiddenCells_19 : decode cX5_hiddenCells 19 = .ok (.iload_n 1, 1) := by decide +kernel
theorem dX5_hiddenCells_20 : decode cX5_hiddenCells 20 = .ok (.iload 4, 2) := by decide +kernel
theorem dX5_hiddenCells_22 : decode cX5_hiddenCells 22 = .ok (.invokevirtual 78, 3) := by decide +kernel
theorem dX5_hiddenCells_25 : decode cX5_hiddenCells 25 = .ok (.aload_n 0, 1) := by decide +kernel
theorem dX5_hiddenCells_26 : decode cX5_hiddenCells 26 = .ok (.getfield 9, 3) := by decide +kernel
theorem dX5_hiddenCells_29 : decode cX5_hiddenCells 29 = .ok (.iload_n 2, 1) := by decide +kernel
theorem dX5_hiddenCells_30 : decode cX5_hiddenCells 30 = .ok (.iload 4, 2) := by decide +kernel
theorem dX5_hiddenCells_32 : decode cX5_hiddenCells 32 = .ok (.invokevirtual 93, 3) := by decide +kernel
theorem dX5_hiddenCells_35 : decode cX5_hiddenCells 35 = .ok (.iand, 1) := by decide +kernel
theorem dX5_hiddenCells_36 : decode cX5_hiddenCells 36 = .ok (.invokestatic 64, 3) := by decide +kernel
theorem dX5_hiddenCells_39 : decode cX5_hiddenCells 39 = .ok (.iadd, 1) := by decide +kernel
theorem dX5_hiddenCells_40 : decode cX5_hiddenCells 40 = .ok (.istore_n 3, 1) := by decide +kernel
theorem dX5_hiddenCells_41 : decode cX5_hiddenCells 41 = .ok (.iinc 4 1, 3) := by decide +kernel
theorem dX5_hiddenCells_44 : decode cX5_hiddenCells 44 = .ok (.goto (-39), 3) := by decide +kernel
theorem dX5_hiddenCells_47 : decode cX5_hiddenCells 47 = .ok (.iload_n 3, 1) := by decide +kernel
theorem dX5_hiddenCells_48 : decode cX5_hiddenCells 48 = .ok (.ireturn, 1) := by decide +kernel
set_option maxRecDepth 20000 in
theorem ggX5_rankByShare_X5_shareOf : GoodIn wsX5_rankByShare wsX5_shareOf := goodIn_r _ [6, 1, 7, 8, 9, 10, 11, 12, 13, 14, 15, 16, 17, 18, 19, 20, 31, 32, 33, 34, 35, 36, 37, 38, 39, 40] (by decide +kernel) (by decide +kernel)
set_option maxRecDepth 20000 in
theorem gX5_rankByShare_X5_shareOf : GoodIn wsX5_rankByShare (wsV RX5 96 RX5 yX5_shareOf wsX5_shareOf) := goodIn_app (goodIn_of _ (by decide +kernel)) ggX5_rankByShare_X5_shareOf
set_option maxRecDepth 20000 in
theorem ggX5_rankByShare_X1_layerOf : GoodIn wsX5_rankByShare wsX1_layerOf := goodIn_r _ [24, 25, 26, 18, 19, 20, 35, 36, 37, 38, 39, 40] (by decide +kernel) (by decide +kernel)
set_option maxRecDepth 20000 in
theorem gX5_rankByShare_X1_layerOf : GoodIn wsX5_rankByShare (wsV RX5 99 RX1 yX1_layerOf wsX1_layerOf) := goodIn_app (goodIn_of _ (by decide +kernel)) ggX5_rankByShare_X1_layerOf
set_option maxRecDepth 20000 in
theorem ggX5_rankByShare_X1_pieces : GoodIn wsX5_rankByShare wsX1_pieces := goodIn_r _ [30, 25, 35, 36, 37, 38, 39, 40] (by decide +kernel) (by decide +kernel)
set_option maxRecDepth 20000 in
theorem gX5_rankByShare_X1_pieces : GoodIn wsX5_rankByShare (wsV RX5 31 RX1 yX1_pieces wsX1_pieces) := goodIn_app (goodIn_of _ (by decide +kernel)) ggX5_rankByShare_X1_pieces
theorem dX5_rankByShare_0 : decode cX5_rankByShare 0 = .ok (.aload_n 0, 1) := by decide +kernel
theorem dX5_rankByShare_1 : decode cX5_rankByShare 1 = .ok (.iload_n 1, 1) := by decide +kernel
theorem dX5_rankByShare_2 : decode cX5_rankByShare 2 = .ok (.invokevirtual 96, 3) := by decide +kernel
theorem dX5_rankByShare_5 : decode cX5_rankByShare 5 = .ok (.istore_n 2, 1) := by decide +kernel
theorem dX5_rankByShare_6 : decode cX5_rankByShare 6 = .ok (.aload_n 0, 1) := by decide +kernel
theorem dX5_rankByShare_7 : decode cX5_rankByShare 7 = .ok (.getfield 9, 3) := by decide +kernel
theorem dX5_rankByShare_10 : decode cX5_rankByShare 10 = .ok (.iload_n 1, 1) := by decide +kernel
theorem dX5_rankByShare_11 : decode cX5_rankByShare 11 = .ok (.invokevirtual 99, 3) := by decide +kernel
theorem dX5_rankByShare_14 : decode cX5_rankByShare 14 = .ok (.istore_n 3, 1) := by decide +kernel
theorem dX5_rankByShare_15 : decode cX5_rankByShare 15 = .ok (.iconst 0, 1) := by decide +kernel
theorem dX5_rankByShare_16 : decode cX5_rankByShare 16 = .ok (.istore 4, 2) := by decide +kernel
theorem dX5_rankByShare_18 : decode cX5_rankByShare 18 = .ok (.iconst 0, 1) := by decide +kernel
theorem dX5_rankByShare_19 : decode cX5_rankByShare 19 = .ok (.istore 5, 2) := by decide +kernel
theorem dX5_rankByShare_21 : decode cX5_rankByShare 21 = .ok (.iload 5, 2) := by decide +kernel
theorem dX5_rankByShare_23 : decode cX5_rankByShare 23 = .ok (.aload_n 0, 1) := by decide +kernel
theorem dX5_rankByShare_24 : decode cX5_rankByShare 24 = .ok (.getfield 9, 3) := by decide +kernel
theorem dX5_rankByShare_27 : decode cX5_rankByShare 27 = .ok (.invokevirtual 31, 3) := by decide +kernel
theorem dX5_rankByShare_30 : decode cX5_rankByShare 30 = .ok (.if_icmp .ge 45, 3) := by decide +kernel
theorem dX5_rankByShare_33 : decode cX5_rankByShare 33 = .ok (.aload_n 0, 1) := by decide +kernel
theorem dX5_rankByShare_34 : decode cX5_rankByShare 34 = .ok (.iload 5, 2) := by decide +kernel
theorem dX5_rankByShare_36 : decode cX5_rankByShare 36 = .ok (.invokevirtual 96, 3) := by decide +kernel
theorem dX5_rankByShare_39 : decode cX5_rankByShare 39 = .ok (.iload_n 2, 1) := by decide +kernel
theorem dX5_rankByShare_40 : decode cX5_rankByShare 40 = .ok (.isub, 1) := by decide +kernel
theorem dX5_rankByShare_41 : decode cX5_rankByShare 41 = .ok (.istore 6, 2) := by decide +kernel
theorem dX5_rankByShare_43 : decode cX5_rankByShare 43 = .ok (.iload 6, 2) := by decide +kernel
theorem dX5_rankByShare_45 : decode cX5_rankByShare 45 = .ok (.ifCond .lt 21, 3) := by decide +kernel
theorem dX5_rankByShare_48 : decode cX5_rankByShare 48 = .ok (.iload 6, 2) := by decide +kernel
theorem dX5_rankByShare_50 : decode cX5_rankByShare 50 = .ok (.ifCond .ne 19, 3) := by decide +kernel
theorem dX5_rankByShare_53 : decode cX5_rankByShare 53 = .ok (.aload_n 0, 1) := by decide +kernel
theorem dX5_rankByShare_54 : decode cX5_rankByShare 54 = .ok (.getfield 9, 3) := by decide +kernel
theorem dX5_rankByShare_57 : decode cX5_rankByShare 57 = .ok (.iload 5, 2) := by decide +kernel
theorem dX5_rankByShare_59 : decode cX5_rankByShare 59 = .ok (.invokevirtual 99, 3) := by decide +kernel
theorem dX5_rankByShare_62 : decode cX5_rankByShare 62 = .ok (.iload_n 3, 1) := by decide +kernel
theorem dX5_rankByShare_63 : decode cX5_rankByShare 63 = .ok (.if_icmp .ge 6, 3) := by decide +kernel
theorem dX5_rankByShare_66 : decode cX5_rankByShare 66 = .ok (.iinc 4 1, 3) := by decide +kernel
theorem dX5_rankByShare_69 : decode cX5_rankByShare 69 = .ok (.iinc 5 1, 3) := by decide +kernel
theorem dX5_rankByShare_72 : decode cX5_rankByShare 72 = .ok (.goto (-51), 3) := by decide +kernel
theorem dX5_rankByShare_75 : decode cX5_rankByShare 75 = .ok (.iload 4, 2) := by decide +kernel
theorem dX5_rankByShare_77 : decode cX5_rankByShare 77 = .ok (.ireturn, 1) := by decide +kernel
set_option maxRecDepth 20000 in
theorem ggX5_shareOf_X1_area : GoodIn wsX5_shareOf wsX1_area := goodIn_r _ [7, 8, 9, 10, 6, 11, 12, 20, 21, 22, 23, 24, 25] (by decide +kernel) (by decide +kernel)
set_option maxRecDepth 20000 in
theorem gX5_shareOf_X1_area : GoodIn wsX5_shareOf (wsV RX5 102 RX1 yX1_area wsX1_area) := goodIn_app (goodIn_of _ (by decide +kernel)) ggX5_shareOf_X1_area
set_option maxRecDepth 20000 in
theorem ggX5_shareOf_X7_at : GoodIn wsX5_shareOf wsX7_at := goodIn_r _ [15] (by decide +kernel) (by decide +kernel)
set_option maxRecDepth 20000 in
theorem gX5_shareOf_X7_at_n52 : GoodIn wsX5_shareOf (wsX7_at) := ggX5_shareOf_X7_at
theorem dX5_shareOf_0 : decode cX5_shareOf 0 = .ok (.aload_n 0, 1) := by decide +kernel
theorem dX5_shareOf_1 : decode cX5_shareOf 1 = .ok (.getfield 9, 3) := by decide +kernel
theorem dX5_shareOf_4 : decode cX5_shareOf 4 = .ok (.iload_n 1, 1) := by decide +kernel
theorem dX5_shareOf_5 : decode cX5_shareOf 5 = .ok (.invokevirtual 102, 3) := by decide +kernel
theorem dX5_shareOf_8 : decode cX5_shareOf 8 = .ok (.istore_n 2, 1) := by decide +kernel
theorem dX5_shareOf_9 : decode cX5_shareOf 9 = .ok (.iload_n 2, 1) := by decide +kernel
theorem dX5_shareOf_10 : decode cX5_shareOf 10 = .ok (.ifCond .le 19, 3) := by decide +kernel
theorem dX5_shareOf_13 : decode cX5_shareOf 13 = .ok (.aload_n 0, 1) := by decide +kernel
theorem dX5_shareOf_14 : decode cX5_shareOf 14 = .ok (.getfield 22, 3) := by decide +kernel
theorem dX5_shareOf_17 : decode cX5_shareOf 17 = .ok (.iload_n 1, 1) := by decide +kernel
theorem dX5_shareOf_18 : decode cX5_shareOf 18 = .ok (.invokestatic 52, 3) := by decide +kernel
theorem dX5_shareOf_21 : decode cX5_shareOf 21 = .ok (.bipush 100, 2) := by decide +kernel
theorem dX5_shareOf_23 : decode cX5_shareOf 23 = .ok (.imul, 1) := by decide +kernel
theorem dX5_shareOf_24 : decode cX5_shareOf 24 = .ok (.iload_n 2, 1) := by decide +kernel
theorem dX5_shareOf_25 : decode cX5_shareOf 25 = .ok (.idiv, 1) := by decide +kernel
theorem dX5_shareOf_26 : decode cX5_shareOf 26 = .ok (.goto 4, 3) := by decide +kernel
theorem dX5_shareOf_29 : decode cX5_shareOf 29 = .ok (.iconst 0, 1) := by decide +kernel
theorem dX5_shareOf_30 : decode cX5_shareOf 30 = .ok (.ireturn, 1) := by decide +kernel
theorem dX6_init_0 : decode cX6_init 0 = .ok (.aload_n 0, 1) := by decide +kernel
theorem dX6_init_1 : decode cX6_init 1 = .ok (.invokespecial 3, 3) := by decide +kernel
theorem dX6_init_4 : decode cX6_init 4 = .ok (.aload_n 0, 1) := by decide +kernel
theorem dX6_init_5 : decode cX6_init 5 = .ok (.bipush 120, 2) := by decide +kernel
theorem dX6_init_7 : decode cX6_init 7 = .ok (.newarray .int, 2) := by decide +kernel
theorem dX6_init_9 : decode cX6_init 9 = .ok (.putfield 9, 3) := by decide +kernel
theorem dX6_init_12 : decode cX6_init 12 = .ok (.aload_n 0, 1) := by decide +kernel
theorem dX6_init_13 : decode cX6_init 13 = .ok (.iconst 0, 1) := by decide +kernel
theorem dX6_init_14 : decode cX6_init 14 = .ok (.putfield 15, 3) := by decide +kernel
theorem dX6_init_17 : decode cX6_init 17 = .ok (.return_, 1) := by decide +kernel
theorem dX6_length_0 : decode cX6_length 0 = .ok (.aload_n 0, 1) := by decide +kernel
theorem dX6_length_1 : decode cX6_length 1 = .ok (.getfield 15, 3) := by decide +kernel
theorem dX6_length_4 : decode cX6_length 4 = .ok (.ireturn, 1) := by decide +kernel
theorem dX6_isFull_0 : decode cX6_isFull 0 = .ok (.aload_n 0, 1) := by decide +kernel
theorem dX6_isFull_1 : decode cX6_isFull 1 = .ok (.getfield 15, 3) := by decide +kernel
theorem dX6_isFull_4 : decode cX6_isFull 4 = .ok (.bipush 120, 2) := by decide +kernel
theorem dX6_isFull_6 : decode cX6_isFull 6 = .ok (.if_icmp .lt 7, 3) := by decide +kernel
theorem dX6_isFull_9 : decode cX6_isFull 9 = .ok (.iconst 1, 1) := by decide +kernel
theorem dX6_isFull_10 : decode cX6_isFull 10 = .ok (.goto 4, 3) := by decide +kernel
theorem dX6_isFull_13 : decode cX6_isFull 13 = .ok (.iconst 0, 1) := by decide +kernel
theorem dX6_isFull_14 : decode cX6_isFull 14 = .ok (.ireturn, 1) := by decide +kernel
set_option maxRecDepth 20000 in
theorem ggX6_add_X7_put : GoodIn wsX6_add wsX7_put := goodIn_r _ [5] (by decide +kernel) (by decide +kernel)
set_option maxRecDepth 20000 in
theorem gX6_add_X7_put_n19 : GoodIn wsX6_add (wsX7_put) := ggX6_add_X7_put
theorem dX6_add_0 : decode cX6_add 0 = .ok (.aload_n 0, 1) := by decide +kernel
theorem dX6_add_1 : decode cX6_add 1 = .ok (.getfield 9, 3) := by decide +kernel
theorem dX6_add_4 : decode cX6_add 4 = .ok (.aload_n 0, 1) := by decide +kernel
theorem dX6_add_5 : decode cX6_add 5 = .ok (.getfield 15, 3) := by decide +kernel
theorem dX6_add_8 : decode cX6_add 8 = .ok (.iload_n 1, 1) := by decide +kernel
theorem dX6_add_9 : decode cX6_add 9 = .ok (.invokestatic 19, 3) := by decide +kernel
theorem dX6_add_12 : decode cX6_add 12 = .ok (.aload_n 0, 1) := by decide +kernel
theorem dX6_add_13 : decode cX6_add 13 = .ok (.dup, 1) := by decide +kernel
theorem dX6_add_14 : decode cX6_add 14 = .ok (.getfield 15, 3) := by decide +kernel
theorem dX6_add_17 : decode cX6_add 17 = .ok (.iconst 1, 1) := by decide +kernel
theorem dX6_add_18 : decode cX6_add 18 = .ok (.iadd, 1) := by decide +kernel
theorem dX6_add_19 : decode cX6_add 19 = .ok (.putfield 15, 3) := by decide +kernel
theorem dX6_add_22 : decode cX6_add 22 = .ok (.return_, 1) := by decide +kernel
theorem dX6_clear_0 : decode cX6_clear 0 = .ok (.aload_n 0, 1) := by decide +kernel
theorem dX6_clear_1 : decode cX6_clear 1 = .ok (.iconst 0, 1) := by decide +kernel
theorem dX6_clear_2 : decode cX6_clear 2 = .ok (.putfield 15, 3) := by decide +kernel
theorem dX6_clear_5 : decode cX6_clear 5 = .ok (.return_, 1) := by decide +kernel
theorem dX6_characterAt_0 : decode cX6_characterAt 0 = .ok (.iload_n 1, 1) := by decide +kernel
theorem dX6_characterAt_1 : decode cX6_characterAt 1 = .ok (.ifCond .lt 24, 3) := by decide +kernel
theorem dX6_characterAt_4 : decode cX6_characterAt 4 = .ok (.iload_n 1, 1) := by decide +kernel
theorem dX6_characterAt_5 : decode cX6_characterAt 5 = .ok (.aload_n 0, 1) := by decide +kernel
theorem dX6_characterAt_6 : decode cX6_characterAt 6 = .ok (.getfield 15, 3) := by decide +kernel
theorem dX6_characterAt_9 : decode cX6_characterAt 9 = .ok (.if_icmp .ge 16, 3) := by decide +kernel
theorem dX6_characterAt_12 : decode cX6_characterAt 12 = .ok (.iload_n 1, 1) := by decide +kernel
theorem dX6_characterAt_13 : decode cX6_characterAt 13 = .ok (.aload_n 0, 1) := by decide +kernel
theorem dX6_characterAt_14 : decode cX6_characterAt 14 = .ok (.getfield 9, 3) := by decide +kernel
theorem dX6_characterAt_17 : decode cX6_characterAt 17 = .ok (.arraylength, 1) := by decide +kernel
theorem dX6_characterAt_18 : decode cX6_characterAt 18 = .ok (.if_icmp .ge 7, 3) := by decide +kernel
theorem dX6_characterAt_21 : decode cX6_characterAt 21 = .ok (.iconst 1, 1) := by decide +kernel
theorem dX6_characterAt_22 : decode cX6_characterAt 22 = .ok (.goto 4, 3) := by decide +kernel
theorem dX6_characterAt_25 : decode cX6_characterAt 25 = .ok (.iconst 0, 1) := by decide +kernel
theorem dX6_characterAt_26 : decode cX6_characterAt 26 = .ok (.istore_n 2, 1) := by decide +kernel
theorem dX6_characterAt_27 : decode cX6_characterAt 27 = .ok (.iload_n 2, 1) := by decide +kernel
theorem dX6_characterAt_28 : decode cX6_characterAt 28 = .ok (.ifCond .eq 12, 3) := by decide +kernel
theorem dX6_characterAt_31 : decode cX6_characterAt 31 = .ok (.aload_n 0, 1) := by decide +kernel
theorem dX6_characterAt_32 : decode cX6_characterAt 32 = .ok (.getfield 9, 3) := by decide +kernel
theorem dX6_characterAt_35 : decode cX6_characterAt 35 = .ok (.iload_n 1, 1) := by decide +kernel
theorem dX6_characterAt_36 : decode cX6_characterAt 36 = .ok (.iaload, 1) := by decide +kernel
theorem dX6_characterAt_37 : decode cX6_characterAt 37 = .ok (.goto 4, 3) := by decide +kernel
theorem dX6_characterAt_40 : decode cX6_characterAt 40 = .ok (.iconst 0, 1) := by decide +kernel
theorem dX6_characterAt_41 : decode cX6_characterAt 41 = .ok (.ireturn, 1) := by decide +kernel
set_option maxRecDepth 20000 in
theorem ggX7_init_X1_init : GoodIn wsX7_init wsX1_init := goodIn_r _ [35, 36, 2, 3, 37, 38, 39, 40, 41, 42, 43, 98, 99, 100, 101, 102, 103] (by decide +kernel) (by decide +kernel)
set_option maxRecDepth 20000 in
theorem gX7_init_X1_init : GoodIn wsX7_init (wsX1_init) := ggX7_init_X1_init
set_option maxRecDepth 20000 in
theorem ggX7_init_X5_init : GoodIn wsX7_init wsX5_init := goodIn_r _ [46, 47, 2, 3, 48, 37, 49, 50, 51, 104, 105, 106, 107] (by decide +kernel) (by decide +kernel)
set_option maxRecDepth 20000 in
theorem gX7_init_X5_init : GoodIn wsX7_init (wsX5_init) := ggX7_init_X5_init
set_option maxRecDepth 20000 in
theorem ggX7_init_X6_init : GoodIn wsX7_init wsX6_init := goodIn_r _ [54, 55, 2, 3, 37, 56, 57, 108, 109] (by decide +kernel) (by decide +kernel)
set_option maxRecDepth 20000 in
theorem gX7_init_X6_init : GoodIn wsX7_init (wsX6_init) := ggX7_init_X6_init
set_option maxRecDepth 20000 in
theorem ggX7_init_X2_init : GoodIn wsX7_init wsX2_init := goodIn_r _ [60, 61, 2, 3, 62, 37, 63, 64, 65, 66, 118, 119, 120, 121, 122] (by decide +kernel) (by decide +kernel)
set_option maxRecDepth 20000 in
theorem gX7_init_X2_init : GoodIn wsX7_init (wsX2_init) := ggX7_init_X2_init
set_option maxRecDepth 20000 in
theorem ggX7_init_X3_init : GoodIn wsX7_init wsX3_init := goodIn_r _ [69, 70, 2, 3, 71, 5, 6, 72, 73, 74, 8, 9, 75, 76, 77, 78, 34, 35, 36, 37, 38, 39, 40, 41, 42, 43, 79, 45, 46, 47, 48, 49, 50, 51, 98, 99, 100, 101, 102, 103, 123, 124, 125, 126, 127, 104, 105, 106, 107] (by decide +kernel) (by decide +kernel)
set_option maxRecDepth 20000 in
theorem gX7_init_X3_init : GoodIn wsX7_init (wsX3_init) := ggX7_init_X3_init
set_option maxRecDepth 20000 in
theorem ggX7_init_X0_init : GoodIn wsX7_init wsX0_init := goodIn_r _ [82, 83, 2, 3, 84, 85, 5, 6, 86, 87, 88, 34, 35, 36, 37, 38, 39, 40, 41, 42, 43, 128, 129, 130, 98, 99, 100, 101, 102, 103] (by decide +kernel) (by decide +kernel)
set_option maxRecDepth 20000 in
theorem gX7_init_X0_init : GoodIn wsX7_init (wsX0_init) := ggX7_init_X0_init
set_option maxRecDepth 20000 in
theorem ggX7_init_X4_init : GoodIn wsX7_init wsX4_init := goodIn_r _ [91, 92, 2, 3, 93, 94, 95, 96, 97, 131, 132, 133, 134, 135] (by decide +kernel) (by decide +kernel)
set_option maxRecDepth 20000 in
theorem gX7_init_X4_init : GoodIn wsX7_init (wsX4_init) := ggX7_init_X4_init
theorem dX7_init_0 : decode cX7_init 0 = .ok (.aload_n 0, 1) := by decide +kernel
theorem dX7_init_1 : decode cX7_init 1 = .ok (.invokespecial 1, 3) := by decide +kernel
theorem dX7_init_4 : decode cX7_init 4 = .ok (.new 7, 3) := by decide +kernel
theorem dX7_init_7 : decode cX7_init 7 = .ok (.dup, 1) := by decide +kernel
theorem dX7_init_8 : decode cX7_init 8 = .ok (.invokespecial 9, 3) := by decide +kernel
theorem dX7_init_11 : decode cX7_init 11 = .ok (.astore_n 1, 1) := by decide +kernel
theorem dX7_init_12 : decode cX7_init 12 = .ok (.new 10, 3) := by decide +kernel
theorem dX7_init_15 : decode cX7_init 15 = .ok (.dup, 1) := by decide +kernel
theorem dX7_init_16 : decode cX7_init 16 = .ok (.aload_n 1, 1) := by decide +kernel
theorem dX7_init_17 : decode cX7_init 17 = .ok (.invokespecial 12, 3) := by decide +kernel
theorem dX7_init_20 : decode cX7_init 20 = .ok (.astore_n 2, 1) := by decide +kernel
theorem dX7_init_21 : decode cX7_init 21 = .ok (.new 15, 3) := by decide +kernel
theorem dX7_init_24 : decode cX7_init 24 = .ok (.dup, 1) := by decide +kernel
theorem dX7_init_25 : decode cX7_init 25 = .ok (.invokespecial 17, 3) := by decide +kernel
theorem dX7_init_28 : decode cX7_init 28 = .ok (.astore_n 3, 1) := by decide +kernel
theorem dX7_init_29 : decode cX7_init 29 = .ok (.aload_n 0, 1) := by decide +kernel
theorem dX7_init_30 : decode cX7_init 30 = .ok (.aload_n 1, 1) := by decide +kernel
theorem dX7_init_31 : decode cX7_init 31 = .ok (.putfield 18, 3) := by decide +kernel
theorem dX7_init_34 : decode cX7_init 34 = .ok (.aload_n 0, 1) := by decide +kernel
theorem dX7_init_35 : decode cX7_init 35 = .ok (.new 7, 3) := by decide +kernel
theorem dX7_init_38 : decode cX7_init 38 = .ok (.dup, 1) := by decide +kernel
theorem dX7_init_39 : decode cX7_init 39 = .ok (.invokespecial 9, 3) := by decide +kernel
theorem dX7_init_42 : decode cX7_init 42 = .ok (.putfield 24, 3) := by decide +kernel
theorem dX7_init_45 : decode cX7_init 45 = .ok (.aload_n 0, 1) := by decide +kernel
theorem dX7_init_46 : decode cX7_init 46 = .ok (.aload_n 2, 1) := by decide +kernel
theorem dX7_init_47 : decode cX7_init 47 = .ok (.putfield 27, 3) := by decide +kernel
theorem dX7_init_50 : decode cX7_init 50 = .ok (.aload_n 0, 1) := by decide +kernel
theorem dX7_init_51 : decode cX7_init 51 = .ok (.new 31, 3) := by decide +kernel
theorem dX7_init_54 : decode cX7_init 54 = .ok (.dup, 1) := by decide +kernel
theorem dX7_init_55 : decode cX7_init 55 = .ok (.aload_n 2, 1) := by decide +kernel
theorem dX7_init_56 : decode cX7_init 56 = .ok (.invokespecial 33, 3) := by decide +kernel
theorem dX7_init_59 : decode cX7_init 59 = .ok (.putfield 36, 3) := by decide +kernel
theorem dX7_init_62 : decode cX7_init 62 = .ok (.aload_n 0, 1) := by decide +kernel
theorem dX7_init_63 : decode cX7_init 63 = .ok (.new 40, 3) := by decide +kernel
theorem dX7_init_66 : decode cX7_init 66 = .ok (.dup, 1) := by decide +kernel
theorem dX7_init_67 : decode cX7_init 67 = .ok (.aload_n 1, 1) := by decide +kernel
theorem dX7_init_68 : decode cX7_init 68 = .ok (.invokespecial 42, 3) := by decide +kernel
theorem dX7_init_71 : decode cX7_init 71 = .ok (.putfield 43, 3) := by decide +kernel
theorem dX7_init_74 : decode cX7_init 74 = .ok (.aload_n 0, 1) := by decide +kernel
theorem dX7_init_75 : decode cX7_init 75 = .ok (.new 47, 3) := by decide +kernel
theorem dX7_init_78 : decode cX7_init 78 = .ok (.dup, 1) := by decide +kernel
theorem dX7_init_79 : decode cX7_init 79 = .ok (.invokespecial 49, 3) := by decide +kernel
theorem dX7_init_82 : decode cX7_init 82 = .ok (.putfield 50, 3) := by decide +kernel
theorem dX7_init_85 : decode cX7_init 85 = .ok (.aload_n 0, 1) := by decide +kernel
theorem dX7_init_86 : decode cX7_init 86 = .ok (.aload_n 3, 1) := by decide +kernel
theorem dX7_init_87 : decode cX7_init 87 = .ok (.putfield 54, 3) := by decide +kernel
theorem dX7_init_90 : decode cX7_init 90 = .ok (.aload_n 0, 1) := by decide +kernel
theorem dX7_init_91 : decode cX7_init 91 = .ok (.new 58, 3) := by decide +kernel
theorem dX7_init_94 : decode cX7_init 94 = .ok (.dup, 1) := by decide +kernel
theorem dX7_init_95 : decode cX7_init 95 = .ok (.aload_n 3, 1) := by decide +kernel
theorem dX7_init_96 : decode cX7_init 96 = .ok (.invokespecial 60, 3) := by decide +kernel
theorem dX7_init_99 : decode cX7_init 99 = .ok (.putfield 63, 3) := by decide +kernel
theorem dX7_init_102 : decode cX7_init 102 = .ok (.return_, 1) := by decide +kernel
set_option maxRecDepth 20000 in
theorem ggX7_setPage_X7_isWithin : GoodIn wsX7_setPage wsX7_isWithin := goodIn_r _ [7] (by decide +kernel) (by decide +kernel)
set_option maxRecDepth 20000 in
theorem gX7_setPage_X7_isWithin : GoodIn wsX7_setPage (va_wsS RX7 67 yX7_isWithin wsX7_isWithin) := goodIn_app (goodIn_of _ (by decide +kernel)) ggX7_setPage_X7_isWithin
set_option maxRecDepth 20000 in
theorem ggX7_setPage_X0_record : GoodIn wsX7_setPage wsX0_record := goodIn_r _ [12, 13, 14, 15, 16, 17, 11, 18, 19, 20, 21, 22, 23, 24, 25, 26, 27, 28, 29, 30, 31, 32, 33, 34, 103, 104, 105, 106, 107, 108, 109, 110, 111] (by decide +kernel) (by decide +kernel)
set_option maxRecDepth 20000 in
theorem gX7_setPage_X0_record : GoodIn wsX7_setPage (wsV RX7 71 RX0 yX0_record wsX0_record) := goodIn_app (goodIn_of _ (by decide +kernel)) ggX7_setPage_X0_record
set_option maxRecDepth 20000 in
theorem ggX7_setPage_X1_resize : GoodIn wsX7_setPage wsX1_resize := goodIn_r _ [38, 31, 32, 106, 107, 108, 109, 110, 111] (by decide +kernel) (by decide +kernel)
set_option maxRecDepth 20000 in
theorem gX7_setPage_X1_resize : GoodIn wsX7_setPage (wsV RX7 74 RX1 yX1_resize wsX1_resize) := goodIn_app (goodIn_of _ (by decide +kernel)) ggX7_setPage_X1_resize
set_option maxRecDepth 20000 in
theorem ggX7_setPage_X5_look : GoodIn wsX7_setPage wsX5_look := goodIn_r _ [43, 44, 45, 46, 47, 48, 49, 50, 51, 52, 23, 53, 33, 54, 55, 56, 57, 30, 58, 6, 59, 60, 61, 62, 42, 63, 64, 65, 66, 67, 68, 69, 25, 70, 71, 72, 73, 31, 74, 75, 76, 77, 32, 78, 79, 80, 81, 82, 83, 84, 85, 86, 112, 113, 114, 115, 106, 107, 108, 109, 110, 111] (by decide +kernel) (by decide +kernel)
set_option maxRecDepth 20000 in
theorem gX7_setPage_X5_look : GoodIn wsX7_setPage (wsV RX7 78 RX5 yX5_look wsX5_look) := goodIn_app (goodIn_of _ (by decide +kernel)) ggX7_setPage_X5_look
set_option maxRecDepth 20000 in
theorem ggX7_setPage_X5_contentPieces : GoodIn wsX7_setPage wsX5_contentPieces := goodIn_r _ [90, 45, 50, 51, 52, 23, 53, 33, 91, 92, 93, 42, 94, 65, 66, 67, 68, 69, 25, 58, 6, 59, 112, 113, 114, 115, 106, 107, 108, 109, 110, 111] (by decide +kernel) (by decide +kernel)
set_option maxRecDepth 20000 in
theorem gX7_setPage_X5_contentPieces : GoodIn wsX7_setPage (wsV RX7 81 RX5 yX5_contentPieces wsX5_contentPieces) := goodIn_app (goodIn_of _ (by decide +kernel)) ggX7_setPage_X5_contentPieces
theorem dX7_setPage_0 : decode cX7_setPage 0 = .ok (.iload_n 1, 1) := by decide +kernel
theorem dX7_setPage_1 : decode cX7_setPage 1 = .ok (.iconst 4, 1) := by decide +kernel
theorem dX7_setPage_2 : decode cX7_setPage 2 = .ok (.bipush 24, 2) := by decide +kernel
theorem dX7_setPage_4 : decode cX7_setPage 4 = .ok (.invokestatic 67, 3) := by decide +kernel
theorem dX7_setPage_7 : decode cX7_setPage 7 = .ok (.ifCond .eq 13, 3) := by decide +kernel
theorem dX7_setPage_10 : decode cX7_setPage 10 = .ok (.iload_n 2, 1) := by decide +kernel
theorem dX7_setPage_11 : decode cX7_setPage 11 = .ok (.iconst 4, 1) := by decide +kernel
theorem dX7_setPage_12 : decode cX7_setPage 12 = .ok (.bipush 24, 2) := by decide +kernel
theorem dX7_setPage_14 : decode cX7_setPage 14 = .ok (.invokestatic 67, 3) := by decide +kernel
theorem dX7_setPage_17 : decode cX7_setPage 17 = .ok (.ifCond .ne 6, 3) := by decide +kernel
theorem dX7_setPage_20 : decode cX7_setPage 20 = .ok (.bipush (-101), 2) := by decide +kernel
theorem dX7_setPage_22 : decode cX7_setPage 22 = .ok (.ireturn, 1) := by decide +kernel
theorem dX7_setPage_23 : decode cX7_setPage 23 = .ok (.aload_n 0, 1) := by decide +kernel
theorem dX7_setPage_24 : decode cX7_setPage 24 = .ok (.getfield 50, 3) := by decide +kernel
theorem dX7_setPage_27 : decode cX7_setPage 27 = .ok (.aload_n 0, 1) := by decide +kernel
theorem dX7_setPage_28 : decode cX7_setPage 28 = .ok (.getfield 18, 3) := by decide +kernel
theorem dX7_setPage_31 : decode cX7_setPage 31 = .ok (.invokevirtual 71, 3) := by decide +kernel
theorem dX7_setPage_34 : decode cX7_setPage 34 = .ok (.aload_n 0, 1) := by decide +kernel
theorem dX7_setPage_35 : decode cX7_setPage 35 = .ok (.getfield 18, 3) := by decide +kernel
theorem dX7_setPage_38 : decode cX7_setPage 38 = .ok (.iload_n 1, 1) := by decide +kernel
theorem dX7_setPage_39 : decode cX7_setPage 39 = .ok (.iload_n 2, 1) := by decide +kernel
theorem dX7_setPage_40 : decode cX7_setPage 40 = .ok (.invokevirtual 74, 3) := by decide +kernel
theorem dX7_setPage_43 : decode cX7_setPage 43 = .ok (.aload_n 0, 1) := by decide +kernel
theorem dX7_setPage_44 : decode cX7_setPage 44 = .ok (.getfield 27, 3) := by decide +kernel
theorem dX7_setPage_47 : decode cX7_setPage 47 = .ok (.invokevirtual 78, 3) := by decide +kernel
theorem dX7_setPage_50 : decode cX7_setPage 50 = .ok (.aload_n 0, 1) := by decide +kernel
theorem dX7_setPage_51 : decode cX7_setPage 51 = .ok (.getfield 27, 3) := by decide +kernel
theorem dX7_setPage_54 : decode cX7_setPage 54 = .ok (.invokevirtual 81, 3) := by decide +kernel
theorem dX7_setPage_57 : decode cX7_setPage 57 = .ok (.ireturn, 1) := by decide +kernel
set_option maxRecDepth 20000 in
theorem ggX7_addPiece_X7_fits : GoodIn wsX7_addPiece wsX7_fits := goodIn_r _ [6, 7, 8, 9, 10, 5, 11, 12, 13, 14] (by decide +kernel) (by decide +kernel)
set_option maxRecDepth 20000 in
theorem gX7_addPiece_X7_fits : GoodIn wsX7_addPiece (va_wsS RX7 85 yX7_fits wsX7_fits) := goodIn_app (goodIn_of _ (by decide +kernel)) ggX7_addPiece_X7_fits
set_option maxRecDepth 20000 in
theorem ggX7_addPiece_X1_isFull : GoodIn wsX7_addPiece wsX1_isFull := goodIn_r _ [19, 20, 65, 66, 67, 68, 69, 70] (by decide +kernel) (by decide +kernel)
set_option maxRecDepth 20000 in
theorem gX7_addPiece_X1_isFull : GoodIn wsX7_addPiece (wsV RX7 89 RX1 yX1_isFull wsX1_isFull) := goodIn_app (goodIn_of _ (by decide +kernel)) ggX7_addPiece_X1_isFull
set_option maxRecDepth 20000 in
theorem ggX7_addPiece_X0_record : GoodIn wsX7_addPiece wsX0_record := goodIn_r _ [25, 26, 27, 28, 29, 30, 24, 31, 32, 33, 34, 35, 18, 36, 37, 38, 39, 40, 41, 42, 43, 44, 20, 45, 71, 72, 73, 65, 66, 67, 68, 69, 70] (by decide +kernel) (by decide +kernel)
set_option maxRecDepth 20000 in
theorem gX7_addPiece_X0_record : GoodIn wsX7_addPiece (wsV RX7 71 RX0 yX0_record wsX0_record) := goodIn_app (goodIn_of _ (by decide +kernel)) ggX7_addPiece_X0_record
set_option maxRecDepth 20000 in
theorem ggX7_addPiece_X1_addBlank : GoodIn wsX7_addPiece wsX1_addBlank := goodIn_r _ [49, 20, 42, 50, 51, 52, 18, 53, 37, 54, 5, 55, 65, 66, 67, 68, 69, 70] (by decide +kernel) (by decide +kernel)
set_option maxRecDepth 20000 in
theorem gX7_addPiece_X1_addBlank : GoodIn wsX7_addPiece (wsV RX7 93 RX1 yX1_addBlank wsX1_addBlank) := goodIn_app (goodIn_of _ (by decide +kernel)) ggX7_addPiece_X1_addBlank
set_option maxRecDepth 20000 in
theorem ggX7_addPiece_X1_set : GoodIn wsX7_addPiece wsX1_set := goodIn_r _ [53, 37, 54, 5, 55, 65, 66, 67, 68, 69, 70] (by decide +kernel) (by decide +kernel)
set_option maxRecDepth 20000 in
theorem gX7_addPiece_X1_set : GoodIn wsX7_addPiece (wsV RX7 96 RX1 yX1_set wsX1_set) := goodIn_app (goodIn_of _ (by decide +kernel)) ggX7_addPiece_X1_set
theorem dX7_addPiece_0 : decode cX7_addPiece 0 = .ok (.iconst 0, 1) := by decide +kernel
theorem dX7_addPiece_1 : decode cX7_addPiece 1 = .ok (.iload_n 1, 1) := by decide +kernel
theorem dX7_addPiece_2 : decode cX7_addPiece 2 = .ok (.invokestatic 85, 3) := by decide +kernel
theorem dX7_addPiece_5 : decode cX7_addPiece 5 = .ok (.ifCond .eq 37, 3) := by decide +kernel
theorem dX7_addPiece_8 : decode cX7_addPiece 8 = .ok (.iconst 1, 1) := by decide +kernel
theorem dX7_addPiece_9 : decode cX7_addPiece 9 = .ok (.iload_n 2, 1) := by decide +kernel
theorem dX7_addPiece_10 : decode cX7_addPiece 10 = .ok (.invokestatic 85, 3) := by decide +kernel
theorem dX7_addPiece_13 : decode cX7_addPiece 13 = .ok (.ifCond .eq 29, 3) := by decide +kernel
theorem dX7_addPiece_16 : decode cX7_addPiece 16 = .ok (.iconst 2, 1) := by decide +kernel
theorem dX7_addPiece_17 : decode cX7_addPiece 17 = .ok (.iload_n 3, 1) := by decide +kernel
theorem dX7_addPiece_18 : decode cX7_addPiece 18 = .ok (.invokestatic 85, 3) := by decide +kernel
theorem dX7_addPiece_21 : decode cX7_addPiece 21 = .ok (.ifCond .eq 21, 3) := by decide +kernel
theorem dX7_addPiece_24 : decode cX7_addPiece 24 = .ok (.iconst 3, 1) := by decide +kernel
theorem dX7_addPiece_25 : decode cX7_addPiece 25 = .ok (.iload 4, 2) := by decide +kernel
theorem dX7_addPiece_27 : decode cX7_addPiece 27 = .ok (.invokestatic 85, 3) := by decide +kernel
theorem dX7_addPiece_30 : decode cX7_addPiece 30 = .ok (.ifCond .eq 12, 3) := by decide +kernel
theorem dX7_addPiece_33 : decode cX7_addPiece 33 = .ok (.iconst 4, 1) := by decide +kernel
theorem dX7_addPiece_34 : decode cX7_addPiece 34 = .ok (.iload 5, 2) := by decide +kernel
theorem dX7_addPiece_36 : decode cX7_addPiece 36 = .ok (.invokestatic 85, 3) := by decide +kernel
theorem dX7_addPiece_39 : decode cX7_addPiece 39 = .ok (.ifCond .ne 6, 3) := by decide +kernel
theorem dX7_addPiece_42 : decode cX7_addPiece 42 = .ok (.bipush (-101), 2) := by decide +kernel
theorem dX7_addPiece_44 : decode cX7_addPiece 44 = .ok (.ireturn, 1) := by decide +kernel
theorem dX7_addPiece_45 : decode cX7_addPiece 45 = .ok (.aload_n 0, 1) := by decide +kernel
theorem dX7_addPiece_46 : decode cX7_addPiece 46 = .ok (.getfield 18, 3) := by decide +kernel
theorem dX7_addPiece_49 : decode cX7_addPiece 49 = .ok (.invokevirtual 89, 3) := by decide +kernel
theorem dX7_addPiece_52 : decode cX7_addPiece 52 = .ok (.ifCond .eq 6, 3) := by decide +kernel
theorem dX7_addPiece_55 : decode cX7_addPiece 55 = .ok (.bipush (-103), 2) := by decide +kernel
theorem dX7_addPiece_57 : decode cX7_addPiece 57 = .ok (.ireturn, 1) := by decide +kernel
theorem dX7_addPiece_58 : decode cX7_addPiece 58 = .ok (.aload_n 0, 1) := by decide +kernel
theorem dX7_addPiece_59 : decode cX7_addPiece 59 = .ok (.getfield 50, 3) := by decide +kernel
theorem dX7_addPiece_62 : decode cX7_addPiece 62 = .ok (.aload_n 0, 1) := by decide +kernel
theorem dX7_addPiece_63 : decode cX7_addPiece 63 = .ok (.getfield 18, 3) := by decide +kernel
theorem dX7_addPiece_66 : decode cX7_addPiece 66 = .ok (.invokevirtual 71, 3) := by decide +kernel
theorem dX7_addPiece_69 : decode cX7_addPiece 69 = .ok (.aload_n 0, 1) := by decide +kernel
theorem dX7_addPiece_70 : decode cX7_addPiece 70 = .ok (.getfield 18, 3) := by decide +kernel
theorem dX7_addPiece_73 : decode cX7_addPiece 73 = .ok (.invokevirtual 93, 3) := by decide +kernel
theorem dX7_addPiece_76 : decode cX7_addPiece 76 = .ok (.istore 6, 2) := by decide +kernel
theorem dX7_addPiece_78 : decode cX7_addPiece 78 = .ok (.aload_n 0, 1) := by decide +kernel
theorem dX7_addPiece_79 : decode cX7_addPiece 79 = .ok (.getfield 18, 3) := by decide +kernel
theorem dX7_addPiece_82 : decode cX7_addPiece 82 = .ok (.iload 6, 2) := by decide +kernel
theorem dX7_addPiece_84 : decode cX7_addPiece 84 = .ok (.iconst 0, 1) := by decide +kernel
theorem dX7_addPiece_85 : decode cX7_addPiece 85 = .ok (.iload_n 1, 1) := by decide +kernel
theorem dX7_addPiece_86 : decode cX7_addPiece 86 = .ok (.invokevirtual 96, 3) := by decide +kernel
theorem dX7_addPiece_89 : decode cX7_addPiece 89 = .ok (.aload_n 0, 1) := by decide +kernel
theorem dX7_addPiece_90 : decode cX7_addPiece 90 = .ok (.getfield 18, 3) := by decide +kernel
theorem dX7_addPiece_93 : decode cX7_addPiece 93 = .ok (.iload 6, 2) := by decide +kernel
theorem dX7_addPiece_95 : decode cX7_addPiece 95 = .ok (.iconst 1, 1) := by decide +kernel
theorem dX7_addPiece_96 : decode cX7_addPiece 96 = .ok (.iload_n 2, 1) := by decide +kernel
theorem dX7_addPiece_97 : decode cX7_addPiece 97 = .ok (.invokevirtual 96, 3) := by decide +kernel
theorem dX7_addPiece_100 : decode cX7_addPiece 100 = .ok (.aload_n 0, 1) := by decide +kernel
theorem dX7_addPiece_101 : decode cX7_addPiece 101 = .ok (.getfield 18, 3) := by decide +kernel
theorem dX7_addPiece_104 : decode cX7_addPiece 104 = .ok (.iload 6, 2) := by decide +kernel
theorem dX7_addPiece_106 : decode cX7_addPiece 106 = .ok (.iconst 2, 1) := by decide +kernel
theorem dX7_addPiece_107 : decode cX7_addPiece 107 = .ok (.iload_n 3, 1) := by decide +kernel
theorem dX7_addPiece_108 : decode cX7_addPiece 108 = .ok (.invokevirtual 96, 3) := by decide +kernel
theorem dX7_addPiece_111 : decode cX7_addPiece 111 = .ok (.aload_n 0, 1) := by decide +kernel
theorem dX7_addPiece_112 : decode cX7_addPiece 112 = .ok (.getfield 18, 3) := by decide +kernel
theorem dX7_addPiece_115 : decode cX7_addPiece 115 = .ok (.iload 6, 2) := by decide +kernel
theorem dX7_addPiece_117 : decode cX7_addPiece 117 = .ok (.iconst 3, 1) := by decide +kernel
theorem dX7_addPiece_118 : decode cX7_addPiece 118 = .ok (.iload 4, 2) := by decide +kernel
theorem dX7_addPiece_120 : decode cX7_addPiece 120 = .ok (.invokevirtual 96, 3) := by decide +kernel
theorem dX7_addPiece_123 : decode cX7_addPiece 123 = .ok (.aload_n 0, 1) := by decide +kernel
theorem dX7_addPiece_124 : decode cX7_addPiece 124 = .ok (.getfield 18, 3) := by decide +kernel
theorem dX7_addPiece_127 : decode cX7_addPiece 127 = .ok (.iload 6, 2) := by decide +kernel
theorem dX7_addPiece_129 : decode cX7_addPiece 129 = .ok (.iconst 4, 1) := by decide +kernel
theorem dX7_addPiece_130 : decode cX7_addPiece 130 = .ok (.iload 5, 2) := by decide +kernel
theorem dX7_addPiece_132 : decode cX7_addPiece 132 = .ok (.invokevirtual 96, 3) := by decide +kernel
theorem dX7_addPiece_135 : decode cX7_addPiece 135 = .ok (.iload 6, 2) := by decide +kernel
theorem dX7_addPiece_137 : decode cX7_addPiece 137 = .ok (.ireturn, 1) := by decide +kernel
set_option maxRecDepth 20000 in
theorem ggX7_removePiece_X1_has : GoodIn wsX7_removePiece wsX1_has := goodIn_r _ [7, 8, 63, 64, 65, 66, 67, 68] (by decide +kernel) (by decide +kernel)
set_option maxRecDepth 20000 in
theorem gX7_removePiece_X1_has : GoodIn wsX7_removePiece (wsV RX7 100 RX1 yX1_has wsX1_has) := goodIn_app (goodIn_of _ (by decide +kernel)) ggX7_removePiece_X1_has
set_option maxRecDepth 20000 in
theorem ggX7_removePiece_X0_record : GoodIn wsX7_removePiece wsX0_record := goodIn_r _ [13, 14, 15, 16, 17, 18, 12, 19, 20, 21, 22, 23, 6, 24, 25, 26, 27, 28, 29, 30, 31, 32, 8, 33, 69, 70, 71, 63, 64, 65, 66, 67, 68] (by decide +kernel) (by decide +kernel)
set_option maxRecDepth 20000 in
theorem gX7_removePiece_X0_record : GoodIn wsX7_removePiece (wsV RX7 71 RX0 yX0_record wsX0_record) := goodIn_app (goodIn_of _ (by decide +kernel)) ggX7_removePiece_X0_record
set_option maxRecDepth 20000 in
theorem ggX7_removePiece_X1_remove : GoodIn wsX7_removePiece wsX1_remove := goodIn_r _ [37, 8, 30, 25, 38, 39, 40, 6, 41, 42, 43, 44, 45, 46, 47, 48, 49, 50, 63, 64, 65, 66, 67, 68] (by decide +kernel) (by decide +kernel)
set_option maxRecDepth 20000 in
theorem gX7_removePiece_X1_remove : GoodIn wsX7_removePiece (wsV RX7 104 RX1 yX1_remove wsX1_remove) := goodIn_app (goodIn_of _ (by decide +kernel)) ggX7_removePiece_X1_remove
set_option maxRecDepth 20000 in
theorem ggX7_removePiece_X1_pieces : GoodIn wsX7_removePiece wsX1_pieces := goodIn_r _ [54, 8, 63, 64, 65, 66, 67, 68] (by decide +kernel) (by decide +kernel)
set_option maxRecDepth 20000 in
theorem gX7_removePiece_X1_pieces : GoodIn wsX7_removePiece (wsV RX7 108 RX1 yX1_pieces wsX1_pieces) := goodIn_app (goodIn_of _ (by decide +kernel)) ggX7_removePiece_X1_pieces
theorem dX7_removePiece_0 : decode cX7_removePiece 0 = .ok (.aload_n 0, 1) := by decide +kernel
theorem dX7_removePiece_1 : decode cX7_removePiece 1 = .ok (.getfield 18, 3) := by decide +kernel
theorem dX7_removePiece_4 : decode cX7_removePiece 4 = .ok (.iload_n 1, 1) := by decide +kernel
theorem dX7_removePiece_5 : decode cX7_removePiece 5 = .ok (.invokevirtual 100, 3) := by decide +kernel
theorem dX7_removePiece_8 : decode cX7_removePiece 8 = .ok (.ifCond .ne 6, 3) := by decide +kernel
theorem dX7_removePiece_11 : decode cX7_removePiece 11 = .ok (.bipush (-101), 2) := by decide +kernel
theorem dX7_removePiece_13 : decode cX7_removePiece 13 = .ok (.ireturn, 1) := by decide +kernel
theorem dX7_removePiece_14 : decode cX7_removePiece 14 = .ok (.aload_n 0, 1) := by decide +kernel
theorem dX7_removePiece_15 : decode cX7_removePiece 15 = .ok (.getfield 50, 3) := by decide +kernel
theorem dX7_removePiece_18 : decode cX7_removePiece 18 = .ok (.aload_n 0, 1) := by decide +kernel
theorem dX7_removePiece_19 : decode cX7_removePiece 19 = .ok (.getfield 18, 3) := by decide +kernel
theorem dX7_removePiece_22 : decode cX7_removePiece 22 = .ok (.invokevirtual 71, 3) := by decide +kernel
theorem dX7_removePiece_25 : decode cX7_removePiece 25 = .ok (.aload_n 0, 1) := by decide +kernel
theorem dX7_removePiece_26 : decode cX7_removePiece 26 = .ok (.getfield 18, 3) := by decide +kernel
theorem dX7_removePiece_29 : decode cX7_removePiece 29 = .ok (.iload_n 1, 1) := by decide +kernel
theorem dX7_removePiece_30 : decode cX7_removePiece 30 = .ok (.invokevirtual 104, 3) := by decide +kernel
theorem dX7_removePiece_33 : decode cX7_removePiece 33 = .ok (.aload_n 0, 1) := by decide +kernel
theorem dX7_removePiece_34 : decode cX7_removePiece 34 = .ok (.getfield 18, 3) := by decide +kernel
theorem dX7_removePiece_37 : decode cX7_removePiece 37 = .ok (.invokevirtual 108, 3) := by decide +kernel
theorem dX7_removePiece_40 : decode cX7_removePiece 40 = .ok (.ireturn, 1) := by decide +kernel
set_option maxRecDepth 20000 in
theorem ggX7_setShare_X7_setProperty : GoodIn wsX7_setShare wsX7_setProperty := goodIn_r _ [5, 6, 7, 8, 9, 10, 11, 12, 13, 14, 15, 4, 16, 17, 18, 19, 20, 21, 22, 23, 24, 25, 26, 27, 28, 29, 30, 31, 32, 33, 34, 35, 36, 37, 38, 39, 40, 41, 42, 43, 44, 45, 46, 47, 48, 49, 50, 51, 52, 53, 54, 55, 56, 57, 58, 59, 60, 61, 62, 63, 64, 65, 66, 67, 68, 69, 70, 71, 72, 73, 74, 75, 76] (by decide +kernel) (by decide +kernel)
set_option maxRecDepth 20000 in
theorem gX7_setShare_X7_setProperty : GoodIn wsX7_setShare (wsV RX7 111 RX7 yX7_setProperty wsX7_setProperty) := goodIn_app (goodIn_of _ (by decide +kernel)) ggX7_setShare_X7_setProperty
theorem dX7_setShare_0 : decode cX7_setShare 0 = .ok (.aload_n 0, 1) := by decide +kernel
theorem dX7_setShare_1 : decode cX7_setShare 1 = .ok (.iload_n 1, 1) := by decide +kernel
theorem dX7_setShare_2 : decode cX7_setShare 2 = .ok (.iconst 4, 1) := by decide +kernel
theorem dX7_setShare_3 : decode cX7_setShare 3 = .ok (.iload_n 2, 1) := by decide +kernel
theorem dX7_setShare_4 : decode cX7_setShare 4 = .ok (.invokevirtual 111, 3) := by decide +kernel
theorem dX7_setShare_7 : decode cX7_setShare 7 = .ok (.ireturn, 1) := by decide +kernel
set_option maxRecDepth 20000 in
theorem ggX7_setFrame_X7_setProperty : GoodIn wsX7_setFrame wsX7_setProperty := goodIn_r _ [5, 6, 7, 8, 9, 10, 11, 12, 13, 14, 15, 4, 16, 17, 18, 19, 20, 21, 22, 23, 24, 25, 26, 27, 28, 29, 30, 31, 32, 33, 34, 35, 36, 37, 38, 39, 40, 41, 42, 43, 44, 45, 46, 47, 48, 49, 50, 51, 52, 53, 54, 55, 56, 57, 58, 59, 60, 61, 62, 63, 64, 65, 66, 67, 68, 69, 70, 71, 72, 73, 74, 75, 76] (by decide +kernel) (by decide +kernel)
set_option maxRecDepth 20000 in
theorem gX7_setFrame_X7_setProperty : GoodIn wsX7_setFrame (wsV RX7 111 RX7 yX7_setProperty wsX7_setProperty) := goodIn_app (goodIn_of _ (by decide +kernel)) ggX7_setFrame_X7_setProperty
theorem dX7_setFrame_0 : decode cX7_setFrame 0 = .ok (.aload_n 0, 1) := by decide +kernel
theorem dX7_setFrame_1 : decode cX7_setFrame 1 = .ok (.iload_n 1, 1) := by decide +kernel
theorem dX7_setFrame_2 : decode cX7_setFrame 2 = .ok (.iconst 5, 1) := by decide +kernel
theorem dX7_setFrame_3 : decode cX7_setFrame 3 = .ok (.iload_n 2, 1) := by decide +kernel
theorem dX7_setFrame_4 : decode cX7_setFrame 4 = .ok (.invokevirtual 111, 3) := by decide +kernel
theorem dX7_setFrame_7 : decode cX7_setFrame 7 = .ok (.ireturn, 1) := by decide +kernel
set_option maxRecDepth 20000 in
theorem ggX7_shift_X1_has : GoodIn wsX7_shift wsX1_has := goodIn_r _ [7, 8, 75, 76, 77, 78, 79, 80] (by decide +kernel) (by decide +kernel)
set_option maxRecDepth 20000 in
theorem gX7_shift_X1_has : GoodIn wsX7_shift (wsV RX7 100 RX1 yX1_has wsX1_has) := goodIn_app (goodIn_of _ (by decide +kernel)) ggX7_shift_X1_has
set_option maxRecDepth 20000 in
theorem ggX7_shift_X7_isWithin : GoodIn wsX7_shift wsX7_isWithin := goodIn_r _ [12] (by decide +kernel) (by decide +kernel)
set_option maxRecDepth 20000 in
theorem gX7_shift_X7_isWithin : GoodIn wsX7_shift (va_wsS RX7 67 yX7_isWithin wsX7_isWithin) := goodIn_app (goodIn_of _ (by decide +kernel)) ggX7_shift_X7_isWithin
set_option maxRecDepth 20000 in
theorem ggX7_shift_X1_canMove : GoodIn wsX7_shift wsX1_canMove := goodIn_r _ [16, 17, 18, 19, 6, 20, 21, 22, 11, 23, 24, 25, 26, 27, 28, 9, 10, 12, 75, 76, 77, 78, 79, 80] (by decide +kernel) (by decide +kernel)
set_option maxRecDepth 20000 in
theorem gX7_shift_X1_canMove : GoodIn wsX7_shift (wsV RX7 115 RX1 yX1_canMove wsX1_canMove) := goodIn_app (goodIn_of _ (by decide +kernel)) ggX7_shift_X1_canMove
set_option maxRecDepth 20000 in
theorem ggX7_shift_X0_record : GoodIn wsX7_shift wsX0_record := goodIn_r _ [33, 34, 35, 36, 37, 38, 32, 39, 40, 41, 42, 43, 6, 44, 21, 45, 46, 47, 48, 49, 50, 51, 8, 52, 81, 82, 83, 75, 76, 77, 78, 79, 80] (by decide +kernel) (by decide +kernel)
set_option maxRecDepth 20000 in
theorem gX7_shift_X0_record : GoodIn wsX7_shift (wsV RX7 71 RX0 yX0_record wsX0_record) := goodIn_app (goodIn_of _ (by decide +kernel)) ggX7_shift_X0_record
set_option maxRecDepth 20000 in
theorem ggX7_shift_X1_move : GoodIn wsX7_shift wsX1_move := goodIn_r _ [56, 57, 58, 59, 60, 52, 17, 18, 19, 6, 20, 21, 61, 62, 63, 64, 65, 11, 66, 75, 76, 77, 78, 79, 80] (by decide +kernel) (by decide +kernel)
set_option maxRecDepth 20000 in
theorem gX7_shift_X1_move : GoodIn wsX7_shift (wsV RX7 118 RX1 yX1_move wsX1_move) := goodIn_app (goodIn_of _ (by decide +kernel)) ggX7_shift_X1_move
theorem dX7_shift_0 : decode cX7_shift 0 = .ok (.aload_n 0, 1) := by decide +kernel
theorem dX7_shift_1 : decode cX7_shift 1 = .ok (.getfield 18, 3) := by decide +kernel
theorem dX7_shift_4 : decode cX7_shift 4 = .ok (.iload_n 1, 1) := by decide +kernel
theorem dX7_shift_5 : decode cX7_shift 5 = .ok (.invokevirtual 100, 3) := by decide +kernel
theorem dX7_shift_8 : decode cX7_shift 8 = .ok (.ifCond .eq 25, 3) := by decide +kernel
theorem dX7_shift_11 : decode cX7_shift 11 = .ok (.iload_n 2, 1) := by decide +kernel
theorem dX7_shift_12 : decode cX7_shift 12 = .ok (.bipush (-60), 2) := by decide +kernel
theorem dX7_shift_14 : decode cX7_shift 14 = .ok (.bipush 60, 2) := by decide +kernel
theorem dX7_shift_16 : decode cX7_shift 16 = .ok (.invokestatic 67, 3) := by decide +kernel
theorem dX7_shift_19 : decode cX7_shift 19 = .ok (.ifCond .eq 14, 3) := by decide +kernel
theorem dX7_shift_22 : decode cX7_shift 22 = .ok (.iload_n 3, 1) := by decide +kernel
theorem dX7_shift_23 : decode cX7_shift 23 = .ok (.bipush (-60), 2) := by decide +kernel
theorem dX7_shift_25 : decode cX7_shift 25 = .ok (.bipush 60, 2) := by decide +kernel
theorem dX7_shift_27 : decode cX7_shift 27 = .ok (.invokestatic 67, 3) := by decide +kernel
theorem dX7_shift_30 : decode cX7_shift 30 = .ok (.ifCond .ne 6, 3) := by decide +kernel
theorem dX7_shift_33 : decode cX7_shift 33 = .ok (.bipush (-101), 2) := by decide +kernel
theorem dX7_shift_35 : decode cX7_shift 35 = .ok (.ireturn, 1) := by decide +kernel
theorem dX7_shift_36 : decode cX7_shift 36 = .ok (.aload_n 0, 1) := by decide +kernel
theorem dX7_shift_37 : decode cX7_shift 37 = .ok (.getfield 18, 3) := by decide +kernel
theorem dX7_shift_40 : decode cX7_shift 40 = .ok (.iload_n 1, 1) := by decide +kernel
theorem dX7_shift_41 : decode cX7_shift 41 = .ok (.iload_n 2, 1) := by decide +kernel
theorem dX7_shift_42 : decode cX7_shift 42 = .ok (.iload_n 3, 1) := by decide +kernel
theorem dX7_shift_43 : decode cX7_shift 43 = .ok (.invokevirtual 115, 3) := by decide +kernel
theorem dX7_shift_46 : decode cX7_shift 46 = .ok (.ifCond .ne 6, 3) := by decide +kernel
theorem dX7_shift_49 : decode cX7_shift 49 = .ok (.bipush (-102), 2) := by decide +kernel
theorem dX7_shift_51 : decode cX7_shift 51 = .ok (.ireturn, 1) := by decide +kernel
theorem dX7_shift_52 : decode cX7_shift 52 = .ok (.aload_n 0, 1) := by decide +kernel
theorem dX7_shift_53 : decode cX7_shift 53 = .ok (.getfield 50, 3) := by decide +kernel
theorem dX7_shift_56 : decode cX7_shift 56 = .ok (.aload_n 0, 1) := by decide +kernel
theorem dX7_shift_57 : decode cX7_shift 57 = .ok (.getfield 18, 3) := by decide +kernel
theorem dX7_shift_60 : decode cX7_shift 60 = .ok (.invokevirtual 71, 3) := by decide +kernel
theorem dX7_shift_63 : decode cX7_shift 63 = .ok (.aload_n 0, 1) := by decide +kernel
theorem dX7_shift_64 : decode cX7_shift 64 = .ok (.getfield 18, 3) := by decide +kernel
theorem dX7_shift_67 : decode cX7_shift 67 = .ok (.iload_n 1, 1) := by decide +kernel
theorem dX7_shift_68 : decode cX7_shift 68 = .ok (.iload_n 2, 1) := by decide +kernel
theorem dX7_shift_69 : decode cX7_shift 69 = .ok (.iload_n 3, 1) := by decide +kernel
theorem dX7_shift_70 : decode cX7_shift 70 = .ok (.invokevirtual 118, 3) := by decide +kernel
theorem dX7_shift_73 : decode cX7_shift 73 = .ok (.ireturn, 1) := by decide +kernel
set_option maxRecDepth 20000 in
theorem ggX7_setLayer_X1_has : GoodIn wsX7_setLayer wsX1_has := goodIn_r _ [7, 8, 55, 56, 57, 58, 59, 60] (by decide +kernel) (by decide +kernel)
set_option maxRecDepth 20000 in
theorem gX7_setLayer_X1_has : GoodIn wsX7_setLayer (wsV RX7 100 RX1 yX1_has wsX1_has) := goodIn_app (goodIn_of _ (by decide +kernel)) ggX7_setLayer_X1_has
set_option maxRecDepth 20000 in
theorem ggX7_setLayer_X0_record : GoodIn wsX7_setLayer wsX0_record := goodIn_r _ [13, 14, 15, 16, 17, 18, 12, 19, 20, 21, 22, 23, 6, 24, 25, 26, 27, 28, 29, 30, 31, 32, 8, 33, 61, 62, 63, 55, 56, 57, 58, 59, 60] (by decide +kernel) (by decide +kernel)
set_option maxRecDepth 20000 in
theorem gX7_setLayer_X0_record : GoodIn wsX7_setLayer (wsV RX7 71 RX0 yX0_record wsX0_record) := goodIn_app (goodIn_of _ (by decide +kernel)) ggX7_setLayer_X0_record
set_option maxRecDepth 20000 in
theorem ggX7_setLayer_X1_putIntoLayer : GoodIn wsX7_setLayer wsX1_putIntoLayer := goodIn_r _ [37, 30, 38, 39, 40, 6, 41, 8, 42, 43, 44, 45, 46, 55, 56, 57, 58, 59, 60] (by decide +kernel) (by decide +kernel)
