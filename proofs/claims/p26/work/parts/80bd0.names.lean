set_option maxRecDepth 100000 in
theorem ggX5_lookAt_X1_span : GoodIn wsX5_lookAt wsX1_span := goodIn_r _ [14, 15, 37, 38, 39, 40, 41, 42] rfl (by decide +kernel)
set_option maxRecDepth 100000 in
theorem gX5_lookAt_X1_span : GoodIn wsX5_lookAt (wsV RX5 49 RX1 yX1_span wsX1_span) := goodIn_app (goodIn_of _ (by decide +kernel)) ggX5_lookAt_X1_span
set_option maxRecDepth 100000 in
theorem ggX5_lookAt_X7_at : GoodIn wsX5_lookAt wsX7_at := goodIn_r _ [18] rfl (by decide +kernel)
set_option maxRecDepth 100000 in
theorem gX5_lookAt_X7_at_n52 : GoodIn wsX5_lookAt (wsX7_at) := ggX5_lookAt_X7_at
set_option maxRecDepth 100000 in
theorem ggX5_lookAt_X1_hasRow : GoodIn wsX5_lookAt wsX1_hasRow := goodIn_r _ [22, 23, 37, 38, 39, 40, 41, 42] rfl (by decide +kernel)
set_option maxRecDepth 100000 in
theorem gX5_lookAt_X1_hasRow : GoodIn wsX5_lookAt (wsV RX5 56 RX1 yX1_hasRow wsX1_hasRow) := goodIn_app (goodIn_of _ (by decide +kernel)) ggX5_lookAt_X1_hasRow
set_option maxRecDepth 100000 in
theorem ggX5_lookAt_X7_put : GoodIn wsX5_lookAt wsX7_put := goodIn_r _ [25] rfl (by decide +kernel)
set_option maxRecDepth 100000 in
theorem gX5_lookAt_X7_put_n60 : GoodIn wsX5_lookAt (wsX7_put) := ggX5_lookAt_X7_put
set_option maxRecDepth 100000 in
theorem ggX5_lookAt_J6_bitCount_0f7a4 : GoodIn wsX5_lookAt wsJ6_bitCount_0f7a4 := goodIn_r _ [29, 30, 31, 32] rfl (by decide +kernel)
set_option maxRecDepth 100000 in
theorem gX5_lookAt_J6_bitCount_0f7a4 : GoodIn wsX5_lookAt (va_wsS RX5 64 yJ6_bitCount_0f7a4 wsJ6_bitCount_0f7a4) := goodIn_app (goodIn_of _ (by decide +kernel)) ggX5_lookAt_J6_bitCount_0f7a4
theorem dX5_lookAt_0 : decode cX5_lookAt 0 = .ok (.aload_n 0, 1) := by decide +kernel
theorem dX5_lookAt_1 : decode cX5_lookAt 1 = .ok (.getfield 9, 3) := by decide +kernel
theorem dX5_lookAt_4 : decode cX5_lookAt 4 = .ok (.iload_n 1, 1) := by decide +kernel
theorem dX5_lookAt_5 : decode cX5_lookAt 5 = .ok (.iconst 1, 1) := by decide +kernel
theorem dX5_lookAt_6 : decode cX5_lookAt 6 = .ok (.invokevirtual 45, 3) := by decide +kernel
theorem dX5_lookAt_9 : decode cX5_lookAt 9 = .ok (.istore_n 2, 1) := by decide +kernel
theorem dX5_lookAt_10 : decode cX5_lookAt 10 = .ok (.aload_n 0, 1) := by decide +kernel
theorem dX5_lookAt_11 : decode cX5_lookAt 11 = .ok (.getfield 9, 3) := by decide +kernel
theorem dX5_lookAt_14 : decode cX5_lookAt 14 = .ok (.iload_n 1, 1) := by decide +kernel
theorem dX5_lookAt_15 : decode cX5_lookAt 15 = .ok (.iconst 3, 1) := by decide +kernel
theorem dX5_lookAt_16 : decode cX5_lookAt 16 = .ok (.invokevirtual 45, 3) := by decide +kernel
theorem dX5_lookAt_19 : decode cX5_lookAt 19 = .ok (.istore_n 3, 1) := by decide +kernel
theorem dX5_lookAt_20 : decode cX5_lookAt 20 = .ok (.aload_n 0, 1) := by decide +kernel
theorem dX5_lookAt_21 : decode cX5_lookAt 21 = .ok (.getfield 9, 3) := by decide +kernel
theorem dX5_lookAt_24 : decode cX5_lookAt 24 = .ok (.aload_n 0, 1) := by decide +kernel
theorem dX5_lookAt_25 : decode cX5_lookAt 25 = .ok (.getfield 9, 3) := by decide +kernel
theorem dX5_lookAt_28 : decode cX5_lookAt 28 = .ok (.iload_n 1, 1) := by decide +kernel
theorem dX5_lookAt_29 : decode cX5_lookAt 29 = .ok (.iconst 0, 1) := by decide +kernel
theorem dX5_lookAt_30 : decode cX5_lookAt 30 = .ok (.invokevirtual 45, 3) := by decide +kernel
theorem dX5_lookAt_33 : decode cX5_lookAt 33 = .ok (.aload_n 0, 1) := by decide +kernel
theorem dX5_lookAt_34 : decode cX5_lookAt 34 = .ok (.getfield 9, 3) := by decide +kernel
theorem dX5_lookAt_37 : decode cX5_lookAt 37 = .ok (.iload_n 1, 1) := by decide +kernel
theorem dX5_lookAt_38 : decode cX5_lookAt 38 = .ok (.iconst 2, 1) := by decide +kernel
theorem dX5_lookAt_39 : decode cX5_lookAt 39 = .ok (.invokevirtual 45, 3) := by decide +kernel
theorem dX5_lookAt_42 : decode cX5_lookAt 42 = .ok (.invokevirtual 49, 3) := by decide +kernel
theorem dX5_lookAt_45 : decode cX5_lookAt 45 = .ok (.istore 4, 2) := by decide +kernel
theorem dX5_lookAt_47 : decode cX5_lookAt 47 = .ok (.iconst 0, 1) := by decide +kernel
theorem dX5_lookAt_48 : decode cX5_lookAt 48 = .ok (.istore 5, 2) := by decide +kernel
theorem dX5_lookAt_50 : decode cX5_lookAt 50 = .ok (.iconst 0, 1) := by decide +kernel
theorem dX5_lookAt_51 : decode cX5_lookAt 51 = .ok (.istore 6, 2) := by decide +kernel
theorem dX5_lookAt_53 : decode cX5_lookAt 53 = .ok (.iload 6, 2) := by decide +kernel
theorem dX5_lookAt_55 : decode cX5_lookAt 55 = .ok (.iload_n 3, 1) := by decide +kernel
theorem dX5_lookAt_56 : decode cX5_lookAt 56 = .ok (.if_icmp .ge 91, 3) := by decide +kernel
theorem dX5_lookAt_59 : decode cX5_lookAt 59 = .ok (.iload_n 2, 1) := by decide +kernel
theorem dX5_lookAt_60 : decode cX5_lookAt 60 = .ok (.iload 6, 2) := by decide +kernel
theorem dX5_lookAt_62 : decode cX5_lookAt 62 = .ok (.iadd, 1) := by decide +kernel
theorem dX5_lookAt_63 : decode cX5_lookAt 63 = .ok (.istore 7, 2) := by decide +kernel
theorem dX5_lookAt_65 : decode cX5_lookAt 65 = .ok (.aload_n 0, 1) := by decide +kernel
theorem dX5_lookAt_66 : decode cX5_lookAt 66 = .ok (.getfield 19, 3) := by decide +kernel
theorem dX5_lookAt_69 : decode cX5_lookAt 69 = .ok (.iload 7, 2) := by decide +kernel
theorem dX5_lookAt_71 : decode cX5_lookAt 71 = .ok (.invokestatic 52, 3) := by decide +kernel
theorem dX5_lookAt_74 : decode cX5_lookAt 74 = .ok (.istore 8, 2) := by decide +kernel
theorem dX5_lookAt_76 : decode cX5_lookAt 76 = .ok (.aload_n 0, 1) := by decide +kernel
theorem dX5_lookAt_77 : decode cX5_lookAt 77 = .ok (.getfield 9, 3) := by decide +kernel
theorem dX5_lookAt_80 : decode cX5_lookAt 80 = .ok (.iload 7, 2) := by decide +kernel
theorem dX5_lookAt_82 : decode cX5_lookAt 82 = .ok (.invokevirtual 56, 3) := by decide +kernel
theorem dX5_lookAt_85 : decode cX5_lookAt 85 = .ok (.ifCond .eq 13, 3) := by decide +kernel
theorem dX5_lookAt_88 : decode cX5_lookAt 88 = .ok (.iload 4, 2) := by decide +kernel
theorem dX5_lookAt_90 : decode cX5_lookAt 90 = .ok (.iload 8, 2) := by decide +kernel
theorem dX5_lookAt_92 : decode cX5_lookAt 92 = .ok (.iconst (-1), 1) := by decide +kernel
theorem dX5_lookAt_93 : decode cX5_lookAt 93 = .ok (.ixor, 1) := by decide +kernel
theorem dX5_lookAt_94 : decode cX5_lookAt 94 = .ok (.iand, 1) := by decide +kernel
theorem dX5_lookAt_95 : decode cX5_lookAt 95 = .ok (.goto 4, 3) := by decide +kernel
theorem dX5_lookAt_98 : decode cX5_lookAt 98 = .ok (.iconst 0, 1) := by decide +kernel
theorem dX5_lookAt_99 : decode cX5_lookAt 99 = .ok (.istore 9, 2) := by decide +kernel
theorem dX5_lookAt_101 : decode cX5_lookAt 101 = .ok (.aload_n 0, 1) := by decide +kernel
theorem dX5_lookAt_102 : decode cX5_lookAt 102 = .ok (.getfield 15, 3) := by decide +kernel
theorem dX5_lookAt_105 : decode cX5_lookAt 105 = .ok (.iload_n 1, 1) := by decide +kernel
theorem dX5_lookAt_106 : decode cX5_lookAt 106 = .ok (.bipush 12, 2) := by decide +kernel
theorem dX5_lookAt_108 : decode cX5_lookAt 108 = .ok (.imul, 1) := by decide +kernel
theorem dX5_lookAt_109 : decode cX5_lookAt 109 = .ok (.iload 6, 2) := by decide +kernel
theorem dX5_lookAt_111 : decode cX5_lookAt 111 = .ok (.iadd, 1) := by decide +kernel
theorem dX5_lookAt_112 : decode cX5_lookAt 112 = .ok (.iload 9, 2) := by decide +kernel
theorem dX5_lookAt_114 : decode cX5_lookAt 114 = .ok (.invokestatic 60, 3) := by decide +kernel
theorem dX5_lookAt_117 : decode cX5_lookAt 117 = .ok (.aload_n 0, 1) := by decide +kernel
theorem dX5_lookAt_118 : decode cX5_lookAt 118 = .ok (.getfield 19, 3) := by decide +kernel
theorem dX5_lookAt_121 : decode cX5_lookAt 121 = .ok (.iload 7, 2) := by decide +kernel
theorem dX5_lookAt_123 : decode cX5_lookAt 123 = .ok (.iload 8, 2) := by decide +kernel
theorem dX5_lookAt_125 : decode cX5_lookAt 125 = .ok (.iload 9, 2) := by decide +kernel
theorem dX5_lookAt_127 : decode cX5_lookAt 127 = .ok (.ior, 1) := by decide +kernel
theorem dX5_lookAt_128 : decode cX5_lookAt 128 = .ok (.invokestatic 60, 3) := by decide +kernel
theorem dX5_lookAt_131 : decode cX5_lookAt 131 = .ok (.iload 5, 2) := by decide +kernel
theorem dX5_lookAt_133 : decode cX5_lookAt 133 = .ok (.iload 9, 2) := by decide +kernel
theorem dX5_lookAt_135 : decode cX5_lookAt 135 = .ok (.invokestatic 64, 3) := by decide +kernel
theorem dX5_lookAt_138 : decode cX5_lookAt 138 = .ok (.iadd, 1) := by decide +kernel
theorem dX5_lookAt_139 : decode cX5_lookAt 139 = .ok (.istore 5, 2) := by decide +kernel
theorem dX5_lookAt_141 : decode cX5_lookAt 141 = .ok (.iinc 6 1, 3) := by decide +kernel
theorem dX5_lookAt_144 : decode cX5_lookAt 144 = .ok (.goto (-91), 3) := by decide +kernel
theorem dX5_lookAt_147 : decode cX5_lookAt 147 = .ok (.aload_n 0, 1) := by decide +kernel
theorem dX5_lookAt_148 : decode cX5_lookAt 148 = .ok (.getfield 22, 3) := by decide +kernel
theorem dX5_lookAt_151 : decode cX5_lookAt 151 = .ok (.iload_n 1, 1) := by decide +kernel
theorem dX5_lookAt_152 : decode cX5_lookAt 152 = .ok (.iload 5, 2) := by decide +kernel
theorem dX5_lookAt_154 : decode cX5_lookAt 154 = .ok (.invokestatic 60, 3) := by decide +kernel
theorem dX5_lookAt_157 : decode cX5_lookAt 157 = .ok (.return_, 1) := by decide +kernel
set_option maxRecDepth 100000 in
theorem ggX5_rowOf_X1_columns : GoodIn wsX5_rowOf wsX1_columns := goodIn_r _ [8, 9, 31, 32, 33, 34, 35, 36] rfl (by decide +kernel)
set_option maxRecDepth 100000 in
theorem gX5_rowOf_X1_columns : GoodIn wsX5_rowOf (wsV RX5 69 RX1 yX1_columns wsX1_columns) := goodIn_app (goodIn_of _ (by decide +kernel)) ggX5_rowOf_X1_columns
set_option maxRecDepth 100000 in
theorem ggX5_rowOf_X1_span : GoodIn wsX5_rowOf wsX1_span := goodIn_r _ [13, 9, 31, 32, 33, 34, 35, 36] rfl (by decide +kernel)
set_option maxRecDepth 100000 in
theorem gX5_rowOf_X1_span : GoodIn wsX5_rowOf (wsV RX5 49 RX1 yX1_span wsX1_span) := goodIn_app (goodIn_of _ (by decide +kernel)) ggX5_rowOf_X1_span
set_option maxRecDepth 100000 in
theorem ggX5_rowOf_X1_hasRow : GoodIn wsX5_rowOf wsX1_hasRow := goodIn_r _ [17, 18, 31, 32, 33, 34, 35, 36] rfl (by decide +kernel)
set_option maxRecDepth 100000 in
theorem gX5_rowOf_X1_hasRow : GoodIn wsX5_rowOf (wsV RX5 56 RX1 yX1_hasRow wsX1_hasRow) := goodIn_app (goodIn_of _ (by decide +kernel)) ggX5_rowOf_X1_hasRow
set_option maxRecDepth 100000 in
theorem ggX5_rowOf_X7_at : GoodIn wsX5_rowOf wsX7_at := goodIn_r _ [21] rfl (by decide +kernel)
set_option maxRecDepth 100000 in
theorem gX5_rowOf_X7_at_n52 : GoodIn wsX5_rowOf (wsX7_at) := ggX5_rowOf_X7_at
set_option maxRecDepth 100000 in
theorem ggX5_rowOf_X1_get : GoodIn wsX5_rowOf wsX1_get := goodIn_r _ [25, 26, 31, 32, 33, 34, 35, 36] rfl (by decide +kernel)
set_option maxRecDepth 100000 in
theorem gX5_rowOf_X1_get : GoodIn wsX5_rowOf (wsV RX5 45 RX1 yX1_get wsX1_get) := goodIn_app (goodIn_of _ (by decide +kernel)) ggX5_rowOf_X1_get
theorem dX5_rowOf_0 : decode cX5_rowOf 0 = .ok (.iload_n 1, 1) := by decide +kernel
theorem dX5_rowOf_1 : decode cX5_rowOf 1 = .ok (.iconst (-1), 1) := by decide +kernel
theorem dX5_rowOf_2 : decode cX5_rowOf 2 = .ok (.if_icmp .ne 47, 3) := by decide +kernel
theorem dX5_rowOf_5 : decode cX5_rowOf 5 = .ok (.aload_n 0, 1) := by decide +kernel
theorem dX5_rowOf_6 : decode cX5_rowOf 6 = .ok (.getfield 9, 3) := by decide +kernel
theorem dX5_rowOf_9 : decode cX5_rowOf 9 = .ok (.iconst 0, 1) := by decide +kernel
theorem dX5_rowOf_10 : decode cX5_rowOf 10 = .ok (.aload_n 0, 1) := by decide +kernel
theorem dX5_rowOf_11 : decode cX5_rowOf 11 = .ok (.getfield 9, 3) := by decide +kernel
theorem dX5_rowOf_14 : decode cX5_rowOf 14 = .ok (.invokevirtual 69, 3) := by decide +kernel
theorem dX5_rowOf_17 : decode cX5_rowOf 17 = .ok (.invokevirtual 49, 3) := by decide +kernel
theorem dX5_rowOf_20 : decode cX5_rowOf 20 = .ok (.istore_n 3, 1) := by decide +kernel
theorem dX5_rowOf_21 : decode cX5_rowOf 21 = .ok (.aload_n 0, 1) := by decide +kernel
theorem dX5_rowOf_22 : decode cX5_rowOf 22 = .ok (.getfield 9, 3) := by decide +kernel
theorem dX5_rowOf_25 : decode cX5_rowOf 25 = .ok (.iload_n 2, 1) := by decide +kernel
theorem dX5_rowOf_26 : decode cX5_rowOf 26 = .ok (.invokevirtual 56, 3) := by decide +kernel
theorem dX5_rowOf_29 : decode cX5_rowOf 29 = .ok (.ifCond .eq 18, 3) := by decide +kernel
theorem dX5_rowOf_32 : decode cX5_rowOf 32 = .ok (.iload_n 3, 1) := by decide +kernel
theorem dX5_rowOf_33 : decode cX5_rowOf 33 = .ok (.aload_n 0, 1) := by decide +kernel
theorem dX5_rowOf_34 : decode cX5_rowOf 34 = .ok (.getfield 19, 3) := by decide +kernel
theorem dX5_rowOf_37 : decode cX5_rowOf 37 = .ok (.iload_n 2, 1) := by decide +kernel
theorem dX5_rowOf_38 : decode cX5_rowOf 38 = .ok (.invokestatic 52, 3) := by decide +kernel
theorem dX5_rowOf_41 : decode cX5_rowOf 41 = .ok (.iconst (-1), 1) := by decide +kernel
theorem dX5_rowOf_42 : decode cX5_rowOf 42 = .ok (.ixor, 1) := by decide +kernel
theorem dX5_rowOf_43 : decode cX5_rowOf 43 = .ok (.iand, 1) := by decide +kernel
theorem dX5_rowOf_44 : decode cX5_rowOf 44 = .ok (.goto 4, 3) := by decide +kernel
theorem dX5_rowOf_47 : decode cX5_rowOf 47 = .ok (.iconst 0, 1) := by decide +kernel
theorem dX5_rowOf_48 : decode cX5_rowOf 48 = .ok (.ireturn, 1) := by decide +kernel
theorem dX5_rowOf_49 : decode cX5_rowOf 49 = .ok (.iload_n 2, 1) := by decide +kernel
theorem dX5_rowOf_50 : decode cX5_rowOf 50 = .ok (.aload_n 0, 1) := by decide +kernel
theorem dX5_rowOf_51 : decode cX5_rowOf 51 = .ok (.getfield 9, 3) := by decide +kernel
theorem dX5_rowOf_54 : decode cX5_rowOf 54 = .ok (.iload_n 1, 1) := by decide +kernel
theorem dX5_rowOf_55 : decode cX5_rowOf 55 = .ok (.iconst 1, 1) := by decide +kernel
theorem dX5_rowOf_56 : decode cX5_rowOf 56 = .ok (.invokevirtual 45, 3) := by decide +kernel
theorem dX5_rowOf_59 : decode cX5_rowOf 59 = .ok (.isub, 1) := by decide +kernel
theorem dX5_rowOf_60 : decode cX5_rowOf 60 = .ok (.istore_n 3, 1) := by decide +kernel
theorem dX5_rowOf_61 : decode cX5_rowOf 61 = .ok (.iload_n 3, 1) := by decide +kernel
theorem dX5_rowOf_62 : decode cX5_rowOf 62 = .ok (.ifCond .lt 20, 3) := by decide +kernel
theorem dX5_rowOf_65 : decode cX5_rowOf 65 = .ok (.iload_n 3, 1) := by decide +kernel
theorem dX5_rowOf_66 : decode cX5_rowOf 66 = .ok (.aload_n 0, 1) := by decide +kernel
theorem dX5_rowOf_67 : decode cX5_rowOf 67 = .ok (.getfield 9, 3) := by decide +kernel
theorem dX5_rowOf_70 : decode cX5_rowOf 70 = .ok (.iload_n 1, 1) := by decide +kernel
theorem dX5_rowOf_71 : decode cX5_rowOf 71 = .ok (.iconst 3, 1) := by decide +kernel
theorem dX5_rowOf_72 : decode cX5_rowOf 72 = .ok (.invokevirtual 45, 3) := by decide +kernel
theorem dX5_rowOf_75 : decode cX5_rowOf 75 = .ok (.if_icmp .ge 7, 3) := by decide +kernel
theorem dX5_rowOf_78 : decode cX5_rowOf 78 = .ok (.iconst 1, 1) := by decide +kernel
theorem dX5_rowOf_79 : decode cX5_rowOf 79 = .ok (.goto 4, 3) := by decide +kernel
theorem dX5_rowOf_82 : decode cX5_rowOf 82 = .ok (.iconst 0, 1) := by decide +kernel
theorem dX5_rowOf_83 : decode cX5_rowOf 83 = .ok (.istore 4, 2) := by decide +kernel
theorem dX5_rowOf_85 : decode cX5_rowOf 85 = .ok (.iload 4, 2) := by decide +kernel
theorem dX5_rowOf_87 : decode cX5_rowOf 87 = .ok (.ifCond .eq 19, 3) := by decide +kernel
theorem dX5_rowOf_90 : decode cX5_rowOf 90 = .ok (.aload_n 0, 1) := by decide +kernel
theorem dX5_rowOf_91 : decode cX5_rowOf 91 = .ok (.getfield 15, 3) := by decide +kernel
theorem dX5_rowOf_94 : decode cX5_rowOf 94 = .ok (.iload_n 1, 1) := by decide +kernel
theorem dX5_rowOf_95 : decode cX5_rowOf 95 = .ok (.bipush 12, 2) := by decide +kernel
theorem dX5_rowOf_97 : decode cX5_rowOf 97 = .ok (.imul, 1) := by decide +kernel
theorem dX5_rowOf_98 : decode cX5_rowOf 98 = .ok (.iload_n 3, 1) := by decide +kernel
theorem dX5_rowOf_99 : decode cX5_rowOf 99 = .ok (.iadd, 1) := by decide +kernel
theorem dX5_rowOf_100 : decode cX5_rowOf 100 = .ok (.invokestatic 52, 3) := by decide +kernel
theorem dX5_rowOf_103 : decode cX5_rowOf 103 = .ok (.goto 4, 3) := by decide +kernel
theorem dX5_rowOf_106 : decode cX5_rowOf 106 = .ok (.iconst 0, 1) := by decide +kernel
theorem dX5_rowOf_107 : decode cX5_rowOf 107 = .ok (.ireturn, 1) := by decide +kernel
set_option maxRecDepth 100000 in
theorem ggX5_cells_X7_at : GoodIn wsX5_cells wsX7_at := goodIn_r _ [4] rfl (by decide +kernel)
set_option maxRecDepth 100000 in
theorem gX5_cells_X7_at_n52 : GoodIn wsX5_cells (wsX7_at) := ggX5_cells_X7_at
theorem dX5_cells_0 : decode cX5_cells 0 = .ok (.aload_n 0, 1) := by decide +kernel
theorem dX5_cells_1 : decode cX5_cells 1 = .ok (.getfield 22, 3) := by decide +kernel
theorem dX5_cells_4 : decode cX5_cells 4 = .ok (.iload_n 1, 1) := by decide +kernel
theorem dX5_cells_5 : decode cX5_cells 5 = .ok (.invokestatic 52, 3) := by decide +kernel
theorem dX5_cells_8 : decode cX5_cells 8 = .ok (.ireturn, 1) := by decide +kernel
set_option maxRecDepth 100000 in
theorem ggX5_isContent_X1_get : GoodIn wsX5_isContent wsX1_get := goodIn_r _ [7, 8, 16, 17, 18, 19, 20, 21] rfl (by decide +kernel)
set_option maxRecDepth 100000 in
theorem gX5_isContent_X1_get : GoodIn wsX5_isContent (wsV RX5 45 RX1 yX1_get wsX1_get) := goodIn_app (goodIn_of _ (by decide +kernel)) ggX5_isContent_X1_get
set_option maxRecDepth 100000 in
theorem ggX5_isContent_X7_at : GoodIn wsX5_isContent wsX7_at := goodIn_r _ [11] rfl (by decide +kernel)
set_option maxRecDepth 100000 in
theorem gX5_isContent_X7_at_n52 : GoodIn wsX5_isContent (wsX7_at) := ggX5_isContent_X7_at
theorem dX5_isContent_0 : decode cX5_isContent 0 = .ok (.aload_n 0, 1) := by decide +kernel
theorem dX5_isContent_1 : decode cX5_isContent 1 = .ok (.getfield 9, 3) := by decide +kernel
theorem dX5_isContent_4 : decode cX5_isContent 4 = .ok (.iload_n 1, 1) := by decide +kernel
theorem dX5_isContent_5 : decode cX5_isContent 5 = .ok (.iconst 4, 1) := by decide +kernel
theorem dX5_isContent_6 : decode cX5_isContent 6 = .ok (.invokevirtual 45, 3) := by decide +kernel
theorem dX5_isContent_9 : decode cX5_isContent 9 = .ok (.aload_n 0, 1) := by decide +kernel
theorem dX5_isContent_10 : decode cX5_isContent 10 = .ok (.getfield 9, 3) := by decide +kernel
theorem dX5_isContent_13 : decode cX5_isContent 13 = .ok (.iload_n 1, 1) := by decide +kernel
theorem dX5_isContent_14 : decode cX5_isContent 14 = .ok (.iconst 2, 1) := by decide +kernel
theorem dX5_isContent_15 : decode cX5_isContent 15 = .ok (.invokevirtual 45, 3) := by decide +kernel
theorem dX5_isContent_18 : decode cX5_isContent 18 = .ok (.imul, 1) := by decide +kernel
theorem dX5_isContent_19 : decode cX5_isContent 19 = .ok (.aload_n 0, 1) := by decide +kernel
theorem dX5_isContent_20 : decode cX5_isContent 20 = .ok (.getfield 9, 3) := by decide +kernel
theorem dX5_isContent_23 : decode cX5_isContent 23 = .ok (.iload_n 1, 1) := by decide +kernel
theorem dX5_isContent_24 : decode cX5_isContent 24 = .ok (.iconst 3, 1) := by decide +kernel
theorem dX5_isContent_25 : decode cX5_isContent 25 = .ok (.invokevirtual 45, 3) := by decide +kernel
theorem dX5_isContent_28 : decode cX5_isContent 28 = .ok (.imul, 1) := by decide +kernel
theorem dX5_isContent_29 : decode cX5_isContent 29 = .ok (.istore_n 2, 1) := by decide +kernel
theorem dX5_isContent_30 : decode cX5_isContent 30 = .ok (.aload_n 0, 1) := by decide +kernel
theorem dX5_isContent_31 : decode cX5_isContent 31 = .ok (.getfield 22, 3) := by decide +kernel
theorem dX5_isContent_34 : decode cX5_isContent 34 = .ok (.iload_n 1, 1) := by decide +kernel
theorem dX5_isContent_35 : decode cX5_isContent 35 = .ok (.invokestatic 52, 3) := by decide +kernel
theorem dX5_isContent_38 : decode cX5_isContent 38 = .ok (.bipush 100, 2) := by decide +kernel
theorem dX5_isContent_40 : decode cX5_isContent 40 = .ok (.imul, 1) := by decide +kernel
theorem dX5_isContent_41 : decode cX5_isContent 41 = .ok (.iload_n 2, 1) := by decide +kernel
theorem dX5_isContent_42 : decode cX5_isContent 42 = .ok (.if_icmp .lt 7, 3) := by decide +kernel
theorem dX5_isContent_45 : decode cX5_isContent 45 = .ok (.iconst 1, 1) := by decide +kernel
theorem dX5_isContent_46 : decode cX5_isContent 46 = .ok (.goto 4, 3) := by decide +kernel
theorem dX5_isContent_49 : decode cX5_isContent 49 = .ok (.iconst 0, 1) := by decide +kernel
theorem dX5_isContent_50 : decode cX5_isContent 50 = .ok (.ireturn, 1) := by decide +kernel
set_option maxRecDepth 100000 in
theorem ggX5_contentPieces_X1_pieces : GoodIn wsX5_contentPieces wsX1_pieces := goodIn_r _ [6, 7, 26, 27, 28, 29, 30, 31] rfl (by decide +kernel)
set_option maxRecDepth 100000 in
theorem gX5_contentPieces_X1_pieces : GoodIn wsX5_contentPieces (wsV RX5 31 RX1 yX1_pieces wsX1_pieces) := goodIn_app (goodIn_of _ (by decide +kernel)) ggX5_contentPieces_X1_pieces
set_option maxRecDepth 100000 in
theorem ggX5_contentPieces_X5_isContent : GoodIn wsX5_contentPieces wsX5_isContent := goodIn_r _ [12, 1, 13, 14, 15, 16, 5, 17, 18, 19, 20, 21, 22, 23, 24, 25, 26, 27, 28, 29, 30, 31] rfl (by decide +kernel)
set_option maxRecDepth 100000 in
theorem gX5_contentPieces_X5_isContent : GoodIn wsX5_contentPieces (wsV RX5 72 RX5 yX5_isContent wsX5_isContent) := goodIn_app (goodIn_of _ (by decide +kernel)) ggX5_contentPieces_X5_isContent
theorem dX5_contentPieces_0 : decode cX5_contentPieces 0 = .ok (.iconst 0, 1) := by decide +kernel
theorem dX5_contentPieces_1 : decode cX5_contentPieces 1 = .ok (.istore_n 1, 1) := by decide +kernel
theorem dX5_contentPieces_2 : decode cX5_contentPieces 2 = .ok (.iconst 0, 1) := by decide +kernel
theorem dX5_contentPieces_3 : decode cX5_contentPieces 3 = .ok (.istore_n 2, 1) := by decide +kernel
theorem dX5_contentPieces_4 : decode cX5_contentPieces 4 = .ok (.iload_n 2, 1) := by decide +kernel
theorem dX5_contentPieces_5 : decode cX5_contentPieces 5 = .ok (.aload_n 0, 1) := by decide +kernel
theorem dX5_contentPieces_6 : decode cX5_contentPieces 6 = .ok (.getfield 9, 3) := by decide +kernel
theorem dX5_contentPieces_9 : decode cX5_contentPieces 9 = .ok (.invokevirtual 31, 3) := by decide +kernel
theorem dX5_contentPieces_12 : decode cX5_contentPieces 12 = .ok (.if_icmp .ge 20, 3) := by decide +kernel
theorem dX5_contentPieces_15 : decode cX5_contentPieces 15 = .ok (.aload_n 0, 1) := by decide +kernel
theorem dX5_contentPieces_16 : decode cX5_contentPieces 16 = .ok (.iload_n 2, 1) := by decide +kernel
theorem dX5_contentPieces_17 : decode cX5_contentPieces 17 = .ok (.invokevirtual 72, 3) := by decide +kernel
theorem dX5_contentPieces_20 : decode cX5_contentPieces 20 = .ok (.ifCond .eq 6, 3) := by decide +kernel
theorem dX5_contentPieces_23 : decode cX5_contentPieces 23 = .ok (.iinc 1 1, 3) := by decide +kernel
theorem dX5_contentPieces_26 : decode cX5_contentPieces 26 = .ok (.iinc 2 1, 3) := by decide +kernel
theorem dX5_contentPieces_29 : decode cX5_contentPieces 29 = .ok (.goto (-25), 3) := by decide +kernel
theorem dX5_contentPieces_32 : decode cX5_contentPieces 32 = .ok (.iload_n 1, 1) := by decide +kernel
theorem dX5_contentPieces_33 : decode cX5_contentPieces 33 = .ok (.ireturn, 1) := by decide +kernel
set_option maxRecDepth 100000 in
theorem ggX5_unseenPieces_X1_pieces : GoodIn wsX5_unseenPieces wsX1_pieces := goodIn_r _ [7, 8, 16, 17, 18, 19, 20, 21] rfl (by decide +kernel)
set_option maxRecDepth 100000 in
theorem gX5_unseenPieces_X1_pieces : GoodIn wsX5_unseenPieces (wsV RX5 31 RX1 yX1_pieces wsX1_pieces) := goodIn_app (goodIn_of _ (by decide +kernel)) ggX5_unseenPieces_X1_pieces
set_option maxRecDepth 100000 in
theorem ggX5_unseenPieces_X7_at : GoodIn wsX5_unseenPieces wsX7_at := goodIn_r _ [11] rfl (by decide +kernel)
set_option maxRecDepth 100000 in
theorem gX5_unseenPieces_X7_at_n52 : GoodIn wsX5_unseenPieces (wsX7_at) := ggX5_unseenPieces_X7_at
theorem dX5_unseenPieces_0 : decode cX5_unseenPieces 0 = .ok (.iconst 0, 1) := by decide +kernel
theorem dX5_unseenPieces_1 : decode cX5_unseenPieces 1 = .ok (.istore_n 1, 1) := by decide +kernel
theorem dX5_unseenPieces_2 : decode cX5_unseenPieces 2 = .ok (.iconst 0, 1) := by decide +kernel
theorem dX5_unseenPieces_3 : decode cX5_unseenPieces 3 = .ok (.istore_n 2, 1) := by decide +kernel
theorem dX5_unseenPieces_4 : decode cX5_unseenPieces 4 = .ok (.iload_n 2, 1) := by decide +kernel
theorem dX5_unseenPieces_5 : decode cX5_unseenPieces 5 = .ok (.aload_n 0, 1) := by decide +kernel
theorem dX5_unseenPieces_6 : decode cX5_unseenPieces 6 = .ok (.getfield 9, 3) := by decide +kernel
theorem dX5_unseenPieces_9 : decode cX5_unseenPieces 9 = .ok (.invokevirtual 31, 3) := by decide +kernel
theorem dX5_unseenPieces_12 : decode cX5_unseenPieces 12 = .ok (.if_icmp .ge 23, 3) := by decide +kernel
theorem dX5_unseenPieces_15 : decode cX5_unseenPieces 15 = .ok (.aload_n 0, 1) := by decide +kernel
theorem dX5_unseenPieces_16 : decode cX5_unseenPieces 16 = .ok (.getfield 22, 3) := by decide +kernel
theorem dX5_unseenPieces_19 : decode cX5_unseenPieces 19 = .ok (.iload_n 2, 1) := by decide +kernel
theorem dX5_unseenPieces_20 : decode cX5_unseenPieces 20 = .ok (.invokestatic 52, 3) := by decide +kernel
theorem dX5_unseenPieces_23 : decode cX5_unseenPieces 23 = .ok (.ifCond .ne 6, 3) := by decide +kernel
theorem dX5_unseenPieces_26 : decode cX5_unseenPieces 26 = .ok (.iinc 1 1, 3) := by decide +kernel
theorem dX5_unseenPieces_29 : decode cX5_unseenPieces 29 = .ok (.iinc 2 1, 3) := by decide +kernel
theorem dX5_unseenPieces_32 : decode cX5_unseenPieces 32 = .ok (.goto (-28), 3) := by decide +kernel
theorem dX5_unseenPieces_35 : decode cX5_unseenPieces 35 = .ok (.iload_n 1, 1) := by decide +kernel
theorem dX5_unseenPieces_36 : decode cX5_unseenPieces 36 = .ok (.ireturn, 1) := by decide +kernel
set_option maxRecDepth 100000 in
theorem ggX5_pageCells_X1_rows : GoodIn wsX5_pageCells wsX1_rows := goodIn_r _ [6, 7, 47, 48, 49, 50, 51, 52] rfl (by decide +kernel)
set_option maxRecDepth 100000 in
theorem gX5_pageCells_X1_rows : GoodIn wsX5_pageCells (wsV RX5 75 RX1 yX1_rows wsX1_rows) := goodIn_app (goodIn_of _ (by decide +kernel)) ggX5_pageCells_X1_rows
set_option maxRecDepth 100000 in
theorem ggX5_pageCells_X5_rowOf : GoodIn wsX5_pageCells wsX5_rowOf := goodIn_r _ [12, 1, 13, 14, 15, 16, 17, 5, 18, 19, 20, 21, 22, 23, 24, 25, 26, 27, 7, 28, 29, 30, 31, 32, 33, 34, 35, 43, 44, 45, 46, 47, 48, 49, 50, 51, 52] rfl (by decide +kernel)
set_option maxRecDepth 100000 in
theorem gX5_pageCells_X5_rowOf : GoodIn wsX5_pageCells (wsV RX5 78 RX5 yX5_rowOf wsX5_rowOf) := goodIn_app (goodIn_of _ (by decide +kernel)) ggX5_pageCells_X5_rowOf
set_option maxRecDepth 100000 in
theorem ggX5_pageCells_J6_bitCount_0f7a4 : GoodIn wsX5_pageCells wsJ6_bitCount_0f7a4 := goodIn_r _ [39, 40, 41, 42] rfl (by decide +kernel)
set_option maxRecDepth 100000 in
theorem gX5_pageCells_J6_bitCount_0f7a4 : GoodIn wsX5_pageCells (va_wsS RX5 64 yJ6_bitCount_0f7a4 wsJ6_bitCount_0f7a4) := goodIn_app (goodIn_of _ (by decide +kernel)) ggX5_pageCells_J6_bitCount_0f7a4
theorem dX5_pageCells_0 : decode cX5_pageCells 0 = .ok (.iconst 0, 1) := by decide +kernel
theorem dX5_pageCells_1 : decode cX5_pageCells 1 = .ok (.istore_n 1, 1) := by decide +kernel
theorem dX5_pageCells_2 : decode cX5_pageCells 2 = .ok (.iconst 0, 1) := by decide +kernel
theorem dX5_pageCells_3 : decode cX5_pageCells 3 = .ok (.istore_n 2, 1) := by decide +kernel
theorem dX5_pageCells_4 : decode cX5_pageCells 4 = .ok (.iload_n 2, 1) := by decide +kernel
theorem dX5_pageCells_5 : decode cX5_pageCells 5 = .ok (.aload_n 0, 1) := by decide +kernel
theorem dX5_pageCells_6 : decode cX5_pageCells 6 = .ok (.getfield 9, 3) := by decide +kernel
theorem dX5_pageCells_9 : decode cX5_pageCells 9 = .ok (.invokevirtual 75, 3) := by decide +kernel
theorem dX5_pageCells_12 : decode cX5_pageCells 12 = .ok (.if_icmp .ge 21, 3) := by decide +kernel
theorem dX5_pageCells_15 : decode cX5_pageCells 15 = .ok (.iload_n 1, 1) := by decide +kernel
theorem dX5_pageCells_16 : decode cX5_pageCells 16 = .ok (.aload_n 0, 1) := by decide +kernel
theorem dX5_pageCells_17 : decode cX5_pageCells 17 = .ok (.iconst (-1), 1) := by decide +kernel
theorem dX5_pageCells_18 : decode cX5_pageCells 18 = .ok (.iload_n 2, 1) := by decide +kernel
theorem dX5_pageCells_19 : decode cX5_pageCells 19 = .ok (.invokevirtual 78, 3) := by decide +kernel
theorem dX5_pageCells_22 : decode cX5_pageCells 22 = .ok (.invokestatic 64, 3) := by decide +kernel
theorem dX5_pageCells_25 : decode cX5_pageCells 25 = .ok (.iadd, 1) := by decide +kernel
theorem dX5_pageCells_26 : decode cX5_pageCells 26 = .ok (.istore_n 1, 1) := by decide +kernel
theorem dX5_pageCells_27 : decode cX5_pageCells 27 = .ok (.iinc 2 1, 3) := by decide +kernel
theorem dX5_pageCells_30 : decode cX5_pageCells 30 = .ok (.goto (-26), 3) := by decide +kernel
theorem dX5_pageCells_33 : decode cX5_pageCells 33 = .ok (.iload_n 1, 1) := by decide +kernel
theorem dX5_pageCells_34 : decode cX5_pageCells 34 = .ok (.ireturn, 1) := by decide +kernel
set_option maxRecDepth 100000 in
theorem ggX5_wholeFrames_X1_pieces : GoodIn wsX5_wholeFrames wsX1_pieces := goodIn_r _ [6, 7, 60, 61, 62, 63, 64, 65] rfl (by decide +kernel)
set_option maxRecDepth 100000 in
theorem gX5_wholeFrames_X1_pieces : GoodIn wsX5_wholeFrames (wsV RX5 31 RX1 yX1_pieces wsX1_pieces) := goodIn_app (goodIn_of _ (by decide +kernel)) ggX5_wholeFrames_X1_pieces
set_option maxRecDepth 100000 in
theorem ggX5_wholeFrames_X1_get : GoodIn wsX5_wholeFrames wsX1_get := goodIn_r _ [11, 12, 60, 61, 62, 63, 64, 65] rfl (by decide +kernel)
set_option maxRecDepth 100000 in
theorem gX5_wholeFrames_X1_get : GoodIn wsX5_wholeFrames (wsV RX5 45 RX1 yX1_get wsX1_get) := goodIn_app (goodIn_of _ (by decide +kernel)) ggX5_wholeFrames_X1_get
set_option maxRecDepth 100000 in
theorem ggX5_wholeFrames_X5_cutStrips : GoodIn wsX5_wholeFrames wsX5_cutStrips := goodIn_r _ [17, 1, 18, 19, 20, 21, 8, 9, 10, 5, 11, 12, 22, 23, 24, 16, 25, 26, 27, 28, 29, 30, 31, 32, 33, 34, 35, 36, 37, 38, 39, 40, 41, 42, 43, 44, 45, 46, 47, 48, 49, 50, 51, 52, 53, 54, 55, 56, 57, 58, 59, 60, 61, 62, 63, 64, 65] rfl (by decide +kernel)
set_option maxRecDepth 100000 in
theorem gX5_wholeFrames_X5_cutStrips : GoodIn wsX5_wholeFrames (wsV RX5 81 RX5 yX5_cutStrips wsX5_cutStrips) := goodIn_app (goodIn_of _ (by decide +kernel)) ggX5_wholeFrames_X5_cutStrips
theorem dX5_wholeFrames_0 : decode cX5_wholeFrames 0 = .ok (.iconst 0, 1) := by decide +kernel
theorem dX5_wholeFrames_1 : decode cX5_wholeFrames 1 = .ok (.istore_n 1, 1) := by decide +kernel
theorem dX5_wholeFrames_2 : decode cX5_wholeFrames 2 = .ok (.iconst 0, 1) := by decide +kernel
theorem dX5_wholeFrames_3 : decode cX5_wholeFrames 3 = .ok (.istore_n 2, 1) := by decide +kernel
theorem dX5_wholeFrames_4 : decode cX5_wholeFrames 4 = .ok (.iload_n 2, 1) := by decide +kernel
theorem dX5_wholeFrames_5 : decode cX5_wholeFrames 5 = .ok (.aload_n 0, 1) := by decide +kernel
theorem dX5_wholeFrames_6 : decode cX5_wholeFrames 6 = .ok (.getfield 9, 3) := by decide +kernel
theorem dX5_wholeFrames_9 : decode cX5_wholeFrames 9 = .ok (.invokevirtual 31, 3) := by decide +kernel
theorem dX5_wholeFrames_12 : decode cX5_wholeFrames 12 = .ok (.if_icmp .ge 32, 3) := by decide +kernel
theorem dX5_wholeFrames_15 : decode cX5_wholeFrames 15 = .ok (.aload_n 0, 1) := by decide +kernel
theorem dX5_wholeFrames_16 : decode cX5_wholeFrames 16 = .ok (.getfield 9, 3) := by decide +kernel
theorem dX5_wholeFrames_19 : decode cX5_wholeFrames 19 = .ok (.iload_n 2, 1) := by decide +kernel
theorem dX5_wholeFrames_20 : decode cX5_wholeFrames 20 = .ok (.iconst 5, 1) := by decide +kernel
theorem dX5_wholeFrames_21 : decode cX5_wholeFrames 21 = .ok (.invokevirtual 45, 3) := by decide +kernel
theorem dX5_wholeFrames_24 : decode cX5_wholeFrames 24 = .ok (.ifCond .le 14, 3) := by decide +kernel
theorem dX5_wholeFrames_27 : decode cX5_wholeFrames 27 = .ok (.aload_n 0, 1) := by decide +kernel
theorem dX5_wholeFrames_28 : decode cX5_wholeFrames 28 = .ok (.iload_n 2, 1) := by decide +kernel
theorem dX5_wholeFrames_29 : decode cX5_wholeFrames 29 = .ok (.invokevirtual 81, 3) := by decide +kernel
theorem dX5_wholeFrames_32 : decode cX5_wholeFrames 32 = .ok (.ifCond .ne 6, 3) := by decide +kernel
theorem dX5_wholeFrames_35 : decode cX5_wholeFrames 35 = .ok (.iinc 1 1, 3) := by decide +kernel
theorem dX5_wholeFrames_38 : decode cX5_wholeFrames 38 = .ok (.iinc 2 1, 3) := by decide +kernel
theorem dX5_wholeFrames_41 : decode cX5_wholeFrames 41 = .ok (.goto (-37), 3) := by decide +kernel
theorem dX5_wholeFrames_44 : decode cX5_wholeFrames 44 = .ok (.iload_n 1, 1) := by decide +kernel
theorem dX5_wholeFrames_45 : decode cX5_wholeFrames 45 = .ok (.ireturn, 1) := by decide +kernel
set_option maxRecDepth 100000 in
theorem ggX5_cutStrips_X1_get : GoodIn wsX5_cutStrips wsX1_get := goodIn_r _ [10, 11, 51, 52, 53, 54, 55, 56] rfl (by decide +kernel)
set_option maxRecDepth 100000 in
theorem gX5_cutStrips_X1_get : GoodIn wsX5_cutStrips (wsV RX5 45 RX1 yX1_get wsX1_get) := goodIn_app (goodIn_of _ (by decide +kernel)) ggX5_cutStrips_X1_get
set_option maxRecDepth 100000 in
theorem ggX5_cutStrips_X5_isWholly : GoodIn wsX5_cutStrips wsX5_isWholly := goodIn_r _ [16, 1, 17, 18, 19, 9, 20, 21, 22, 23, 24, 15, 25, 26, 27, 28, 29, 30, 31, 32, 33, 34, 35, 36, 37, 38, 39, 6, 7, 8, 10, 11, 40, 41, 42, 43, 44, 45, 46, 47, 48, 49, 50, 51, 52, 53, 54, 55, 56] rfl (by decide +kernel)
set_option maxRecDepth 100000 in
theorem gX5_cutStrips_X5_isWholly : GoodIn wsX5_cutStrips (wsV RX5 89 RX5 yX5_isWholly wsX5_isWholly) := goodIn_app (goodIn_of _ (by decide +kernel)) ggX5_cutStrips_X5_isWholly
theorem dX5_cutStrips_0 : decode cX5_cutStrips 0 = .ok (.aload_n 0, 1) := by decide +kernel
theorem dX5_cutStrips_1 : decode cX5_cutStrips 1 = .ok (.getfield 9, 3) := by decide +kernel
theorem dX5_cutStrips_4 : decode cX5_cutStrips 4 = .ok (.iload_n 1, 1) := by decide +kernel
theorem dX5_cutStrips_5 : decode cX5_cutStrips 5 = .ok (.iconst 0, 1) := by decide +kernel
theorem dX5_cutStrips_6 : decode cX5_cutStrips 6 = .ok (.invokevirtual 45, 3) := by decide +kernel
theorem dX5_cutStrips_9 : decode cX5_cutStrips 9 = .ok (.istore_n 2, 1) := by decide +kernel
theorem dX5_cutStrips_10 : decode cX5_cutStrips 10 = .ok (.aload_n 0, 1) := by decide +kernel
theorem dX5_cutStrips_11 : decode cX5_cutStrips 11 = .ok (.getfield 9, 3) := by decide +kernel
theorem dX5_cutStrips_14 : decode cX5_cutStrips 14 = .ok (.iload_n 1, 1) := by decide +kernel
theorem dX5_cutStrips_15 : decode cX5_cutStrips 15 = .ok (.iconst 1, 1) := by decide +kernel
theorem dX5_cutStrips_16 : decode cX5_cutStrips 16 = .ok (.invokevirtual 45, 3) := by decide +kernel
theorem dX5_cutStrips_19 : decode cX5_cutStrips 19 = .ok (.istore_n 3, 1) := by decide +kernel
theorem dX5_cutStrips_20 : decode cX5_cutStrips 20 = .ok (.aload_n 0, 1) := by decide +kernel
theorem dX5_cutStrips_21 : decode cX5_cutStrips 21 = .ok (.getfield 9, 3) := by decide +kernel
theorem dX5_cutStrips_24 : decode cX5_cutStrips 24 = .ok (.iload_n 1, 1) := by decide +kernel
theorem dX5_cutStrips_25 : decode cX5_cutStrips 25 = .ok (.iconst 2, 1) := by decide +kernel
theorem dX5_cutStrips_26 : decode cX5_cutStrips 26 = .ok (.invokevirtual 45, 3) := by decide +kernel
theorem dX5_cutStrips_29 : decode cX5_cutStrips 29 = .ok (.istore 4, 2) := by decide +kernel
theorem dX5_cutStrips_31 : decode cX5_cutStrips 31 = .ok (.aload_n 0, 1) := by decide +kernel
theorem dX5_cutStrips_32 : decode cX5_cutStrips 32 = .ok (.getfield 9, 3) := by decide +kernel
theorem dX5_cutStrips_35 : decode cX5_cutStrips 35 = .ok (.iload_n 1, 1) := by decide +kernel
theorem dX5_cutStrips_36 : decode cX5_cutStrips 36 = .ok (.iconst 3, 1) := by decide +kernel
theorem dX5_cutStrips_37 : decode cX5_cutStrips 37 = .ok (.invokevirtual 45, 3) := by decide +kernel
theorem dX5_cutStrips_40 : decode cX5_cutStrips 40 = .ok (.istore 5, 2) := by decide +kernel
theorem dX5_cutStrips_42 : decode cX5_cutStrips 42 = .ok (.aload_n 0, 1) := by decide +kernel
theorem dX5_cutStrips_43 : decode cX5_cutStrips 43 = .ok (.getfield 9, 3) := by decide +kernel
theorem dX5_cutStrips_46 : decode cX5_cutStrips 46 = .ok (.iload_n 1, 1) := by decide +kernel
theorem dX5_cutStrips_47 : decode cX5_cutStrips 47 = .ok (.iconst 5, 1) := by decide +kernel
theorem dX5_cutStrips_48 : decode cX5_cutStrips 48 = .ok (.invokevirtual 45, 3) := by decide +kernel
theorem dX5_cutStrips_51 : decode cX5_cutStrips 51 = .ok (.iload 4, 2) := by decide +kernel
theorem dX5_cutStrips_53 : decode cX5_cutStrips 53 = .ok (.invokestatic 84, 3) := by decide +kernel
theorem dX5_cutStrips_56 : decode cX5_cutStrips 56 = .ok (.istore 6, 2) := by decide +kernel
theorem dX5_cutStrips_58 : decode cX5_cutStrips 58 = .ok (.aload_n 0, 1) := by decide +kernel
theorem dX5_cutStrips_59 : decode cX5_cutStrips 59 = .ok (.getfield 9, 3) := by decide +kernel
theorem dX5_cutStrips_62 : decode cX5_cutStrips 62 = .ok (.iload_n 1, 1) := by decide +kernel
theorem dX5_cutStrips_63 : decode cX5_cutStrips 63 = .ok (.iconst 5, 1) := by decide +kernel
theorem dX5_cutStrips_64 : decode cX5_cutStrips 64 = .ok (.invokevirtual 45, 3) := by decide +kernel
theorem dX5_cutStrips_67 : decode cX5_cutStrips 67 = .ok (.iload 5, 2) := by decide +kernel
theorem dX5_cutStrips_69 : decode cX5_cutStrips 69 = .ok (.invokestatic 84, 3) := by decide +kernel
theorem dX5_cutStrips_72 : decode cX5_cutStrips 72 = .ok (.istore 7, 2) := by decide +kernel
theorem dX5_cutStrips_74 : decode cX5_cutStrips 74 = .ok (.aload_n 0, 1) := by decide +kernel
theorem dX5_cutStrips_75 : decode cX5_cutStrips 75 = .ok (.iload_n 1, 1) := by decide +kernel
theorem dX5_cutStrips_76 : decode cX5_cutStrips 76 = .ok (.iload_n 2, 1) := by decide +kernel
theorem dX5_cutStrips_77 : decode cX5_cutStrips 77 = .ok (.iload_n 3, 1) := by decide +kernel
theorem dX5_cutStrips_78 : decode cX5_cutStrips 78 = .ok (.iload 6, 2) := by decide +kernel
theorem dX5_cutStrips_80 : decode cX5_cutStrips 80 = .ok (.iload 5, 2) := by decide +kernel
theorem dX5_cutStrips_82 : decode cX5_cutStrips 82 = .ok (.invokevirtual 89, 3) := by decide +kernel
theorem dX5_cutStrips_85 : decode cX5_cutStrips 85 = .ok (.ifCond .eq 7, 3) := by decide +kernel
theorem dX5_cutStrips_88 : decode cX5_cutStrips 88 = .ok (.iconst 0, 1) := by decide +kernel
theorem dX5_cutStrips_89 : decode cX5_cutStrips 89 = .ok (.goto 4, 3) := by decide +kernel
theorem dX5_cutStrips_92 : decode cX5_cutStrips 92 = .ok (.iconst 1, 1) := by decide +kernel
theorem dX5_cutStrips_93 : decode cX5_cutStrips 93 = .ok (.istore 8, 2) := by decide +kernel
theorem dX5_cutStrips_95 : decode cX5_cutStrips 95 = .ok (.iload 8, 2) := by decide +kernel
theorem dX5_cutStrips_97 : decode cX5_cutStrips 97 = .ok (.aload_n 0, 1) := by decide +kernel
theorem dX5_cutStrips_98 : decode cX5_cutStrips 98 = .ok (.iload_n 1, 1) := by decide +kernel
theorem dX5_cutStrips_99 : decode cX5_cutStrips 99 = .ok (.iload_n 2, 1) := by decide +kernel
theorem dX5_cutStrips_100 : decode cX5_cutStrips 100 = .ok (.iload_n 3, 1) := by decide +kernel
theorem dX5_cutStrips_101 : decode cX5_cutStrips 101 = .ok (.iload 4, 2) := by decide +kernel
theorem dX5_cutStrips_103 : decode cX5_cutStrips 103 = .ok (.iload 7, 2) := by decide +kernel
theorem dX5_cutStrips_105 : decode cX5_cutStrips 105 = .ok (.invokevirtual 89, 3) := by decide +kernel
theorem dX5_cutStrips_108 : decode cX5_cutStrips 108 = .ok (.ifCond .eq 7, 3) := by decide +kernel
theorem dX5_cutStrips_111 : decode cX5_cutStrips 111 = .ok (.iconst 0, 1) := by decide +kernel
theorem dX5_cutStrips_112 : decode cX5_cutStrips 112 = .ok (.goto 4, 3) := by decide +kernel
theorem dX5_cutStrips_115 : decode cX5_cutStrips 115 = .ok (.iconst 2, 1) := by decide +kernel
theorem dX5_cutStrips_116 : decode cX5_cutStrips 116 = .ok (.ior, 1) := by decide +kernel
theorem dX5_cutStrips_117 : decode cX5_cutStrips 117 = .ok (.istore 8, 2) := by decide +kernel
theorem dX5_cutStrips_119 : decode cX5_cutStrips 119 = .ok (.iload 8, 2) := by decide +kernel
theorem dX5_cutStrips_121 : decode cX5_cutStrips 121 = .ok (.aload_n 0, 1) := by decide +kernel
theorem dX5_cutStrips_122 : decode cX5_cutStrips 122 = .ok (.iload_n 1, 1) := by decide +kernel
theorem dX5_cutStrips_123 : decode cX5_cutStrips 123 = .ok (.iload_n 2, 1) := by decide +kernel
theorem dX5_cutStrips_124 : decode cX5_cutStrips 124 = .ok (.iload 4, 2) := by decide +kernel
theorem dX5_cutStrips_126 : decode cX5_cutStrips 126 = .ok (.iadd, 1) := by decide +kernel
theorem dX5_cutStrips_127 : decode cX5_cutStrips 127 = .ok (.iload 6, 2) := by decide +kernel
theorem dX5_cutStrips_129 : decode cX5_cutStrips 129 = .ok (.isub, 1) := by decide +kernel
theorem dX5_cutStrips_130 : decode cX5_cutStrips 130 = .ok (.iload_n 3, 1) := by decide +kernel
theorem dX5_cutStrips_131 : decode cX5_cutStrips 131 = .ok (.iload 6, 2) := by decide +kernel
theorem dX5_cutStrips_133 : decode cX5_cutStrips 133 = .ok (.iload 5, 2) := by decide +kernel
theorem dX5_cutStrips_135 : decode cX5_cutStrips 135 = .ok (.invokevirtual 89, 3) := by decide +kernel
theorem dX5_cutStrips_138 : decode cX5_cutStrips 138 = .ok (.ifCond .eq 7, 3) := by decide +kernel
theorem dX5_cutStrips_141 : decode cX5_cutStrips 141 = .ok (.iconst 0, 1) := by decide +kernel
theorem dX5_cutStrips_142 : decode cX5_cutStrips 142 = .ok (.goto 4, 3) := by decide +kernel
theorem dX5_cutStrips_145 : decode cX5_cutStrips 145 = .ok (.iconst 4, 1) := by decide +kernel
theorem dX5_cutStrips_146 : decode cX5_cutStrips 146 = .ok (.ior, 1) := by decide +kernel
theorem dX5_cutStrips_147 : decode cX5_cutStrips 147 = .ok (.istore 8, 2) := by decide +kernel
theorem dX5_cutStrips_149 : decode cX5_cutStrips 149 = .ok (.iload 8, 2) := by decide +kernel
theorem dX5_cutStrips_151 : decode cX5_cutStrips 151 = .ok (.aload_n 0, 1) := by decide +kernel
theorem dX5_cutStrips_152 : decode cX5_cutStrips 152 = .ok (.iload_n 1, 1) := by decide +kernel
theorem dX5_cutStrips_153 : decode cX5_cutStrips 153 = .ok (.iload_n 2, 1) := by decide +kernel
theorem dX5_cutStrips_154 : decode cX5_cutStrips 154 = .ok (.iload_n 3, 1) := by decide +kernel
theorem dX5_cutStrips_155 : decode cX5_cutStrips 155 = .ok (.iload 5, 2) := by decide +kernel
theorem dX5_cutStrips_157 : decode cX5_cutStrips 157 = .ok (.iadd, 1) := by decide +kernel
theorem dX5_cutStrips_158 : decode cX5_cutStrips 158 = .ok (.iload 7, 2) := by decide +kernel
theorem dX5_cutStrips_160 : decode cX5_cutStrips 160 = .ok (.isub, 1) := by decide +kernel
theorem dX5_cutStrips_161 : decode cX5_cutStrips 161 = .ok (.iload 4, 2) := by decide +kernel
theorem dX5_cutStrips_163 : decode cX5_cutStrips 163 = .ok (.iload 7, 2) := by decide +kernel
theorem dX5_cutStrips_165 : decode cX5_cutStrips 165 = .ok (.invokevirtual 89, 3) := by decide +kernel
theorem dX5_cutStrips_168 : decode cX5_cutStrips 168 = .ok (.ifCond .eq 7, 3) := by decide +kernel
theorem dX5_cutStrips_171 : decode cX5_cutStrips 171 = .ok (.iconst 0, 1) := by decide +kernel
theorem dX5_cutStrips_172 : decode cX5_cutStrips 172 = .ok (.goto 5, 3) := by decide +kernel
theorem dX5_cutStrips_175 : decode cX5_cutStrips 175 = .ok (.bipush 8, 2) := by decide +kernel
theorem dX5_cutStrips_177 : decode cX5_cutStrips 177 = .ok (.ior, 1) := by decide +kernel
theorem dX5_cutStrips_178 : decode cX5_cutStrips 178 = .ok (.istore 8, 2) := by decide +kernel
theorem dX5_cutStrips_180 : decode cX5_cutStrips 180 = .ok (.iload 8, 2) := by decide +kernel
theorem dX5_cutStrips_182 : decode cX5_cutStrips 182 = .ok (.ireturn, 1) := by decide +kernel
set_option maxRecDepth 100000 in
theorem ggX5_isWholly_X1_span : GoodIn wsX5_isWholly wsX1_span := goodIn_r _ [6, 7, 43, 44, 45, 46, 47, 48] rfl (by decide +kernel)
set_option maxRecDepth 100000 in
theorem gX5_isWholly_X1_span : GoodIn wsX5_isWholly (wsV RX5 49 RX1 yX1_span wsX1_span) := goodIn_app (goodIn_of _ (by decide +kernel)) ggX5_isWholly_X1_span
set_option maxRecDepth 100000 in
theorem ggX5_isWholly_X5_rowOf : GoodIn wsX5_isWholly wsX5_rowOf := goodIn_r _ [12, 1, 13, 14, 15, 16, 17, 5, 18, 7, 2, 3, 4, 6, 19, 20, 21, 22, 23, 24, 25, 26, 27, 28, 29, 30, 31, 39, 40, 41, 42, 43, 44, 45, 46, 47, 48] rfl (by decide +kernel)
set_option maxRecDepth 100000 in
theorem gX5_isWholly_X5_rowOf : GoodIn wsX5_isWholly (wsV RX5 78 RX5 yX5_rowOf wsX5_rowOf) := goodIn_app (goodIn_of _ (by decide +kernel)) ggX5_isWholly_X5_rowOf
set_option maxRecDepth 100000 in
theorem ggX5_isWholly_J6_bitCount_0f7a4 : GoodIn wsX5_isWholly wsJ6_bitCount_0f7a4 := goodIn_r _ [35, 36, 37, 38] rfl (by decide +kernel)
set_option maxRecDepth 100000 in
theorem gX5_isWholly_J6_bitCount_0f7a4 : GoodIn wsX5_isWholly (va_wsS RX5 64 yJ6_bitCount_0f7a4 wsJ6_bitCount_0f7a4) := goodIn_app (goodIn_of _ (by decide +kernel)) ggX5_isWholly_J6_bitCount_0f7a4
theorem dX5_isWholly_0 : decode cX5_isWholly 0 = .ok (.aload_n 0, 1) := by decide +kernel
theorem dX5_isWholly_1 : decode cX5_isWholly 1 = .ok (.getfield 9, 3) := by decide +kernel
theorem dX5_isWholly_4 : decode cX5_isWholly 4 = .ok (.iload_n 2, 1) := by decide +kernel
theorem dX5_isWholly_5 : decode cX5_isWholly 5 = .ok (.iload 4, 2) := by decide +kernel
theorem dX5_isWholly_7 : decode cX5_isWholly 7 = .ok (.invokevirtual 49, 3) := by decide +kernel
theorem dX5_isWholly_10 : decode cX5_isWholly 10 = .ok (.istore 6, 2) := by decide +kernel
theorem dX5_isWholly_12 : decode cX5_isWholly 12 = .ok (.iconst 0, 1) := by decide +kernel
theorem dX5_isWholly_13 : decode cX5_isWholly 13 = .ok (.istore 7, 2) := by decide +kernel
theorem dX5_isWholly_15 : decode cX5_isWholly 15 = .ok (.iload_n 3, 1) := by decide +kernel
theorem dX5_isWholly_16 : decode cX5_isWholly 16 = .ok (.istore 8, 2) := by decide +kernel
theorem dX5_isWholly_18 : decode cX5_isWholly 18 = .ok (.iload 8, 2) := by decide +kernel
theorem dX5_isWholly_20 : decode cX5_isWholly 20 = .ok (.iload_n 3, 1) := by decide +kernel
theorem dX5_isWholly_21 : decode cX5_isWholly 21 = .ok (.iload 5, 2) := by decide +kernel
theorem dX5_isWholly_23 : decode cX5_isWholly 23 = .ok (.iadd, 1) := by decide +kernel
theorem dX5_isWholly_24 : decode cX5_isWholly 24 = .ok (.if_icmp .ge 27, 3) := by decide +kernel
theorem dX5_isWholly_27 : decode cX5_isWholly 27 = .ok (.iload 7, 2) := by decide +kernel
theorem dX5_isWholly_29 : decode cX5_isWholly 29 = .ok (.aload_n 0, 1) := by decide +kernel
theorem dX5_isWholly_30 : decode cX5_isWholly 30 = .ok (.iload_n 1, 1) := by decide +kernel
theorem dX5_isWholly_31 : decode cX5_isWholly 31 = .ok (.iload 8, 2) := by decide +kernel
theorem dX5_isWholly_33 : decode cX5_isWholly 33 = .ok (.invokevirtual 78, 3) := by decide +kernel
theorem dX5_isWholly_36 : decode cX5_isWholly 36 = .ok (.iload 6, 2) := by decide +kernel
theorem dX5_isWholly_38 : decode cX5_isWholly 38 = .ok (.iand, 1) := by decide +kernel
theorem dX5_isWholly_39 : decode cX5_isWholly 39 = .ok (.invokestatic 64, 3) := by decide +kernel
theorem dX5_isWholly_42 : decode cX5_isWholly 42 = .ok (.iadd, 1) := by decide +kernel
theorem dX5_isWholly_43 : decode cX5_isWholly 43 = .ok (.istore 7, 2) := by decide +kernel
theorem dX5_isWholly_45 : decode cX5_isWholly 45 = .ok (.iinc 8 1, 3) := by decide +kernel
theorem dX5_isWholly_48 : decode cX5_isWholly 48 = .ok (.goto (-30), 3) := by decide +kernel
theorem dX5_isWholly_51 : decode cX5_isWholly 51 = .ok (.iload 7, 2) := by decide +kernel
theorem dX5_isWholly_53 : decode cX5_isWholly 53 = .ok (.iload 4, 2) := by decide +kernel
theorem dX5_isWholly_55 : decode cX5_isWholly 55 = .ok (.iload 5, 2) := by decide +kernel
theorem dX5_isWholly_57 : decode cX5_isWholly 57 = .ok (.imul, 1) := by decide +kernel
theorem dX5_isWholly_58 : decode cX5_isWholly 58 = .ok (.if_icmp .ne 7, 3) := by decide +kernel
theorem dX5_isWholly_61 : decode cX5_isWholly 61 = .ok (.iconst 1, 1) := by decide +kernel
theorem dX5_isWholly_62 : decode cX5_isWholly 62 = .ok (.goto 4, 3) := by decide +kernel
theorem dX5_isWholly_65 : decode cX5_isWholly 65 = .ok (.iconst 0, 1) := by decide +kernel
theorem dX5_isWholly_66 : decode cX5_isWholly 66 = .ok (.ireturn, 1) := by decide +kernel
set_option maxRecDepth 100000 in
theorem ggX5_edgeBetween_X1_rows : GoodIn wsX5_edgeBetween wsX1_rows := goodIn_r _ [6, 7, 47, 48, 49, 50, 51, 52] rfl (by decide +kernel)
set_option maxRecDepth 100000 in
theorem gX5_edgeBetween_X1_rows : GoodIn wsX5_edgeBetween (wsV RX5 75 RX1 yX1_rows wsX1_rows) := goodIn_app (goodIn_of _ (by decide +kernel)) ggX5_edgeBetween_X1_rows
set_option maxRecDepth 100000 in
theorem ggX5_edgeBetween_X5_rowOf : GoodIn wsX5_edgeBetween wsX5_rowOf := goodIn_r _ [12, 1, 13, 14, 15, 16, 17, 5, 18, 19, 20, 21, 22, 23, 24, 25, 26, 27, 7, 28, 29, 30, 31, 32, 33, 34, 35, 43, 44, 45, 46, 47, 48, 49, 50, 51, 52] rfl (by decide +kernel)
set_option maxRecDepth 100000 in
theorem gX5_edgeBetween_X5_rowOf : GoodIn wsX5_edgeBetween (wsV RX5 78 RX5 yX5_rowOf wsX5_rowOf) := goodIn_app (goodIn_of _ (by decide +kernel)) ggX5_edgeBetween_X5_rowOf
set_option maxRecDepth 100000 in
theorem ggX5_edgeBetween_J6_bitCount_0f7a4 : GoodIn wsX5_edgeBetween wsJ6_bitCount_0f7a4 := goodIn_r _ [39, 40, 41, 42] rfl (by decide +kernel)
set_option maxRecDepth 100000 in
theorem gX5_edgeBetween_J6_bitCount_0f7a4 : GoodIn wsX5_edgeBetween (va_wsS RX5 64 yJ6_bitCount_0f7a4 wsJ6_bitCount_0f7a4) := goodIn_app (goodIn_of _ (by decide +kernel)) ggX5_edgeBetween_J6_bitCount_0f7a4
theorem dX5_edgeBetween_0 : decode cX5_edgeBetween 0 = .ok (.iconst 0, 1) := by decide +kernel
theorem dX5_edgeBetween_1 : decode cX5_edgeBetween 1 = .ok (.istore_n 3, 1) := by decide +kernel
theorem dX5_edgeBetween_2 : decode cX5_edgeBetween 2 = .ok (.iconst 0, 1) := by decide +kernel
theorem dX5_edgeBetween_3 : decode cX5_edgeBetween 3 = .ok (.istore 4, 2) := by decide +kernel
theorem dX5_edgeBetween_5 : decode cX5_edgeBetween 5 = .ok (.iload 4, 2) := by decide +kernel
theorem dX5_edgeBetween_7 : decode cX5_edgeBetween 7 = .ok (.aload_n 0, 1) := by decide +kernel
theorem dX5_edgeBetween_8 : decode cX5_edgeBetween 8 = .ok (.getfield 9, 3) := by decide +kernel
theorem dX5_edgeBetween_11 : decode cX5_edgeBetween 11 = .ok (.invokevirtual 75, 3) := by decide +kernel
theorem dX5_edgeBetween_14 : decode cX5_edgeBetween 14 = .ok (.if_icmp .ge 89, 3) := by decide +kernel
theorem dX5_edgeBetween_17 : decode cX5_edgeBetween 17 = .ok (.aload_n 0, 1) := by decide +kernel
theorem dX5_edgeBetween_18 : decode cX5_edgeBetween 18 = .ok (.iload_n 1, 1) := by decide +kernel
theorem dX5_edgeBetween_19 : decode cX5_edgeBetween 19 = .ok (.iload 4, 2) := by decide +kernel
theorem dX5_edgeBetween_21 : decode cX5_edgeBetween 21 = .ok (.invokevirtual 78, 3) := by decide +kernel
theorem dX5_edgeBetween_24 : decode cX5_edgeBetween 24 = .ok (.istore 5, 2) := by decide +kernel
theorem dX5_edgeBetween_26 : decode cX5_edgeBetween 26 = .ok (.aload_n 0, 1) := by decide +kernel
theorem dX5_edgeBetween_27 : decode cX5_edgeBetween 27 = .ok (.iload_n 2, 1) := by decide +kernel
theorem dX5_edgeBetween_28 : decode cX5_edgeBetween 28 = .ok (.iload 4, 2) := by decide +kernel
theorem dX5_edgeBetween_30 : decode cX5_edgeBetween 30 = .ok (.invokevirtual 78, 3) := by decide +kernel
theorem dX5_edgeBetween_33 : decode cX5_edgeBetween 33 = .ok (.istore 6, 2) := by decide +kernel
theorem dX5_edgeBetween_35 : decode cX5_edgeBetween 35 = .ok (.iload_n 3, 1) := by decide +kernel
theorem dX5_edgeBetween_36 : decode cX5_edgeBetween 36 = .ok (.iload 5, 2) := by decide +kernel
theorem dX5_edgeBetween_38 : decode cX5_edgeBetween 38 = .ok (.iload 6, 2) := by decide +kernel
theorem dX5_edgeBetween_40 : decode cX5_edgeBetween 40 = .ok (.iconst 1, 1) := by decide +kernel
theorem dX5_edgeBetween_41 : decode cX5_edgeBetween 41 = .ok (.ishl, 1) := by decide +kernel
theorem dX5_edgeBetween_42 : decode cX5_edgeBetween 42 = .ok (.iand, 1) := by decide +kernel
theorem dX5_edgeBetween_43 : decode cX5_edgeBetween 43 = .ok (.invokestatic 64, 3) := by decide +kernel
theorem dX5_edgeBetween_46 : decode cX5_edgeBetween 46 = .ok (.iadd, 1) := by decide +kernel
theorem dX5_edgeBetween_47 : decode cX5_edgeBetween 47 = .ok (.istore_n 3, 1) := by decide +kernel
theorem dX5_edgeBetween_48 : decode cX5_edgeBetween 48 = .ok (.iload_n 3, 1) := by decide +kernel
theorem dX5_edgeBetween_49 : decode cX5_edgeBetween 49 = .ok (.iload 5, 2) := by decide +kernel
theorem dX5_edgeBetween_51 : decode cX5_edgeBetween 51 = .ok (.iload 6, 2) := by decide +kernel
theorem dX5_edgeBetween_53 : decode cX5_edgeBetween 53 = .ok (.iconst 1, 1) := by decide +kernel
theorem dX5_edgeBetween_54 : decode cX5_edgeBetween 54 = .ok (.ishr, 1) := by decide +kernel
theorem dX5_edgeBetween_55 : decode cX5_edgeBetween 55 = .ok (.iand, 1) := by decide +kernel
theorem dX5_edgeBetween_56 : decode cX5_edgeBetween 56 = .ok (.invokestatic 64, 3) := by decide +kernel
theorem dX5_edgeBetween_59 : decode cX5_edgeBetween 59 = .ok (.iadd, 1) := by decide +kernel
theorem dX5_edgeBetween_60 : decode cX5_edgeBetween 60 = .ok (.istore_n 3, 1) := by decide +kernel
theorem dX5_edgeBetween_61 : decode cX5_edgeBetween 61 = .ok (.iload_n 3, 1) := by decide +kernel
theorem dX5_edgeBetween_62 : decode cX5_edgeBetween 62 = .ok (.iload 5, 2) := by decide +kernel
theorem dX5_edgeBetween_64 : decode cX5_edgeBetween 64 = .ok (.aload_n 0, 1) := by decide +kernel
theorem dX5_edgeBetween_65 : decode cX5_edgeBetween 65 = .ok (.iload_n 2, 1) := by decide +kernel
theorem dX5_edgeBetween_66 : decode cX5_edgeBetween 66 = .ok (.iload 4, 2) := by decide +kernel
theorem dX5_edgeBetween_68 : decode cX5_edgeBetween 68 = .ok (.iconst 1, 1) := by decide +kernel
theorem dX5_edgeBetween_69 : decode cX5_edgeBetween 69 = .ok (.isub, 1) := by decide +kernel
theorem dX5_edgeBetween_70 : decode cX5_edgeBetween 70 = .ok (.invokevirtual 78, 3) := by decide +kernel
theorem dX5_edgeBetween_73 : decode cX5_edgeBetween 73 = .ok (.iand, 1) := by decide +kernel
theorem dX5_edgeBetween_74 : decode cX5_edgeBetween 74 = .ok (.invokestatic 64, 3) := by decide +kernel
theorem dX5_edgeBetween_77 : decode cX5_edgeBetween 77 = .ok (.iadd, 1) := by decide +kernel
theorem dX5_edgeBetween_78 : decode cX5_edgeBetween 78 = .ok (.istore_n 3, 1) := by decide +kernel
theorem dX5_edgeBetween_79 : decode cX5_edgeBetween 79 = .ok (.iload_n 3, 1) := by decide +kernel
theorem dX5_edgeBetween_80 : decode cX5_edgeBetween 80 = .ok (.iload 5, 2) := by decide +kernel
theorem dX5_edgeBetween_82 : decode cX5_edgeBetween 82 = .ok (.aload_n 0, 1) := by decide +kernel
theorem dX5_edgeBetween_83 : decode cX5_edgeBetween 83 = .ok (.iload_n 2, 1) := by decide +kernel
theorem dX5_edgeBetween_84 : decode cX5_edgeBetween 84 = .ok (.iload 4, 2) := by decide +kernel
theorem dX5_edgeBetween_86 : decode cX5_edgeBetween 86 = .ok (.iconst 1, 1) := by decide +kernel
theorem dX5_edgeBetween_87 : decode cX5_edgeBetween 87 = .ok (.iadd, 1) := by decide +kernel
theorem dX5_edgeBetween_88 : decode cX5_edgeBetween 88 = .ok (.invokevirtual 78, 3) := by decide +kernel
theorem dX5_edgeBetween_91 : decode cX5_edgeBetween 91 = .ok (.iand, 1) := by decide +kernel
theorem dX5_edgeBetween_92 : decode cX5_edgeBetween 92 = .ok (.invokestatic 64, 3) := by decide +kernel
theorem dX5_edgeBetween_95 : decode cX5_edgeBetween 95 = .ok (.iadd, 1) := by decide +kernel
theorem dX5_edgeBetween_96 : decode cX5_edgeBetween 96 = .ok (.istore_n 3, 1) := by decide +kernel
theorem dX5_edgeBetween_97 : decode cX5_edgeBetween 97 = .ok (.iinc 4 1, 3) := by decide +kernel
theorem dX5_edgeBetween_100 : decode cX5_edgeBetween 100 = .ok (.goto (-95), 3) := by decide +kernel
theorem dX5_edgeBetween_103 : decode cX5_edgeBetween 103 = .ok (.iload_n 3, 1) := by decide +kernel
theorem dX5_edgeBetween_104 : decode cX5_edgeBetween 104 = .ok (.ireturn, 1) := by decide +kernel
set_option maxRecDepth 100000 in
theorem ggX5_borderEdge_X1_columns : GoodIn wsX5_borderEdge wsX1_columns := goodIn_r _ [6, 7, 47, 48, 49, 50, 51, 52] rfl (by decide +kernel)
set_option maxRecDepth 100000 in
theorem gX5_borderEdge_X1_columns : GoodIn wsX5_borderEdge (wsV RX5 69 RX1 yX1_columns wsX1_columns) := goodIn_app (goodIn_of _ (by decide +kernel)) ggX5_borderEdge_X1_columns
set_option maxRecDepth 100000 in
theorem ggX5_borderEdge_X5_rowOf : GoodIn wsX5_borderEdge wsX5_rowOf := goodIn_r _ [12, 1, 13, 14, 2, 3, 4, 5, 6, 7, 15, 16, 17, 18, 19, 20, 21, 22, 23, 24, 25, 26, 27, 28, 29, 30, 31, 43, 44, 45, 46, 47, 48, 49, 50, 51, 52] rfl (by decide +kernel)
set_option maxRecDepth 100000 in
theorem gX5_borderEdge_X5_rowOf : GoodIn wsX5_borderEdge (wsV RX5 78 RX5 yX5_rowOf wsX5_rowOf) := goodIn_app (goodIn_of _ (by decide +kernel)) ggX5_borderEdge_X5_rowOf
set_option maxRecDepth 100000 in
theorem ggX5_borderEdge_J6_bitCount_0f7a4 : GoodIn wsX5_borderEdge wsJ6_bitCount_0f7a4 := goodIn_r _ [35, 36, 37, 38] rfl (by decide +kernel)
set_option maxRecDepth 100000 in
theorem gX5_borderEdge_J6_bitCount_0f7a4 : GoodIn wsX5_borderEdge (va_wsS RX5 64 yJ6_bitCount_0f7a4 wsJ6_bitCount_0f7a4) := goodIn_app (goodIn_of _ (by decide +kernel)) ggX5_borderEdge_J6_bitCount_0f7a4
set_option maxRecDepth 100000 in
theorem ggX5_borderEdge_X1_rows : GoodIn wsX5_borderEdge wsX1_rows := goodIn_r _ [42, 23, 47, 48, 49, 50, 51, 52] rfl (by decide +kernel)
set_option maxRecDepth 100000 in
theorem gX5_borderEdge_X1_rows : GoodIn wsX5_borderEdge (wsV RX5 75 RX1 yX1_rows wsX1_rows) := goodIn_app (goodIn_of _ (by decide +kernel)) ggX5_borderEdge_X1_rows
theorem dX5_borderEdge_0 : decode cX5_borderEdge 0 = .ok (.iconst 1, 1) := by decide +kernel
theorem dX5_borderEdge_1 : decode cX5_borderEdge 1 = .ok (.iconst 1, 1) := by decide +kernel
theorem dX5_borderEdge_2 : decode cX5_borderEdge 2 = .ok (.aload_n 0, 1) := by decide +kernel
theorem dX5_borderEdge_3 : decode cX5_borderEdge 3 = .ok (.getfield 9, 3) := by decide +kernel
theorem dX5_borderEdge_6 : decode cX5_borderEdge 6 = .ok (.invokevirtual 69, 3) := by decide +kernel
theorem dX5_borderEdge_9 : decode cX5_borderEdge 9 = .ok (.iconst 1, 1) := by decide +kernel
theorem dX5_borderEdge_10 : decode cX5_borderEdge 10 = .ok (.isub, 1) := by decide +kernel
theorem dX5_borderEdge_11 : decode cX5_borderEdge 11 = .ok (.ishl, 1) := by decide +kernel
theorem dX5_borderEdge_12 : decode cX5_borderEdge 12 = .ok (.ior, 1) := by decide +kernel
theorem dX5_borderEdge_13 : decode cX5_borderEdge 13 = .ok (.istore_n 2, 1) := by decide +kernel
theorem dX5_borderEdge_14 : decode cX5_borderEdge 14 = .ok (.aload_n 0, 1) := by decide +kernel
theorem dX5_borderEdge_15 : decode cX5_borderEdge 15 = .ok (.iload_n 1, 1) := by decide +kernel
theorem dX5_borderEdge_16 : decode cX5_borderEdge 16 = .ok (.iconst 0, 1) := by decide +kernel
theorem dX5_borderEdge_17 : decode cX5_borderEdge 17 = .ok (.invokevirtual 78, 3) := by decide +kernel
theorem dX5_borderEdge_20 : decode cX5_borderEdge 20 = .ok (.invokestatic 64, 3) := by decide +kernel
theorem dX5_borderEdge_23 : decode cX5_borderEdge 23 = .ok (.aload_n 0, 1) := by decide +kernel
theorem dX5_borderEdge_24 : decode cX5_borderEdge 24 = .ok (.iload_n 1, 1) := by decide +kernel
theorem dX5_borderEdge_25 : decode cX5_borderEdge 25 = .ok (.aload_n 0, 1) := by decide +kernel
theorem dX5_borderEdge_26 : decode cX5_borderEdge 26 = .ok (.getfield 9, 3) := by decide +kernel
theorem dX5_borderEdge_29 : decode cX5_borderEdge 29 = .ok (.invokevirtual 75, 3) := by decide +kernel
theorem dX5_borderEdge_32 : decode cX5_borderEdge 32 = .ok (.iconst 1, 1) := by decide +kernel
theorem dX5_borderEdge_33 : decode cX5_borderEdge 33 = .ok (.isub, 1) := by decide +kernel
theorem dX5_borderEdge_34 : decode cX5_borderEdge 34 = .ok (.invokevirtual 78, 3) := by decide +kernel
theorem dX5_borderEdge_37 : decode cX5_borderEdge 37 = .ok (.invokestatic 64, 3) := by decide +kernel
theorem dX5_borderEdge_40 : decode cX5_borderEdge 40 = .ok (.iadd, 1) := by decide +kernel
theorem dX5_borderEdge_41 : decode cX5_borderEdge 41 = .ok (.istore_n 3, 1) := by decide +kernel
theorem dX5_borderEdge_42 : decode cX5_borderEdge 42 = .ok (.iconst 0, 1) := by decide +kernel
theorem dX5_borderEdge_43 : decode cX5_borderEdge 43 = .ok (.istore 4, 2) := by decide +kernel
theorem dX5_borderEdge_45 : decode cX5_borderEdge 45 = .ok (.iload 4, 2) := by decide +kernel
theorem dX5_borderEdge_47 : decode cX5_borderEdge 47 = .ok (.aload_n 0, 1) := by decide +kernel
theorem dX5_borderEdge_48 : decode cX5_borderEdge 48 = .ok (.getfield 9, 3) := by decide +kernel
theorem dX5_borderEdge_51 : decode cX5_borderEdge 51 = .ok (.invokevirtual 75, 3) := by decide +kernel
theorem dX5_borderEdge_54 : decode cX5_borderEdge 54 = .ok (.if_icmp .ge 24, 3) := by decide +kernel
theorem dX5_borderEdge_57 : decode cX5_borderEdge 57 = .ok (.iload_n 3, 1) := by decide +kernel
theorem dX5_borderEdge_58 : decode cX5_borderEdge 58 = .ok (.aload_n 0, 1) := by decide +kernel
theorem dX5_borderEdge_59 : decode cX5_borderEdge 59 = .ok (.iload_n 1, 1) := by decide +kernel
theorem dX5_borderEdge_60 : decode cX5_borderEdge 60 = .ok (.iload 4, 2) := by decide +kernel
theorem dX5_borderEdge_62 : decode cX5_borderEdge 62 = .ok (.invokevirtual 78, 3) := by decide +kernel
theorem dX5_borderEdge_65 : decode cX5_borderEdge 65 = .ok (.iload_n 2, 1) := by decide +kernel
theorem dX5_borderEdge_66 : decode cX5_borderEdge 66 = .ok (.iand, 1) := by decide +kernel
theorem dX5_borderEdge_67 : decode cX5_borderEdge 67 = .ok (.invokestatic 64, 3) := by decide +kernel
theorem dX5_borderEdge_70 : decode cX5_borderEdge 70 = .ok (.iadd, 1) := by decide +kernel
theorem dX5_borderEdge_71 : decode cX5_borderEdge 71 = .ok (.istore_n 3, 1) := by decide +kernel
theorem dX5_borderEdge_72 : decode cX5_borderEdge 72 = .ok (.iinc 4 1, 3) := by decide +kernel
theorem dX5_borderEdge_75 : decode cX5_borderEdge 75 = .ok (.goto (-30), 3) := by decide +kernel
theorem dX5_borderEdge_78 : decode cX5_borderEdge 78 = .ok (.iload_n 3, 1) := by decide +kernel
theorem dX5_borderEdge_79 : decode cX5_borderEdge 79 = .ok (.ireturn, 1) := by decide +kernel
set_option maxRecDepth 100000 in
theorem ggX5_hiddenCells_X1_rows : GoodIn wsX5_hiddenCells wsX1_rows := goodIn_r _ [6, 7, 54, 55, 56, 57, 58, 59] rfl (by decide +kernel)
set_option maxRecDepth 100000 in
theorem gX5_hiddenCells_X1_rows : GoodIn wsX5_hiddenCells (wsV RX5 75 RX1 yX1_rows wsX1_rows) := goodIn_app (goodIn_of _ (by decide +kernel)) ggX5_hiddenCells_X1_rows
set_option maxRecDepth 100000 in
theorem ggX5_hiddenCells_X5_rowOf : GoodIn wsX5_hiddenCells wsX5_rowOf := goodIn_r _ [12, 1, 13, 14, 15, 16, 17, 5, 18, 19, 20, 21, 22, 23, 24, 25, 26, 27, 7, 28, 29, 30, 31, 32, 33, 34, 35, 50, 51, 52, 53, 54, 55, 56, 57, 58, 59] rfl (by decide +kernel)
set_option maxRecDepth 100000 in
theorem gX5_hiddenCells_X5_rowOf : GoodIn wsX5_hiddenCells (wsV RX5 78 RX5 yX5_rowOf wsX5_rowOf) := goodIn_app (goodIn_of _ (by decide +kernel)) ggX5_hiddenCells_X5_rowOf
set_option maxRecDepth 100000 in
theorem ggX5_hiddenCells_X1_coverRow : GoodIn wsX5_hiddenCells wsX1_coverRow := goodIn_r _ [39, 40, 32, 33, 5, 34, 35, 41, 25, 26, 27, 7, 42, 21, 22, 23, 19, 54, 55, 56, 57, 58, 59] rfl (by decide +kernel)
set_option maxRecDepth 100000 in
theorem gX5_hiddenCells_X1_coverRow : GoodIn wsX5_hiddenCells (wsV RX5 93 RX1 yX1_coverRow wsX1_coverRow) := goodIn_app (goodIn_of _ (by decide +kernel)) ggX5_hiddenCells_X1_coverRow
set_option maxRecDepth 100000 in
theorem ggX5_hiddenCells_J6_bitCount_0f7a4 : GoodIn wsX5_hiddenCells wsJ6_bitCount_0f7a4 := goodIn_r _ [46, 47, 48, 49] rfl (by decide +kernel)
set_option maxRecDepth 100000 in
theorem gX5_hiddenCells_J6_bitCount_0f7a4 : GoodIn wsX5_hiddenCells (va_wsS RX5 64 yJ6_bitCount_0f7a4 wsJ6_bitCount_0f7a4) := goodIn_app (goodIn_of _ (by decide +kernel)) ggX5_hiddenCells_J6_bitCount_0f7a4
theorem dX5_hiddenCells_0 : decode cX5_hiddenCells 0 = .ok (.iconst 0, 1) := by decide +kernel
theorem dX5_hiddenCells_1 : decode cX5_hiddenCells 1 = .ok (.istore_n 3, 1) := by decide +kernel
theorem dX5_hiddenCells_2 : decode cX5_hiddenCells 2 = .ok (.iconst 0, 1) := by decide +kernel
theorem dX5_hiddenCells_3 : decode cX5_hiddenCells 3 = .ok (.istore 4, 2) := by decide +kernel
theorem dX5_hiddenCells_5 : decode cX5_hiddenCells 5 = .ok (.iload 4, 2) := by decide +kernel
theorem dX5_hiddenCells_7 : decode cX5_hiddenCells 7 = .ok (.aload_n 0, 1) := by decide +kernel
theorem dX5_hiddenCells_8 : decode cX5_hiddenCells 8 = .ok (.getfield 9, 3) := by decide +kernel
theorem dX5_hiddenCells_11 : decode cX5_hiddenCells 11 = .ok (.invokevirtual 75, 3) := by decide +kernel
theorem dX5_hiddenCells_14 : decode cX5_hiddenCells 14 = .ok (.if_icmp .ge 33, 3) := by decide +kernel
theorem dX5_hiddenCells_17 : decode cX5_hiddenCells 17 = .ok (.iload_n 3, 1) := by decide +kernel
theorem dX5_hiddenCells_18 : decode cX5_hiddenCells 18 = .ok (.aload_n 0, 1) := by decide +kernel
theorem dX5_hiddenCells_19 : decode cX5_hiddenCells 19 = .ok (.iload_n 1, 1) := by decide +kernel
theorem dX5_hiddenCells_20 : decode cX5_hiddenCells 20 = .ok (.iload 4, 2) := by decide +kernel
theorem dX5_hiddenCells_22 : decode cX5_hiddenCells 22 = .ok (.invokevirtual 78, 3) := by decide +kernel
theorem dX5_hiddenCells_25 : decode cX5_hiddenCells 25 = .ok (.aload_n 0, 1) := by decide +kernel
theorem dX5_hiddenCells_26 : decode cX5_hiddenCells 26 = .ok (.getfield 9, 3) := by decide +kernel
theorem dX5_hiddenCells_29 : decode cX5_hiddenCells 29 = .ok (.iload_n 2, 1) := by decide +kernel
theorem dX5_hiddenCells_30 : decode cX5_hiddenCells 30 = .ok (.iload 4, 2) := by decide +kernel
theorem dX5_hiddenCells_32 : decode cX5_hiddenCells 32 = .ok (.invokevirtual 93, 3) := by decide +kernel
theorem dX5_hiddenCells_35 : decode cX5_hiddenCells 35 = .ok (.iand, 1) := by decide +kernel
theorem dX5_hiddenCells_36 : decode cX5_hiddenCells 36 = .ok (.invokestatic 64, 3) := by decide +kernel
theorem dX5_hiddenCells_39 : decode cX5_hiddenCells 39 = .ok (.iadd, 1) := by decide +kernel
theorem dX5_hiddenCells_40 : decode cX5_hiddenCells 40 = .ok (.istore_n 3, 1) := by decide +kernel
theorem dX5_hiddenCells_41 : decode cX5_hiddenCells 41 = .ok (.iinc 4 1, 3) := by decide +kernel
theorem dX5_hiddenCells_44 : decode cX5_hiddenCells 44 = .ok (.goto (-39), 3) := by decide +kernel
theorem dX5_hiddenCells_47 : decode cX5_hiddenCells 47 = .ok (.iload_n 3, 1) := by decide +kernel
theorem dX5_hiddenCells_48 : decode cX5_hiddenCells 48 = .ok (.ireturn, 1) := by decide +kernel
set_option maxRecDepth 100000 in
theorem ggX5_rankByShare_X5_shareOf : GoodIn wsX5_rankByShare wsX5_shareOf := goodIn_r _ [6, 1, 7, 8, 9, 10, 11, 12, 13, 14, 15, 16, 17, 18, 19, 20, 31, 32, 33, 34, 35, 36, 37, 38, 39, 40] rfl (by decide +kernel)
set_option maxRecDepth 100000 in
theorem gX5_rankByShare_X5_shareOf : GoodIn wsX5_rankByShare (wsV RX5 96 RX5 yX5_shareOf wsX5_shareOf) := goodIn_app (goodIn_of _ (by decide +kernel)) ggX5_rankByShare_X5_shareOf
