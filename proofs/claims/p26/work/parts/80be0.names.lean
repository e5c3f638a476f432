set_option maxRecDepth 100000 in
theorem ggX5_rankByShare_X1_layerOf : GoodIn wsX5_rankByShare wsX1_layerOf := goodIn_r _ [24, 25, 26, 18, 19, 20, 35, 36, 37, 38, 39, 40] rfl (by decide +kernel)
set_option maxRecDepth 100000 in
theorem gX5_rankByShare_X1_layerOf : GoodIn wsX5_rankByShare (wsV RX5 99 RX1 yX1_layerOf wsX1_layerOf) := goodIn_app (goodIn_of _ (by decide +kernel)) ggX5_rankByShare_X1_layerOf
set_option maxRecDepth 100000 in
theorem ggX5_rankByShare_X1_pieces : GoodIn wsX5_rankByShare wsX1_pieces := goodIn_r _ [30, 25, 35, 36, 37, 38, 39, 40] rfl (by decide +kernel)
set_option maxRecDepth 100000 in
theorem gX5_rankByShare_X1_pieces : GoodIn wsX5_rankByShare (wsV RX5 31 RX1 yX1_pieces wsX1_pieces) := goodIn_app (goodIn_of _ (by decide +kernel)) ggX5_rankByShare_X1_pieces
theorem dX5_rankByShare_0 : decode cX5_rankByShare 0 = .ok (.aload_n 0, 1) := by decide +kernel
theorem dX5_rankByShare_1 : decode cX5_rankByShare 1 = .ok (.iload_n 1, 1) := by decide +kernel
theorem dX5_rankByShare_2 : decode cX5_rankByShare 2 = .ok (.invokevirtual 96, 3) := by decide +kernel
theorem dX5_rankByShare_5 : decode cX5_rankByShare 5 = .ok (.istore_n 2, 1) := by decide +kernel
theorem dX5_rankByShare_6 : decode cX5_rankByShare 6 = .ok (.aload_n 0, 1) := by decide +kernel
theorem dX5_rankByShare_7 : decode cX5_rankByShare 7 = .ok (.getfield 9, 3) := by decide +kernel
theorem dX5_rankByShare_10 : decode cX5_rankByShare 10 = .ok (.iload_n 1, 1) := by decide +kernel
theorem dX5_rankByShare_11 : decode cX5_rankByShare 11 = .ok (.invokevirtual 99, 3) := by decide +kernel
theorem dX5_rankByShare_14 : decode cX5_rankByShare 14 = .ok (.istore_n 3, 1) := by decide +kernel
theorem dX5_rankByShare_15 : decode cX5_rankByShare 15 = .ok (.iconst 0, 1) := by decide +kernel
theorem dX5_rankByShare_16 : decode cX5_rankByShare 16 = .ok (.istore 4, 2) := by decide +kernel
theorem dX5_rankByShare_18 : decode cX5_rankByShare 18 = .ok (.iconst 0, 1) := by decide +kernel
theorem dX5_rankByShare_19 : decode cX5_rankByShare 19 = .ok (.istore 5, 2) := by decide +kernel
theorem dX5_rankByShare_21 : decode cX5_rankByShare 21 = .ok (.iload 5, 2) := by decide +kernel
theorem dX5_rankByShare_23 : decode cX5_rankByShare 23 = .ok (.aload_n 0, 1) := by decide +kernel
theorem dX5_rankByShare_24 : decode cX5_rankByShare 24 = .ok (.getfield 9, 3) := by decide +kernel
theorem dX5_rankByShare_27 : decode cX5_rankByShare 27 = .ok (.invokevirtual 31, 3) := by decide +kernel
theorem dX5_rankByShare_30 : decode cX5_rankByShare 30 = .ok (.if_icmp .ge 45, 3) := by decide +kernel
theorem dX5_rankByShare_33 : decode cX5_rankByShare 33 = .ok (.aload_n 0, 1) := by decide +kernel
theorem dX5_rankByShare_34 : decode cX5_rankByShare 34 = .ok (.iload 5, 2) := by decide +kernel
theorem dX5_rankByShare_36 : decode cX5_rankByShare 36 = .ok (.invokevirtual 96, 3) := by decide +kernel
theorem dX5_rankByShare_39 : decode cX5_rankByShare 39 = .ok (.iload_n 2, 1) := by decide +kernel
theorem dX5_rankByShare_40 : decode cX5_rankByShare 40 = .ok (.isub, 1) := by decide +kernel
theorem dX5_rankByShare_41 : decode cX5_rankByShare 41 = .ok (.istore 6, 2) := by decide +kernel
theorem dX5_rankByShare_43 : decode cX5_rankByShare 43 = .ok (.iload 6, 2) := by decide +kernel
theorem dX5_rankByShare_45 : decode cX5_rankByShare 45 = .ok (.ifCond .lt 21, 3) := by decide +kernel
theorem dX5_rankByShare_48 : decode cX5_rankByShare 48 = .ok (.iload 6, 2) := by decide +kernel
theorem dX5_rankByShare_50 : decode cX5_rankByShare 50 = .ok (.ifCond .ne 19, 3) := by decide +kernel
theorem dX5_rankByShare_53 : decode cX5_rankByShare 53 = .ok (.aload_n 0, 1) := by decide +kernel
theorem dX5_rankByShare_54 : decode cX5_rankByShare 54 = .ok (.getfield 9, 3) := by decide +kernel
theorem dX5_rankByShare_57 : decode cX5_rankByShare 57 = .ok (.iload 5, 2) := by decide +kernel
theorem dX5_rankByShare_59 : decode cX5_rankByShare 59 = .ok (.invokevirtual 99, 3) := by decide +kernel
theorem dX5_rankByShare_62 : decode cX5_rankByShare 62 = .ok (.iload_n 3, 1) := by decide +kernel
theorem dX5_rankByShare_63 : decode cX5_rankByShare 63 = .ok (.if_icmp .ge 6, 3) := by decide +kernel
theorem dX5_rankByShare_66 : decode cX5_rankByShare 66 = .ok (.iinc 4 1, 3) := by decide +kernel
theorem dX5_rankByShare_69 : decode cX5_rankByShare 69 = .ok (.iinc 5 1, 3) := by decide +kernel
theorem dX5_rankByShare_72 : decode cX5_rankByShare 72 = .ok (.goto (-51), 3) := by decide +kernel
theorem dX5_rankByShare_75 : decode cX5_rankByShare 75 = .ok (.iload 4, 2) := by decide +kernel
theorem dX5_rankByShare_77 : decode cX5_rankByShare 77 = .ok (.ireturn, 1) := by decide +kernel
set_option maxRecDepth 100000 in
theorem ggX5_shareOf_X1_area : GoodIn wsX5_shareOf wsX1_area := goodIn_r _ [7, 8, 9, 10, 6, 11, 12, 20, 21, 22, 23, 24, 25] rfl (by decide +kernel)
set_option maxRecDepth 100000 in
theorem gX5_shareOf_X1_area : GoodIn wsX5_shareOf (wsV RX5 102 RX1 yX1_area wsX1_area) := goodIn_app (goodIn_of _ (by decide +kernel)) ggX5_shareOf_X1_area
set_option maxRecDepth 100000 in
theorem ggX5_shareOf_X7_at : GoodIn wsX5_shareOf wsX7_at := goodIn_r _ [15] rfl (by decide +kernel)
set_option maxRecDepth 100000 in
theorem gX5_shareOf_X7_at_n52 : GoodIn wsX5_shareOf (wsX7_at) := ggX5_shareOf_X7_at
theorem dX5_shareOf_0 : decode cX5_shareOf 0 = .ok (.aload_n 0, 1) := by decide +kernel
theorem dX5_shareOf_1 : decode cX5_shareOf 1 = .ok (.getfield 9, 3) := by decide +kernel
theorem dX5_shareOf_4 : decode cX5_shareOf 4 = .ok (.iload_n 1, 1) := by decide +kernel
theorem dX5_shareOf_5 : decode cX5_shareOf 5 = .ok (.invokevirtual 102, 3) := by decide +kernel
theorem dX5_shareOf_8 : decode cX5_shareOf 8 = .ok (.istore_n 2, 1) := by decide +kernel
theorem dX5_shareOf_9 : decode cX5_shareOf 9 = .ok (.iload_n 2, 1) := by decide +kernel
theorem dX5_shareOf_10 : decode cX5_shareOf 10 = .ok (.ifCond .le 19, 3) := by decide +kernel
theorem dX5_shareOf_13 : decode cX5_shareOf 13 = .ok (.aload_n 0, 1) := by decide +kernel
theorem dX5_shareOf_14 : decode cX5_shareOf 14 = .ok (.getfield 22, 3) := by decide +kernel
theorem dX5_shareOf_17 : decode cX5_shareOf 17 = .ok (.iload_n 1, 1) := by decide +kernel
theorem dX5_shareOf_18 : decode cX5_shareOf 18 = .ok (.invokestatic 52, 3) := by decide +kernel
theorem dX5_shareOf_21 : decode cX5_shareOf 21 = .ok (.bipush 100, 2) := by decide +kernel
theorem dX5_shareOf_23 : decode cX5_shareOf 23 = .ok (.imul, 1) := by decide +kernel
theorem dX5_shareOf_24 : decode cX5_shareOf 24 = .ok (.iload_n 2, 1) := by decide +kernel
theorem dX5_shareOf_25 : decode cX5_shareOf 25 = .ok (.idiv, 1) := by decide +kernel
theorem dX5_shareOf_26 : decode cX5_shareOf 26 = .ok (.goto 4, 3) := by decide +kernel
theorem dX5_shareOf_29 : decode cX5_shareOf 29 = .ok (.iconst 0, 1) := by decide +kernel
theorem dX5_shareOf_30 : decode cX5_shareOf 30 = .ok (.ireturn, 1) := by decide +kernel
theorem dX6_init_0 : decode cX6_init 0 = .ok (.aload_n 0, 1) := by decide +kernel
theorem dX6_init_1 : decode cX6_init 1 = .ok (.invokespecial 3, 3) := by decide +kernel
theorem dX6_init_4 : decode cX6_init 4 = .ok (.aload_n 0, 1) := by decide +kernel
theorem dX6_init_5 : decode cX6_init 5 = .ok (.bipush 120, 2) := by decide +kernel
theorem dX6_init_7 : decode cX6_init 7 = .ok (.newarray .int, 2) := by decide +kernel
theorem dX6_init_9 : decode cX6_init 9 = .ok (.putfield 9, 3) := by decide +kernel
theorem dX6_init_12 : decode cX6_init 12 = .ok (.aload_n 0, 1) := by decide +kernel
theorem dX6_init_13 : decode cX6_init 13 = .ok (.iconst 0, 1) := by decide +kernel
theorem dX6_init_14 : decode cX6_init 14 = .ok (.putfield 15, 3) := by decide +kernel
theorem dX6_init_17 : decode cX6_init 17 = .ok (.return_, 1) := by decide +kernel
theorem dX6_length_0 : decode cX6_length 0 = .ok (.aload_n 0, 1) := by decide +kernel
theorem dX6_length_1 : decode cX6_length 1 = .ok (.getfield 15, 3) := by decide +kernel
theorem dX6_length_4 : decode cX6_length 4 = .ok (.ireturn, 1) := by decide +kernel
theorem dX6_isFull_0 : decode cX6_isFull 0 = .ok (.aload_n 0, 1) := by decide +kernel
theorem dX6_isFull_1 : decode cX6_isFull 1 = .ok (.getfield 15, 3) := by decide +kernel
theorem dX6_isFull_4 : decode cX6_isFull 4 = .ok (.bipush 120, 2) := by decide +kernel
theorem dX6_isFull_6 : decode cX6_isFull 6 = .ok (.if_icmp .lt 7, 3) := by decide +kernel
theorem dX6_isFull_9 : decode cX6_isFull 9 = .ok (.iconst 1, 1) := by decide +kernel
theorem dX6_isFull_10 : decode cX6_isFull 10 = .ok (.goto 4, 3) := by decide +kernel
theorem dX6_isFull_13 : decode cX6_isFull 13 = .ok (.iconst 0, 1) := by decide +kernel
theorem dX6_isFull_14 : decode cX6_isFull 14 = .ok (.ireturn, 1) := by decide +kernel
set_option maxRecDepth 100000 in
theorem ggX6_add_X7_put : GoodIn wsX6_add wsX7_put := goodIn_r _ [5] rfl (by decide +kernel)
set_option maxRecDepth 100000 in
theorem gX6_add_X7_put_n19 : GoodIn wsX6_add (wsX7_put) := ggX6_add_X7_put
theorem dX6_add_0 : decode cX6_add 0 = .ok (.aload_n 0, 1) := by decide +kernel
theorem dX6_add_1 : decode cX6_add 1 = .ok (.getfield 9, 3) := by decide +kernel
theorem dX6_add_4 : decode cX6_add 4 = .ok (.aload_n 0, 1) := by decide +kernel
theorem dX6_add_5 : decode cX6_add 5 = .ok (.getfield 15, 3) := by decide +kernel
theorem dX6_add_8 : decode cX6_add 8 = .ok (.iload_n 1, 1) := by decide +kernel
theorem dX6_add_9 : decode cX6_add 9 = .ok (.invokestatic 19, 3) := by decide +kernel
theorem dX6_add_12 : decode cX6_add 12 = .ok (.aload_n 0, 1) := by decide +kernel
theorem dX6_add_13 : decode cX6_add 13 = .ok (.dup, 1) := by decide +kernel
theorem dX6_add_14 : decode cX6_add 14 = .ok (.getfield 15, 3) := by decide +kernel
theorem dX6_add_17 : decode cX6_add 17 = .ok (.iconst 1, 1) := by decide +kernel
theorem dX6_add_18 : decode cX6_add 18 = .ok (.iadd, 1) := by decide +kernel
theorem dX6_add_19 : decode cX6_add 19 = .ok (.putfield 15, 3) := by decide +kernel
theorem dX6_add_22 : decode cX6_add 22 = .ok (.return_, 1) := by decide +kernel
set_option maxRecDepth 100000 in
theorem ggX7_init_X1_init : GoodIn wsX7_init wsX1_init := goodIn_r _ [35, 36, 2, 3, 37, 38, 39, 40, 41, 42, 43, 98, 99, 100, 101, 102, 103] rfl (by decide +kernel)
set_option maxRecDepth 100000 in
theorem gX7_init_X1_init : GoodIn wsX7_init (wsX1_init) := ggX7_init_X1_init
set_option maxRecDepth 100000 in
theorem ggX7_init_X5_init : GoodIn wsX7_init wsX5_init := goodIn_r _ [46, 47, 2, 3, 48, 37, 49, 50, 51, 104, 105, 106, 107] rfl (by decide +kernel)
set_option maxRecDepth 100000 in
theorem gX7_init_X5_init : GoodIn wsX7_init (wsX5_init) := ggX7_init_X5_init
set_option maxRecDepth 100000 in
theorem ggX7_init_X6_init : GoodIn wsX7_init wsX6_init := goodIn_r _ [54, 55, 2, 3, 37, 56, 57, 108, 109] rfl (by decide +kernel)
set_option maxRecDepth 100000 in
theorem gX7_init_X6_init : GoodIn wsX7_init (wsX6_init) := ggX7_init_X6_init
set_option maxRecDepth 100000 in
theorem ggX7_init_X2_init : GoodIn wsX7_init wsX2_init := goodIn_r _ [60, 61, 2, 3, 62, 37, 63, 64, 65, 66, 118, 119, 120, 121, 122] rfl (by decide +kernel)
set_option maxRecDepth 100000 in
theorem gX7_init_X2_init : GoodIn wsX7_init (wsX2_init) := ggX7_init_X2_init
set_option maxRecDepth 100000 in
theorem ggX7_init_X3_init : GoodIn wsX7_init wsX3_init := goodIn_r _ [69, 70, 2, 3, 71, 5, 6, 72, 73, 74, 8, 9, 75, 76, 77, 78, 34, 35, 36, 37, 38, 39, 40, 41, 42, 43, 79, 45, 46, 47, 48, 49, 50, 51, 98, 99, 100, 101, 102, 103, 123, 124, 125, 126, 127, 104, 105, 106, 107] rfl (by decide +kernel)
set_option maxRecDepth 100000 in
theorem gX7_init_X3_init : GoodIn wsX7_init (wsX3_init) := ggX7_init_X3_init
set_option maxRecDepth 100000 in
theorem ggX7_init_X0_init : GoodIn wsX7_init wsX0_init := goodIn_r _ [82, 83, 2, 3, 84, 85, 5, 6, 86, 87, 88, 34, 35, 36, 37, 38, 39, 40, 41, 42, 43, 128, 129, 130, 98, 99, 100, 101, 102, 103] rfl (by decide +kernel)
set_option maxRecDepth 100000 in
theorem gX7_init_X0_init : GoodIn wsX7_init (wsX0_init) := ggX7_init_X0_init
set_option maxRecDepth 100000 in
theorem ggX7_init_X4_init : GoodIn wsX7_init wsX4_init := goodIn_r _ [91, 92, 2, 3, 93, 94, 95, 96, 97, 131, 132, 133, 134, 135] rfl (by decide +kernel)
set_option maxRecDepth 100000 in
theorem gX7_init_X4_init : GoodIn wsX7_init (wsX4_init) := ggX7_init_X4_init
theorem dX7_init_0 : decode cX7_init 0 = .ok (.aload_n 0, 1) := by decide +kernel
theorem dX7_init_1 : decode cX7_init 1 = .ok (.invokespecial 1, 3) := by decide +kernel
theorem dX7_init_4 : decode cX7_init 4 = .ok (.new 7, 3) := by decide +kernel
theorem dX7_init_7 : decode cX7_init 7 = .ok (.dup, 1) := by decide +kernel
theorem dX7_init_8 : decode cX7_init 8 = .ok (.invokespecial 9, 3) := by decide +kernel
theorem dX7_init_11 : decode cX7_init 11 = .ok (.astore_n 1, 1) := by decide +kernel
theorem dX7_init_12 : decode cX7_init 12 = .ok (.new 10, 3) := by decide +kernel
theorem dX7_init_15 : decode cX7_init 15 = .ok (.dup, 1) := by decide +kernel
theorem dX7_init_16 : decode cX7_init 16 = .ok (.aload_n 1, 1) := by decide +kernel
theorem dX7_init_17 : decode cX7_init 17 = .ok (.invokespecial 12, 3) := by decide +kernel
theorem dX7_init_20 : decode cX7_init 20 = .ok (.astore_n 2, 1) := by decide +kernel
theorem dX7_init_21 : decode cX7_init 21 = .ok (.new 15, 3) := by decide +kernel
theorem dX7_init_24 : decode cX7_init 24 = .ok (.dup, 1) := by decide +kernel
theorem dX7_init_25 : decode cX7_init 25 = .ok (.invokespecial 17, 3) := by decide +kernel
theorem dX7_init_28 : decode cX7_init 28 = .ok (.astore_n 3, 1) := by decide +kernel
theorem dX7_init_29 : decode cX7_init 29 = .ok (.aload_n 0, 1) := by decide +kernel
theorem dX7_init_30 : decode cX7_init 30 = .ok (.aload_n 1, 1) := by decide +kernel
theorem dX7_init_31 : decode cX7_init 31 = .ok (.putfield 18, 3) := by decide +kernel
theorem dX7_init_34 : decode cX7_init 34 = .ok (.aload_n 0, 1) := by decide +kernel
theorem dX7_init_35 : decode cX7_init 35 = .ok (.new 7, 3) := by decide +kernel
theorem dX7_init_38 : decode cX7_init 38 = .ok (.dup, 1) := by decide +kernel
theorem dX7_init_39 : decode cX7_init 39 = .ok (.invokespecial 9, 3) := by decide +kernel
theorem dX7_init_42 : decode cX7_init 42 = .ok (.putfield 24, 3) := by decide +kernel
theorem dX7_init_45 : decode cX7_init 45 = .ok (.aload_n 0, 1) := by decide +kernel
theorem dX7_init_46 : decode cX7_init 46 = .ok (.aload_n 2, 1) := by decide +kernel
theorem dX7_init_47 : decode cX7_init 47 = .ok (.putfield 27, 3) := by decide +kernel
theorem dX7_init_50 : decode cX7_init 50 = .ok (.aload_n 0, 1) := by decide +kernel
theorem dX7_init_51 : decode cX7_init 51 = .ok (.new 31, 3) := by decide +kernel
theorem dX7_init_54 : decode cX7_init 54 = .ok (.dup, 1) := by decide +kernel
theorem dX7_init_55 : decode cX7_init 55 = .ok (.aload_n 2, 1) := by decide +kernel
theorem dX7_init_56 : decode cX7_init 56 = .ok (.invokespecial 33, 3) := by decide +kernel
theorem dX7_init_59 : decode cX7_init 59 = .ok (.putfield 36, 3) := by decide +kernel
theorem dX7_init_62 : decode cX7_init 62 = .ok (.aload_n 0, 1) := by decide +kernel
theorem dX7_init_63 : decode cX7_init 63 = .ok (.new 40, 3) := by decide +kernel
theorem dX7_init_66 : decode cX7_init 66 = .ok (.dup, 1) := by decide +kernel
theorem dX7_init_67 : decode cX7_init 67 = .ok (.aload_n 1, 1) := by decide +kernel
theorem dX7_init_68 : decode cX7_init 68 = .ok (.invokespecial 42, 3) := by decide +kernel
theorem dX7_init_71 : decode cX7_init 71 = .ok (.putfield 43, 3) := by decide +kernel
theorem dX7_init_74 : decode cX7_init 74 = .ok (.aload_n 0, 1) := by decide +kernel
theorem dX7_init_75 : decode cX7_init 75 = .ok (.new 47, 3) := by decide +kernel
theorem dX7_init_78 : decode cX7_init 78 = .ok (.dup, 1) := by decide +kernel
theorem dX7_init_79 : decode cX7_init 79 = .ok (.invokespecial 49, 3) := by decide +kernel
theorem dX7_init_82 : decode cX7_init 82 = .ok (.putfield 50, 3) := by decide +kernel
theorem dX7_init_85 : decode cX7_init 85 = .ok (.aload_n 0, 1) := by decide +kernel
theorem dX7_init_86 : decode cX7_init 86 = .ok (.aload_n 3, 1) := by decide +kernel
theorem dX7_init_87 : decode cX7_init 87 = .ok (.putfield 54, 3) := by decide +kernel
theorem dX7_init_90 : decode cX7_init 90 = .ok (.aload_n 0, 1) := by decide +kernel
theorem dX7_init_91 : decode cX7_init 91 = .ok (.new 58, 3) := by decide +kernel
theorem dX7_init_94 : decode cX7_init 94 = .ok (.dup, 1) := by decide +kernel
theorem dX7_init_95 : decode cX7_init 95 = .ok (.aload_n 3, 1) := by decide +kernel
theorem dX7_init_96 : decode cX7_init 96 = .ok (.invokespecial 60, 3) := by decide +kernel
theorem dX7_init_99 : decode cX7_init 99 = .ok (.putfield 63, 3) := by decide +kernel
theorem dX7_init_102 : decode cX7_init 102 = .ok (.return_, 1) := by decide +kernel
set_option maxRecDepth 100000 in
theorem ggX7_setPage_X7_isWithin : GoodIn wsX7_setPage wsX7_isWithin := goodIn_r _ [7] rfl (by decide +kernel)
set_option maxRecDepth 100000 in
theorem gX7_setPage_X7_isWithin : GoodIn wsX7_setPage (va_wsS RX7 67 yX7_isWithin wsX7_isWithin) := goodIn_app (goodIn_of _ (by decide +kernel)) ggX7_setPage_X7_isWithin
set_option maxRecDepth 100000 in
theorem ggX7_setPage_X0_record : GoodIn wsX7_setPage wsX0_record := goodIn_r _ [12, 13, 14, 15, 16, 17, 11, 18, 19, 20, 21, 22, 23, 24, 25, 26, 27, 28, 29, 30, 31, 32, 33, 34, 103, 104, 105, 106, 107, 108, 109, 110, 111] rfl (by decide +kernel)
set_option maxRecDepth 100000 in
theorem gX7_setPage_X0_record : GoodIn wsX7_setPage (wsV RX7 71 RX0 yX0_record wsX0_record) := goodIn_app (goodIn_of _ (by decide +kernel)) ggX7_setPage_X0_record
set_option maxRecDepth 100000 in
theorem ggX7_setPage_X1_resize : GoodIn wsX7_setPage wsX1_resize := goodIn_r _ [38, 31, 32, 106, 107, 108, 109, 110, 111] rfl (by decide +kernel)
set_option maxRecDepth 100000 in
theorem gX7_setPage_X1_resize : GoodIn wsX7_setPage (wsV RX7 74 RX1 yX1_resize wsX1_resize) := goodIn_app (goodIn_of _ (by decide +kernel)) ggX7_setPage_X1_resize
set_option maxRecDepth 100000 in
theorem ggX7_setPage_X5_look : GoodIn wsX7_setPage wsX5_look := goodIn_r _ [43, 44, 45, 46, 47, 48, 49, 50, 51, 52, 23, 53, 33, 54, 55, 56, 57, 30, 58, 6, 59, 60, 61, 62, 42, 63, 64, 65, 66, 67, 68, 69, 25, 70, 71, 72, 73, 31, 74, 75, 76, 77, 32, 78, 79, 80, 81, 82, 83, 84, 85, 86, 112, 113, 114, 115, 106, 107, 108, 109, 110, 111] rfl (by decide +kernel)
set_option maxRecDepth 100000 in
theorem gX7_setPage_X5_look : GoodIn wsX7_setPage (wsV RX7 78 RX5 yX5_look wsX5_look) := goodIn_app (goodIn_of _ (by decide +kernel)) ggX7_setPage_X5_look
set_option maxRecDepth 100000 in
theorem ggX7_setPage_X5_contentPieces : GoodIn wsX7_setPage wsX5_contentPieces := goodIn_r _ [90, 45, 50, 51, 52, 23, 53, 33, 91, 92, 93, 42, 94, 65, 66, 67, 68, 69, 25, 58, 6, 59, 112, 113, 114, 115, 106, 107, 108, 109, 110, 111] rfl (by decide +kernel)
set_option maxRecDepth 100000 in
theorem gX7_setPage_X5_contentPieces : GoodIn wsX7_setPage (wsV RX7 81 RX5 yX5_contentPieces wsX5_contentPieces) := goodIn_app (goodIn_of _ (by decide +kernel)) ggX7_setPage_X5_contentPieces
theorem dX7_setPage_0 : decode cX7_setPage 0 = .ok (.iload_n 1, 1) := by decide +kernel
theorem dX7_setPage_1 : decode cX7_setPage 1 = .ok (.iconst 4, 1) := by decide +kernel
theorem dX7_setPage_2 : decode cX7_setPage 2 = .ok (.bipush 24, 2) := by decide +kernel
theorem dX7_setPage_4 : decode cX7_setPage 4 = .ok (.invokestatic 67, 3) := by decide +kernel
theorem dX7_setPage_7 : decode cX7_setPage 7 = .ok (.ifCond .eq 13, 3) := by decide +kernel
theorem dX7_setPage_10 : decode cX7_setPage 10 = .ok (.iload_n 2, 1) := by decide +kernel
theorem dX7_setPage_11 : decode cX7_setPage 11 = .ok (.iconst 4, 1) := by decide +kernel
theorem dX7_setPage_12 : decode cX7_setPage 12 = .ok (.bipush 24, 2) := by decide +kernel
theorem dX7_setPage_14 : decode cX7_setPage 14 = .ok (.invokestatic 67, 3) := by decide +kernel
theorem dX7_setPage_17 : decode cX7_setPage 17 = .ok (.ifCond .ne 6, 3) := by decide +kernel
theorem dX7_setPage_20 : decode cX7_setPage 20 = .ok (.bipush (-101), 2) := by decide +kernel
theorem dX7_setPage_22 : decode cX7_setPage 22 = .ok (.ireturn, 1) := by decide +kernel
theorem dX7_setPage_23 : decode cX7_setPage 23 = .ok (.aload_n 0, 1) := by decide +kernel
theorem dX7_setPage_24 : decode cX7_setPage 24 = .ok (.getfield 50, 3) := by decide +kernel
theorem dX7_setPage_27 : decode cX7_setPage 27 = .ok (.aload_n 0, 1) := by decide +kernel
theorem dX7_setPage_28 : decode cX7_setPage 28 = .ok (.getfield 18, 3) := by decide +kernel
theorem dX7_setPage_31 : decode cX7_setPage 31 = .ok (.invokevirtual 71, 3) := by decide +kernel
theorem dX7_setPage_34 : decode cX7_setPage 34 = .ok (.aload_n 0, 1) := by decide +kernel
theorem dX7_setPage_35 : decode cX7_setPage 35 = .ok (.getfield 18, 3) := by decide +kernel
theorem dX7_setPage_38 : decode cX7_setPage 38 = .ok (.iload_n 1, 1) := by decide +kernel
theorem dX7_setPage_39 : decode cX7_setPage 39 = .ok (.iload_n 2, 1) := by decide +kernel
theorem dX7_setPage_40 : decode cX7_setPage 40 = .ok (.invokevirtual 74, 3) := by decide +kernel
theorem dX7_setPage_43 : decode cX7_setPage 43 = .ok (.aload_n 0, 1) := by decide +kernel
theorem dX7_setPage_44 : decode cX7_setPage 44 = .ok (.getfield 27, 3) := by decide +kernel
theorem dX7_setPage_47 : decode cX7_setPage 47 = .ok (.invokevirtual 78, 3) := by decide +kernel
theorem dX7_setPage_50 : decode cX7_setPage 50 = .ok (.aload_n 0, 1) := by decide +kernel
theorem dX7_setPage_51 : decode cX7_setPage 51 = .ok (.getfield 27, 3) := by decide +kernel
theorem dX7_setPage_54 : decode cX7_setPage 54 = .ok (.invokevirtual 81, 3) := by decide +kernel
theorem dX7_setPage_57 : decode cX7_setPage 57 = .ok (.ireturn, 1) := by decide +kernel
set_option maxRecDepth 100000 in
theorem ggX7_addPiece_X7_fits : GoodIn wsX7_addPiece wsX7_fits := goodIn_r _ [6, 7, 8, 9, 10, 5, 11, 12, 13, 14] rfl (by decide +kernel)
set_option maxRecDepth 100000 in
theorem gX7_addPiece_X7_fits : GoodIn wsX7_addPiece (va_wsS RX7 85 yX7_fits wsX7_fits) := goodIn_app (goodIn_of _ (by decide +kernel)) ggX7_addPiece_X7_fits
set_option maxRecDepth 100000 in
theorem ggX7_addPiece_X1_isFull : GoodIn wsX7_addPiece wsX1_isFull := goodIn_r _ [19, 20, 65, 66, 67, 68, 69, 70] rfl (by decide +kernel)
set_option maxRecDepth 100000 in
theorem gX7_addPiece_X1_isFull : GoodIn wsX7_addPiece (wsV RX7 89 RX1 yX1_isFull wsX1_isFull) := goodIn_app (goodIn_of _ (by decide +kernel)) ggX7_addPiece_X1_isFull
set_option maxRecDepth 100000 in
theorem ggX7_addPiece_X0_record : GoodIn wsX7_addPiece wsX0_record := goodIn_r _ [25, 26, 27, 28, 29, 30, 24, 31, 32, 33, 34, 35, 18, 36, 37, 38, 39, 40, 41, 42, 43, 44, 20, 45, 71, 72, 73, 65, 66, 67, 68, 69, 70] rfl (by decide +kernel)
set_option maxRecDepth 100000 in
theorem gX7_addPiece_X0_record : GoodIn wsX7_addPiece (wsV RX7 71 RX0 yX0_record wsX0_record) := goodIn_app (goodIn_of _ (by decide +kernel)) ggX7_addPiece_X0_record
set_option maxRecDepth 100000 in
theorem ggX7_addPiece_X1_addBlank : GoodIn wsX7_addPiece wsX1_addBlank := goodIn_r _ [49, 20, 42, 50, 51, 52, 18, 53, 37, 54, 5, 55, 65, 66, 67, 68, 69, 70] rfl (by decide +kernel)
set_option maxRecDepth 100000 in
theorem gX7_addPiece_X1_addBlank : GoodIn wsX7_addPiece (wsV RX7 93 RX1 yX1_addBlank wsX1_addBlank) := goodIn_app (goodIn_of _ (by decide +kernel)) ggX7_addPiece_X1_addBlank
set_option maxRecDepth 100000 in
theorem ggX7_addPiece_X1_set : GoodIn wsX7_addPiece wsX1_set := goodIn_r _ [53, 37, 54, 5, 55, 65, 66, 67, 68, 69, 70] rfl (by decide +kernel)
set_option maxRecDepth 100000 in
theorem gX7_addPiece_X1_set : GoodIn wsX7_addPiece (wsV RX7 96 RX1 yX1_set wsX1_set) := goodIn_app (goodIn_of _ (by decide +kernel)) ggX7_addPiece_X1_set
theorem dX7_addPiece_0 : decode cX7_addPiece 0 = .ok (.iconst 0, 1) := by decide +kernel
theorem dX7_addPiece_1 : decode cX7_addPiece 1 = .ok (.iload_n 1, 1) := by decide +kernel
theorem dX7_addPiece_2 : decode cX7_addPiece 2 = .ok (.invokestatic 85, 3) := by decide +kernel
theorem dX7_addPiece_5 : decode cX7_addPiece 5 = .ok (.ifCond .eq 37, 3) := by decide +kernel
theorem dX7_addPiece_8 : decode cX7_addPiece 8 = .ok (.iconst 1, 1) := by decide +kernel
theorem dX7_addPiece_9 : decode cX7_addPiece 9 = .ok (.iload_n 2, 1) := by decide +kernel
theorem dX7_addPiece_10 : decode cX7_addPiece 10 = .ok (.invokestatic 85, 3) := by decide +kernel
theorem dX7_addPiece_13 : decode cX7_addPiece 13 = .ok (.ifCond .eq 29, 3) := by decide +kernel
theorem dX7_addPiece_16 : decode cX7_addPiece 16 = .ok (.iconst 2, 1) := by decide +kernel
theorem dX7_addPiece_17 : decode cX7_addPiece 17 = .ok (.iload_n 3, 1) := by decide +kernel
theorem dX7_addPiece_18 : decode cX7_addPiece 18 = .ok (.invokestatic 85, 3) := by decide +kernel
theorem dX7_addPiece_21 : decode cX7_addPiece 21 = .ok (.ifCond .eq 21, 3) := by decide +kernel
theorem dX7_addPiece_24 : decode cX7_addPiece 24 = .ok (.iconst 3, 1) := by decide +kernel
theorem dX7_addPiece_25 : decode cX7_addPiece 25 = .ok (.iload 4, 2) := by decide +kernel
theorem dX7_addPiece_27 : decode cX7_addPiece 27 = .ok (.invokestatic 85, 3) := by decide +kernel
theorem dX7_addPiece_30 : decode cX7_addPiece 30 = .ok (.ifCond .eq 12, 3) := by decide +kernel
theorem dX7_addPiece_33 : decode cX7_addPiece 33 = .ok (.iconst 4, 1) := by decide +kernel
theorem dX7_addPiece_34 : decode cX7_addPiece 34 = .ok (.iload 5, 2) := by decide +kernel
theorem dX7_addPiece_36 : decode cX7_addPiece 36 = .ok (.invokestatic 85, 3) := by decide +kernel
theorem dX7_addPiece_39 : decode cX7_addPiece 39 = .ok (.ifCond .ne 6, 3) := by decide +kernel
theorem dX7_addPiece_42 : decode cX7_addPiece 42 = .ok (.bipush (-101), 2) := by decide +kernel
theorem dX7_addPiece_44 : decode cX7_addPiece 44 = .ok (.ireturn, 1) := by decide +kernel
theorem dX7_addPiece_45 : decode cX7_addPiece 45 = .ok (.aload_n 0, 1) := by decide +kernel
theorem dX7_addPiece_46 : decode cX7_addPiece 46 = .ok (.getfield 18, 3) := by decide +kernel
theorem dX7_addPiece_49 : decode cX7_addPiece 49 = .ok (.invokevirtual 89, 3) := by decide +kernel
theorem dX7_addPiece_52 : decode cX7_addPiece 52 = .ok (.ifCond .eq 6, 3) := by decide +kernel
theorem dX7_addPiece_55 : decode cX7_addPiece 55 = .ok (.bipush (-103), 2) := by decide +kernel
theorem dX7_addPiece_57 : decode cX7_addPiece 57 = .ok (.ireturn, 1) := by decide +kernel
theorem dX7_addPiece_58 : decode cX7_addPiece 58 = .ok (.aload_n 0, 1) := by decide +kernel
theorem dX7_addPiece_59 : decode cX7_addPiece 59 = .ok (.getfield 50, 3) := by decide +kernel
theorem dX7_addPiece_62 : decode cX7_addPiece 62 = .ok (.aload_n 0, 1) := by decide +kernel
theorem dX7_addPiece_63 : decode cX7_addPiece 63 = .ok (.getfield 18, 3) := by decide +kernel
theorem dX7_addPiece_66 : decode cX7_addPiece 66 = .ok (.invokevirtual 71, 3) := by decide +kernel
theorem dX7_addPiece_69 : decode cX7_addPiece 69 = .ok (.aload_n 0, 1) := by decide +kernel
theorem dX7_addPiece_70 : decode cX7_addPiece 70 = .ok (.getfield 18, 3) := by decide +kernel
theorem dX7_addPiece_73 : decode cX7_addPiece 73 = .ok (.invokevirtual 93, 3) := by decide +kernel
theorem dX7_addPiece_76 : decode cX7_addPiece 76 = .ok (.istore 6, 2) := by decide +kernel
theorem dX7_addPiece_78 : decode cX7_addPiece 78 = .ok (.aload_n 0, 1) := by decide +kernel
theorem dX7_addPiece_79 : decode cX7_addPiece 79 = .ok (.getfield 18, 3) := by decide +kernel
theorem dX7_addPiece_82 : decode cX7_addPiece 82 = .ok (.iload 6, 2) := by decide +kernel
theorem dX7_addPiece_84 : decode cX7_addPiece 84 = .ok (.iconst 0, 1) := by decide +kernel
theorem dX7_addPiece_85 : decode cX7_addPiece 85 = .ok (.iload_n 1, 1) := by decide +kernel
theorem dX7_addPiece_86 : decode cX7_addPiece 86 = .ok (.invokevirtual 96, 3) := by decide +kernel
theorem dX7_addPiece_89 : decode cX7_addPiece 89 = .ok (.aload_n 0, 1) := by decide +kernel
theorem dX7_addPiece_90 : decode cX7_addPiece 90 = .ok (.getfield 18, 3) := by decide +kernel
theorem dX7_addPiece_93 : decode cX7_addPiece 93 = .ok (.iload 6, 2) := by decide +kernel
theorem dX7_addPiece_95 : decode cX7_addPiece 95 = .ok (.iconst 1, 1) := by decide +kernel
theorem dX7_addPiece_96 : decode cX7_addPiece 96 = .ok (.iload_n 2, 1) := by decide +kernel
theorem dX7_addPiece_97 : decode cX7_addPiece 97 = .ok (.invokevirtual 96, 3) := by decide +kernel
theorem dX7_addPiece_100 : decode cX7_addPiece 100 = .ok (.aload_n 0, 1) := by decide +kernel
theorem dX7_addPiece_101 : decode cX7_addPiece 101 = .ok (.getfield 18, 3) := by decide +kernel
theorem dX7_addPiece_104 : decode cX7_addPiece 104 = .ok (.iload 6, 2) := by decide +kernel
theorem dX7_addPiece_106 : decode cX7_addPiece 106 = .ok (.iconst 2, 1) := by decide +kernel
theorem dX7_addPiece_107 : decode cX7_addPiece 107 = .ok (.iload_n 3, 1) := by decide +kernel
theorem dX7_addPiece_108 : decode cX7_addPiece 108 = .ok (.invokevirtual 96, 3) := by decide +kernel
theorem dX7_addPiece_111 : decode cX7_addPiece 111 = .ok (.aload_n 0, 1) := by decide +kernel
theorem dX7_addPiece_112 : decode cX7_addPiece 112 = .ok (.getfield 18, 3) := by decide +kernel
theorem dX7_addPiece_115 : decode cX7_addPiece 115 = .ok (.iload 6, 2) := by decide +kernel
theorem dX7_addPiece_117 : decode cX7_addPiece 117 = .ok (.iconst 3, 1) := by decide +kernel
theorem dX7_addPiece_118 : decode cX7_addPiece 118 = .ok (.iload 4, 2) := by decide +kernel
theorem dX7_addPiece_120 : decode cX7_addPiece 120 = .ok (.invokevirtual 96, 3) := by decide +kernel
theorem dX7_addPiece_123 : decode cX7_addPiece 123 = .ok (.aload_n 0, 1) := by decide +kernel
theorem dX7_addPiece_124 : decode cX7_addPiece 124 = .ok (.getfield 18, 3) := by decide +kernel
theorem dX7_addPiece_127 : decode cX7_addPiece 127 = .ok (.iload 6, 2) := by decide +kernel
theorem dX7_addPiece_129 : decode cX7_addPiece 129 = .ok (.iconst 4, 1) := by decide +kernel
theorem dX7_addPiece_130 : decode cX7_addPiece 130 = .ok (.iload 5, 2) := by decide +kernel
theorem dX7_addPiece_132 : decode cX7_addPiece 132 = .ok (.invokevirtual 96, 3) := by decide +kernel
theorem dX7_addPiece_135 : decode cX7_addPiece 135 = .ok (.iload 6, 2) := by decide +kernel
theorem dX7_addPiece_137 : decode cX7_addPiece 137 = .ok (.ireturn, 1) := by decide +kernel
set_option maxRecDepth 100000 in
theorem ggX7_removePiece_X1_has : GoodIn wsX7_removePiece wsX1_has := goodIn_r _ [7, 8, 63, 64, 65, 66, 67, 68] rfl (by decide +kernel)
set_option maxRecDepth 100000 in
theorem gX7_removePiece_X1_has : GoodIn wsX7_removePiece (wsV RX7 100 RX1 yX1_has wsX1_has) := goodIn_app (goodIn_of _ (by decide +kernel)) ggX7_removePiece_X1_has
set_option maxRecDepth 100000 in
theorem ggX7_removePiece_X0_record : GoodIn wsX7_removePiece wsX0_record := goodIn_r _ [13, 14, 15, 16, 17, 18, 12, 19, 20, 21, 22, 23, 6, 24, 25, 26, 27, 28, 29, 30, 31, 32, 8, 33, 69, 70, 71, 63, 64, 65, 66, 67, 68] rfl (by decide +kernel)
set_option maxRecDepth 100000 in
theorem gX7_removePiece_X0_record : GoodIn wsX7_removePiece (wsV RX7 71 RX0 yX0_record wsX0_record) := goodIn_app (goodIn_of _ (by decide +kernel)) ggX7_removePiece_X0_record
set_option maxRecDepth 100000 in
theorem ggX7_removePiece_X1_remove : GoodIn wsX7_removePiece wsX1_remove := goodIn_r _ [37, 8, 30, 25, 38, 39, 40, 6, 41, 42, 43, 44, 45, 46, 47, 48, 49, 50, 63, 64, 65, 66, 67, 68] rfl (by decide +kernel)
set_option maxRecDepth 100000 in
theorem gX7_removePiece_X1_remove : GoodIn wsX7_removePiece (wsV RX7 104 RX1 yX1_remove wsX1_remove) := goodIn_app (goodIn_of _ (by decide +kernel)) ggX7_removePiece_X1_remove
set_option maxRecDepth 100000 in
theorem ggX7_removePiece_X1_pieces : GoodIn wsX7_removePiece wsX1_pieces := goodIn_r _ [54, 8, 63, 64, 65, 66, 67, 68] rfl (by decide +kernel)
set_option maxRecDepth 100000 in
theorem gX7_removePiece_X1_pieces : GoodIn wsX7_removePiece (wsV RX7 108 RX1 yX1_pieces wsX1_pieces) := goodIn_app (goodIn_of _ (by decide +kernel)) ggX7_removePiece_X1_pieces
theorem dX7_removePiece_0 : decode cX7_removePiece 0 = .ok (.aload_n 0, 1) := by decide +kernel
theorem dX7_removePiece_1 : decode cX7_removePiece 1 = .ok (.getfield 18, 3) := by decide +kernel
theorem dX7_removePiece_4 : decode cX7_removePiece 4 = .ok (.iload_n 1, 1) := by decide +kernel
theorem dX7_removePiece_5 : decode cX7_removePiece 5 = .ok (.invokevirtual 100, 3) := by decide +kernel
theorem dX7_removePiece_8 : decode cX7_removePiece 8 = .ok (.ifCond .ne 6, 3) := by decide +kernel
theorem dX7_removePiece_11 : decode cX7_removePiece 11 = .ok (.bipush (-101), 2) := by decide +kernel
theorem dX7_removePiece_13 : decode cX7_removePiece 13 = .ok (.ireturn, 1) := by decide +kernel
theorem dX7_removePiece_14 : decode cX7_removePiece 14 = .ok (.aload_n 0, 1) := by decide +kernel
theorem dX7_removePiece_15 : decode cX7_removePiece 15 = .ok (.getfield 50, 3) := by decide +kernel
theorem dX7_removePiece_18 : decode cX7_removePiece 18 = .ok (.aload_n 0, 1) := by decide +kernel
theorem dX7_removePiece_19 : decode cX7_removePiece 19 = .ok (.getfield 18, 3) := by decide +kernel
theorem dX7_removePiece_22 : decode cX7_removePiece 22 = .ok (.invokevirtual 71, 3) := by decide +kernel
theorem dX7_removePiece_25 : decode cX7_removePiece 25 = .ok (.aload_n 0, 1) := by decide +kernel
theorem dX7_removePiece_26 : decode cX7_removePiece 26 = .ok (.getfield 18, 3) := by decide +kernel
theorem dX7_removePiece_29 : decode cX7_removePiece 29 = .ok (.iload_n 1, 1) := by decide +kernel
theorem dX7_removePiece_30 : decode cX7_removePiece 30 = .ok (.invokevirtual 104, 3) := by decide +kernel
theorem dX7_removePiece_33 : decode cX7_removePiece 33 = .ok (.aload_n 0, 1) := by decide +kernel
theorem dX7_removePiece_34 : decode cX7_removePiece 34 = .ok (.getfield 18, 3) := by decide +kernel
theorem dX7_removePiece_37 : decode cX7_removePiece 37 = .ok (.invokevirtual 108, 3) := by decide +kernel
theorem dX7_removePiece_40 : decode cX7_removePiece 40 = .ok (.ireturn, 1) := by decide +kernel
set_option maxRecDepth 100000 in
theorem ggX7_setShare_X7_setProperty : GoodIn wsX7_setShare wsX7_setProperty := goodIn_r _ [5, 6, 7, 8, 9, 10, 11, 12, 13, 14, 15, 4, 16, 17, 18, 19, 20, 21, 22, 23, 24, 25, 26, 27, 28, 29, 30, 31, 32, 33, 34, 35, 36, 37, 38, 39, 40, 41, 42, 43, 44, 45, 46, 47, 48, 49, 50, 51, 52, 53, 54, 55, 56, 57, 58, 59, 60, 61, 62, 63, 64, 65, 66, 67, 68, 69, 70, 71, 72, 73, 74, 75, 76] rfl (by decide +kernel)
set_option maxRecDepth 100000 in
theorem gX7_setShare_X7_setProperty : GoodIn wsX7_setShare (wsV RX7 111 RX7 yX7_setProperty wsX7_setProperty) := goodIn_app (goodIn_of _ (by decide +kernel)) ggX7_setShare_X7_setProperty
theorem dX7_setShare_0 : decode cX7_setShare 0 = .ok (.aload_n 0, 1) := by decide +kernel
theorem dX7_setShare_1 : decode cX7_setShare 1 = .ok (.iload_n 1, 1) := by decide +kernel
theorem dX7_setShare_2 : decode cX7_setShare 2 = .ok (.iconst 4, 1) := by decide +kernel
theorem dX7_setShare_3 : decode cX7_setShare 3 = .ok (.iload_n 2, 1) := by decide +kernel
theorem dX7_setShare_4 : decode cX7_setShare 4 = .ok (.invokevirtual 111, 3) := by decide +kernel
theorem dX7_setShare_7 : decode cX7_setShare 7 = .ok (.ireturn, 1) := by decide +kernel
set_option maxRecDepth 100000 in
theorem ggX7_setFrame_X7_setProperty : GoodIn wsX7_setFrame wsX7_setProperty := goodIn_r _ [5, 6, 7, 8, 9, 10, 11, 12, 13, 14, 15, 4, 16, 17, 18, 19, 20, 21, 22, 23, 24, 25, 26, 27, 28, 29, 30, 31, 32, 33, 34, 35, 36, 37, 38, 39, 40, 41, 42, 43, 44, 45, 46, 47, 48, 49, 50, 51, 52, 53, 54, 55, 56, 57, 58, 59, 60, 61, 62, 63, 64, 65, 66, 67, 68, 69, 70, 71, 72, 73, 74, 75, 76] rfl (by decide +kernel)
set_option maxRecDepth 100000 in
theorem gX7_setFrame_X7_setProperty : GoodIn wsX7_setFrame (wsV RX7 111 RX7 yX7_setProperty wsX7_setProperty) := goodIn_app (goodIn_of _ (by decide +kernel)) ggX7_setFrame_X7_setProperty
theorem dX7_setFrame_0 : decode cX7_setFrame 0 = .ok (.aload_n 0, 1) := by decide +kernel
theorem dX7_setFrame_1 : decode cX7_setFrame 1 = .ok (.iload_n 1, 1) := by decide +kernel
theorem dX7_setFrame_2 : decode cX7_setFrame 2 = .ok (.iconst 5, 1) := by decide +kernel
theorem dX7_setFrame_3 : decode cX7_setFrame 3 = .ok (.iload_n 2, 1) := by decide +kernel
theorem dX7_setFrame_4 : decode cX7_setFrame 4 = .ok (.invokevirtual 111, 3) := by decide +kernel
theorem dX7_setFrame_7 : decode cX7_setFrame 7 = .ok (.ireturn, 1) := by decide +kernel
set_option maxRecDepth 100000 in
theorem ggX7_shift_X1_has : GoodIn wsX7_shift wsX1_has := goodIn_r _ [7, 8, 75, 76, 77, 78, 79, 80] rfl (by decide +kernel)
set_option maxRecDepth 100000 in
theorem gX7_shift_X1_has : GoodIn wsX7_shift (wsV RX7 100 RX1 yX1_has wsX1_has) := goodIn_app (goodIn_of _ (by decide +kernel)) ggX7_shift_X1_has
set_option maxRecDepth 100000 in
theorem ggX7_shift_X7_isWithin : GoodIn wsX7_shift wsX7_isWithin := goodIn_r _ [12] rfl (by decide +kernel)
set_option maxRecDepth 100000 in
theorem gX7_shift_X7_isWithin : GoodIn wsX7_shift (va_wsS RX7 67 yX7_isWithin wsX7_isWithin) := goodIn_app (goodIn_of _ (by decide +kernel)) ggX7_shift_X7_isWithin
set_option maxRecDepth 100000 in
theorem ggX7_shift_X1_canMove : GoodIn wsX7_shift wsX1_canMove := goodIn_r _ [16, 17, 18, 19, 6, 20, 21, 22, 11, 23, 24, 25, 26, 27, 28, 9, 10, 12, 75, 76, 77, 78, 79, 80] rfl (by decide +kernel)
set_option maxRecDepth 100000 in
theorem gX7_shift_X1_canMove : GoodIn wsX7_shift (wsV RX7 115 RX1 yX1_canMove wsX1_canMove) := goodIn_app (goodIn_of _ (by decide +kernel)) ggX7_shift_X1_canMove
set_option maxRecDepth 100000 in
theorem ggX7_shift_X0_record : GoodIn wsX7_shift wsX0_record := goodIn_r _ [33, 34, 35, 36, 37, 38, 32, 39, 40, 41, 42, 43, 6, 44, 21, 45, 46, 47, 48, 49, 50, 51, 8, 52, 81, 82, 83, 75, 76, 77, 78, 79, 80] rfl (by decide +kernel)
set_option maxRecDepth 100000 in
theorem gX7_shift_X0_record : GoodIn wsX7_shift (wsV RX7 71 RX0 yX0_record wsX0_record) := goodIn_app (goodIn_of _ (by decide +kernel)) ggX7_shift_X0_record
set_option maxRecDepth 100000 in
theorem ggX7_shift_X1_move : GoodIn wsX7_shift wsX1_move := goodIn_r _ [56, 57, 58, 59, 60, 52, 17, 18, 19, 6, 20, 21, 61, 62, 63, 64, 65, 11, 66, 75, 76, 77, 78, 79, 80] rfl (by decide +kernel)
set_option maxRecDepth 100000 in
theorem gX7_shift_X1_move : GoodIn wsX7_shift (wsV RX7 118 RX1 yX1_move wsX1_move) := goodIn_app (goodIn_of _ (by decide +kernel)) ggX7_shift_X1_move
theorem dX7_shift_0 : decode cX7_shift 0 = .ok (.aload_n 0, 1) := by decide +kernel
theorem dX7_shift_1 : decode cX7_shift 1 = .ok (.getfield 18, 3) := by decide +kernel
theorem dX7_shift_4 : decode cX7_shift 4 = .ok (.iload_n 1, 1) := by decide +kernel
theorem dX7_shift_5 : decode cX7_shift 5 = .ok (.invokevirtual 100, 3) := by decide +kernel
theorem dX7_shift_8 : decode cX7_shift 8 = .ok (.ifCond .eq 25, 3) := by decide +kernel
theorem dX7_shift_11 : decode cX7_shift 11 = .ok (.iload_n 2, 1) := by decide +kernel
theorem dX7_shift_12 : decode cX7_shift 12 = .ok (.bipush (-60), 2) := by decide +kernel
theorem dX7_shift_14 : decode cX7_shift 14 = .ok (.bipush 60, 2) := by decide +kernel
theorem dX7_shift_16 : decode cX7_shift 16 = .ok (.invokestatic 67, 3) := by decide +kernel
theorem dX7_shift_19 : decode cX7_shift 19 = .ok (.ifCond .eq 14, 3) := by decide +kernel
theorem dX7_shift_22 : decode cX7_shift 22 = .ok (.iload_n 3, 1) := by decide +kernel
theorem dX7_shift_23 : decode cX7_shift 23 = .ok (.bipush (-60), 2) := by decide +kernel
theorem dX7_shift_25 : decode cX7_shift 25 = .ok (.bipush 60, 2) := by decide +kernel
theorem dX7_shift_27 : decode cX7_shift 27 = .ok (.invokestatic 67, 3) := by decide +kernel
theorem dX7_shift_30 : decode cX7_shift 30 = .ok (.ifCond .ne 6, 3) := by decide +kernel
theorem dX7_shift_33 : decode cX7_shift 33 = .ok (.bipush (-101), 2) := by decide +kernel
theorem dX7_shift_35 : decode cX7_shift 35 = .ok (.ireturn, 1) := by decide +kernel
theorem dX7_shift_36 : decode cX7_shift 36 = .ok (.aload_n 0, 1) := by decide +kernel
theorem dX7_shift_37 : decode cX7_shift 37 = .ok (.getfield 18, 3) := by decide +kernel
theorem dX7_shift_40 : decode cX7_shift 40 = .ok (.iload_n 1, 1) := by decide +kernel
theorem dX7_shift_41 : decode cX7_shift 41 = .ok (.iload_n 2, 1) := by decide +kernel
theorem dX7_shift_42 : decode cX7_shift 42 = .ok (.iload_n 3, 1) := by decide +kernel
theorem dX7_shift_43 : decode cX7_shift 43 = .ok (.invokevirtual 115, 3) := by decide +kernel
theorem dX7_shift_46 : decode cX7_shift 46 = .ok (.ifCond .ne 6, 3) := by decide +kernel
theorem dX7_shift_49 : decode cX7_shift 49 = .ok (.bipush (-102), 2) := by decide +kernel
theorem dX7_shift_51 : decode cX7_shift 51 = .ok (.ireturn, 1) := by decide +kernel
theorem dX7_shift_52 : decode cX7_shift 52 = .ok (.aload_n 0, 1) := by decide +kernel
theorem dX7_shift_53 : decode cX7_shift 53 = .ok (.getfield 50, 3) := by decide +kernel
theorem dX7_shift_56 : decode cX7_shift 56 = .ok (.aload_n 0, 1) := by decide +kernel
theorem dX7_shift_57 : decode cX7_shift 57 = .ok (.getfield 18, 3) := by decide +kernel
theorem dX7_shift_60 : decode cX7_shift 60 = .ok (.invokevirtual 71, 3) := by decide +kernel
theorem dX7_shift_63 : decode cX7_shift 63 = .ok (.aload_n 0, 1) := by decide +kernel
theorem dX7_shift_64 : decode cX7_shift 64 = .ok (.getfield 18, 3) := by decide +kernel
theorem dX7_shift_67 : decode cX7_shift 67 = .ok (.iload_n 1, 1) := by decide +kernel
theorem dX7_shift_68 : decode cX7_shift 68 = .ok (.iload_n 2, 1) := by decide +kernel
theorem dX7_shift_69 : decode cX7_shift 69 = .ok (.iload_n 3, 1) := by decide +kernel
theorem dX7_shift_70 : decode cX7_shift 70 = .ok (.invokevirtual 118, 3) := by decide +kernel
theorem dX7_shift_73 : decode cX7_shift 73 = .ok (.ireturn, 1) := by decide +kernel
set_option maxRecDepth 100000 in
theorem ggX7_setLayer_X1_has : GoodIn wsX7_setLayer wsX1_has := goodIn_r _ [7, 8, 55, 56, 57, 58, 59, 60] rfl (by decide +kernel)
set_option maxRecDepth 100000 in
theorem gX7_setLayer_X1_has : GoodIn wsX7_setLayer (wsV RX7 100 RX1 yX1_has wsX1_has) := goodIn_app (goodIn_of _ (by decide +kernel)) ggX7_setLayer_X1_has
set_option maxRecDepth 100000 in
theorem ggX7_setLayer_X0_record : GoodIn wsX7_setLayer wsX0_record := goodIn_r _ [13, 14, 15, 16, 17, 18, 12, 19, 20, 21, 22, 23, 6, 24, 25, 26, 27, 28, 29, 30, 31, 32, 8, 33, 61, 62, 63, 55, 56, 57, 58, 59, 60] rfl (by decide +kernel)
set_option maxRecDepth 100000 in
theorem gX7_setLayer_X0_record : GoodIn wsX7_setLayer (wsV RX7 71 RX0 yX0_record wsX0_record) := goodIn_app (goodIn_of _ (by decide +kernel)) ggX7_setLayer_X0_record
set_option maxRecDepth 100000 in
theorem ggX7_setLayer_X1_putIntoLayer : GoodIn wsX7_setLayer wsX1_putIntoLayer := goodIn_r _ [37, 30, 38, 39, 40, 6, 41, 8, 42, 43, 44, 45, 46, 55, 56, 57, 58, 59, 60] rfl (by decide +kernel)
set_option maxRecDepth 100000 in
theorem gX7_setLayer_X1_putIntoLayer : GoodIn wsX7_setLayer (wsV RX7 121 RX1 yX1_putIntoLayer wsX1_putIntoLayer) := goodIn_app (goodIn_of _ (by decide +kernel)) ggX7_setLayer_X1_putIntoLayer
theorem dX7_setLayer_0 : decode cX7_setLayer 0 = .ok (.aload_n 0, 1) := by decide +kernel
theorem dX7_setLayer_1 : decode cX7_setLayer 1 = .ok (.getfield 18, 3) := by decide +kernel
theorem dX7_setLayer_4 : decode cX7_setLayer 4 = .ok (.iload_n 1, 1) := by decide +kernel
theorem dX7_setLayer_5 : decode cX7_setLayer 5 = .ok (.invokevirtual 100, 3) := by decide +kernel
theorem dX7_setLayer_8 : decode cX7_setLayer 8 = .ok (.ifCond .eq 14, 3) := by decide +kernel
theorem dX7_setLayer_11 : decode cX7_setLayer 11 = .ok (.aload_n 0, 1) := by decide +kernel
theorem dX7_setLayer_12 : decode cX7_setLayer 12 = .ok (.getfield 18, 3) := by decide +kernel
theorem dX7_setLayer_15 : decode cX7_setLayer 15 = .ok (.iload_n 2, 1) := by decide +kernel
theorem dX7_setLayer_16 : decode cX7_setLayer 16 = .ok (.invokevirtual 100, 3) := by decide +kernel
theorem dX7_setLayer_19 : decode cX7_setLayer 19 = .ok (.ifCond .ne 6, 3) := by decide +kernel
theorem dX7_setLayer_22 : decode cX7_setLayer 22 = .ok (.bipush (-101), 2) := by decide +kernel
theorem dX7_setLayer_24 : decode cX7_setLayer 24 = .ok (.ireturn, 1) := by decide +kernel
theorem dX7_setLayer_25 : decode cX7_setLayer 25 = .ok (.aload_n 0, 1) := by decide +kernel
theorem dX7_setLayer_26 : decode cX7_setLayer 26 = .ok (.getfield 50, 3) := by decide +kernel
theorem dX7_setLayer_29 : decode cX7_setLayer 29 = .ok (.aload_n 0, 1) := by decide +kernel
theorem dX7_setLayer_30 : decode cX7_setLayer 30 = .ok (.getfield 18, 3) := by decide +kernel
theorem dX7_setLayer_33 : decode cX7_setLayer 33 = .ok (.invokevirtual 71, 3) := by decide +kernel
theorem dX7_setLayer_36 : decode cX7_setLayer 36 = .ok (.aload_n 0, 1) := by decide +kernel
theorem dX7_setLayer_37 : decode cX7_setLayer 37 = .ok (.getfield 18, 3) := by decide +kernel
theorem dX7_setLayer_40 : decode cX7_setLayer 40 = .ok (.iload_n 1, 1) := by decide +kernel
theorem dX7_setLayer_41 : decode cX7_setLayer 41 = .ok (.iload_n 2, 1) := by decide +kernel
theorem dX7_setLayer_42 : decode cX7_setLayer 42 = .ok (.invokevirtual 121, 3) := by decide +kernel
theorem dX7_setLayer_45 : decode cX7_setLayer 45 = .ok (.ireturn, 1) := by decide +kernel
set_option maxRecDepth 100000 in
theorem ggX7_arrange_X5_look : GoodIn wsX7_arrange wsX5_look := goodIn_r _ [8, 9, 10, 11, 12, 13, 14, 15, 16, 17, 18, 19, 20, 21, 22, 23, 24, 25, 26, 27, 28, 29, 30, 31, 7, 32, 33, 34, 35, 36, 37, 38, 39, 40, 41, 42, 43, 44, 45, 46, 47, 48, 49, 50, 51, 52, 53, 54, 55, 56, 57, 58, 166, 167, 168, 169, 170, 171, 172, 173, 174, 175] rfl (by decide +kernel)
set_option maxRecDepth 100000 in
theorem gX7_arrange_X5_look : GoodIn wsX7_arrange (wsV RX7 78 RX5 yX5_look wsX5_look) := goodIn_app (goodIn_of _ (by decide +kernel)) ggX7_arrange_X5_look
set_option maxRecDepth 100000 in
theorem ggX7_arrange_X5_contentPieces : GoodIn wsX7_arrange wsX5_contentPieces := goodIn_r _ [62, 10, 15, 16, 17, 18, 19, 20, 63, 64, 65, 7, 66, 34, 35, 36, 37, 38, 39, 26, 27, 28, 166, 167, 168, 169, 170, 171, 172, 173, 174, 175] rfl (by decide +kernel)
set_option maxRecDepth 100000 in
theorem gX7_arrange_X5_contentPieces : GoodIn wsX7_arrange (wsV RX7 81 RX5 yX5_contentPieces wsX5_contentPieces) := goodIn_app (goodIn_of _ (by decide +kernel)) ggX7_arrange_X5_contentPieces
set_option maxRecDepth 100000 in
theorem ggX7_arrange_X1_pieces : GoodIn wsX7_arrange wsX1_pieces := goodIn_r _ [19, 20, 170, 171, 172, 173, 174, 175] rfl (by decide +kernel)
set_option maxRecDepth 100000 in
theorem gX7_arrange_X1_pieces : GoodIn wsX7_arrange (wsV RX7 108 RX1 yX1_pieces wsX1_pieces) := goodIn_app (goodIn_of _ (by decide +kernel)) ggX7_arrange_X1_pieces
set_option maxRecDepth 100000 in
theorem ggX7_arrange_X0_record : GoodIn wsX7_arrange wsX0_record := goodIn_r _ [72, 73, 74, 75, 76, 77, 71, 78, 79, 80, 81, 82, 18, 83, 39, 84, 85, 86, 87, 25, 44, 49, 20, 88, 176, 177, 178, 170, 171, 172, 173, 174, 175] rfl (by decide +kernel)
set_option maxRecDepth 100000 in
theorem gX7_arrange_X0_record : GoodIn wsX7_arrange (wsV RX7 71 RX0 yX0_record wsX0_record) := goodIn_app (goodIn_of _ (by decide +kernel)) ggX7_arrange_X0_record
set_option maxRecDepth 100000 in
theorem ggX7_arrange_X7_makeCheapestShift : GoodIn wsX7_arrange wsX7_makeCheapestShift := goodIn_r _ [92, 1, 2, 93, 4, 5, 6, 7, 8, 9, 10, 11, 12, 13, 14, 15, 16, 17, 18, 19, 20, 21, 22, 23, 24, 25, 26, 27, 28, 29, 30, 31, 32, 33, 34, 35, 36, 37, 38, 39, 40, 41, 42, 43, 44, 45, 46, 47, 48, 49, 50, 51, 52, 53, 54, 55, 56, 57, 58, 67, 94, 64, 65, 66, 95, 96, 97, 98, 99, 100, 101, 102, 103, 104, 105, 106, 81, 82, 83, 84, 85, 86, 87, 88, 107, 108, 109, 110, 111, 112, 113, 60, 61, 62, 63, 114, 115, 116, 117, 118, 119, 120, 121, 122, 123, 124, 125, 126, 127, 128, 129, 130, 131, 132, 133, 134, 135, 136, 137, 138, 139, 140, 141, 142, 143, 144, 145, 146, 147, 148, 149, 150, 151, 152, 153, 154, 155, 156, 157, 158, 159, 160, 161, 162, 163, 164, 165, 166, 167, 168, 169, 170, 171, 172, 173, 174, 175, 179, 180, 181, 182, 183] rfl (by decide +kernel)
set_option maxRecDepth 100000 in
theorem gX7_arrange_X7_makeCheapestShift : GoodIn wsX7_arrange (wsV RX7 125 RX7 yX7_makeCheapestShift wsX7_makeCheapestShift) := goodIn_app (goodIn_of _ (by decide +kernel)) ggX7_arrange_X7_makeCheapestShift
theorem dX7_arrange_0 : decode cX7_arrange 0 = .ok (.aload_n 0, 1) := by decide +kernel
theorem dX7_arrange_1 : decode cX7_arrange 1 = .ok (.getfield 27, 3) := by decide +kernel
theorem dX7_arrange_4 : decode cX7_arrange 4 = .ok (.invokevirtual 78, 3) := by decide +kernel
theorem dX7_arrange_7 : decode cX7_arrange 7 = .ok (.aload_n 0, 1) := by decide +kernel
theorem dX7_arrange_8 : decode cX7_arrange 8 = .ok (.getfield 27, 3) := by decide +kernel
theorem dX7_arrange_11 : decode cX7_arrange 11 = .ok (.invokevirtual 81, 3) := by decide +kernel
theorem dX7_arrange_14 : decode cX7_arrange 14 = .ok (.aload_n 0, 1) := by decide +kernel
theorem dX7_arrange_15 : decode cX7_arrange 15 = .ok (.getfield 18, 3) := by decide +kernel
theorem dX7_arrange_18 : decode cX7_arrange 18 = .ok (.invokevirtual 108, 3) := by decide +kernel
theorem dX7_arrange_21 : decode cX7_arrange 21 = .ok (.if_icmp .ne 6, 3) := by decide +kernel
theorem dX7_arrange_24 : decode cX7_arrange 24 = .ok (.bipush (-102), 2) := by decide +kernel
theorem dX7_arrange_26 : decode cX7_arrange 26 = .ok (.ireturn, 1) := by decide +kernel
theorem dX7_arrange_27 : decode cX7_arrange 27 = .ok (.aload_n 0, 1) := by decide +kernel
theorem dX7_arrange_28 : decode cX7_arrange 28 = .ok (.getfield 50, 3) := by decide +kernel
theorem dX7_arrange_31 : decode cX7_arrange 31 = .ok (.aload_n 0, 1) := by decide +kernel
theorem dX7_arrange_32 : decode cX7_arrange 32 = .ok (.getfield 18, 3) := by decide +kernel
theorem dX7_arrange_35 : decode cX7_arrange 35 = .ok (.invokevirtual 71, 3) := by decide +kernel
theorem dX7_arrange_38 : decode cX7_arrange 38 = .ok (.iconst 0, 1) := by decide +kernel
theorem dX7_arrange_39 : decode cX7_arrange 39 = .ok (.istore_n 1, 1) := by decide +kernel
theorem dX7_arrange_40 : decode cX7_arrange 40 = .ok (.iload_n 1, 1) := by decide +kernel
theorem dX7_arrange_41 : decode cX7_arrange 41 = .ok (.bipush 12, 2) := by decide +kernel
theorem dX7_arrange_43 : decode cX7_arrange 43 = .ok (.if_icmp .ge 16, 3) := by decide +kernel
theorem dX7_arrange_46 : decode cX7_arrange 46 = .ok (.aload_n 0, 1) := by decide +kernel
theorem dX7_arrange_47 : decode cX7_arrange 47 = .ok (.invokevirtual 125, 3) := by decide +kernel
theorem dX7_arrange_50 : decode cX7_arrange 50 = .ok (.ifCond .eq 9, 3) := by decide +kernel
theorem dX7_arrange_53 : decode cX7_arrange 53 = .ok (.iinc 1 1, 3) := by decide +kernel
theorem dX7_arrange_56 : decode cX7_arrange 56 = .ok (.goto (-16), 3) := by decide +kernel
theorem dX7_arrange_59 : decode cX7_arrange 59 = .ok (.iload_n 1, 1) := by decide +kernel
theorem dX7_arrange_60 : decode cX7_arrange 60 = .ok (.ireturn, 1) := by decide +kernel
set_option maxRecDepth 100000 in
theorem ggX7_append_X7_isWithin : GoodIn wsX7_append wsX7_isWithin := goodIn_r _ [5] rfl (by decide +kernel)
set_option maxRecDepth 100000 in
theorem gX7_append_X7_isWithin : GoodIn wsX7_append (va_wsS RX7 67 yX7_isWithin wsX7_isWithin) := goodIn_app (goodIn_of _ (by decide +kernel)) ggX7_append_X7_isWithin
set_option maxRecDepth 100000 in
theorem ggX7_append_X6_isFull : GoodIn wsX7_append wsX6_isFull := goodIn_r _ [10, 11, 31, 32] rfl (by decide +kernel)
set_option maxRecDepth 100000 in
theorem gX7_append_X6_isFull : GoodIn wsX7_append (wsV RX7 128 RX6 yX6_isFull wsX6_isFull) := goodIn_app (goodIn_of _ (by decide +kernel)) ggX7_append_X6_isFull
set_option maxRecDepth 100000 in
theorem ggX7_append_X6_add : GoodIn wsX7_append wsX6_add := goodIn_r _ [15, 16, 11, 17, 4, 18, 31, 32] rfl (by decide +kernel)
set_option maxRecDepth 100000 in
theorem gX7_append_X6_add : GoodIn wsX7_append (wsV RX7 129 RX6 yX6_add wsX6_add) := goodIn_app (goodIn_of _ (by decide +kernel)) ggX7_append_X6_add
set_option maxRecDepth 100000 in
theorem ggX7_append_X6_length : GoodIn wsX7_append wsX6_length := goodIn_r _ [22, 11, 31, 32] rfl (by decide +kernel)
set_option maxRecDepth 100000 in
theorem gX7_append_X6_length : GoodIn wsX7_append (wsV RX7 132 RX6 yX6_length wsX6_length) := goodIn_app (goodIn_of _ (by decide +kernel)) ggX7_append_X6_length
theorem dX7_append_0 : decode cX7_append 0 = .ok (.iload_n 1, 1) := by decide +kernel
theorem dX7_append_1 : decode cX7_append 1 = .ok (.iconst 1, 1) := by decide +kernel
theorem dX7_append_2 : decode cX7_append 2 = .ok (.sipush 255, 3) := by decide +kernel
theorem dX7_append_5 : decode cX7_append 5 = .ok (.invokestatic 67, 3) := by decide +kernel
theorem dX7_append_8 : decode cX7_append 8 = .ok (.ifCond .ne 6, 3) := by decide +kernel
theorem dX7_append_11 : decode cX7_append 11 = .ok (.bipush (-101), 2) := by decide +kernel
theorem dX7_append_13 : decode cX7_append 13 = .ok (.ireturn, 1) := by decide +kernel
theorem dX7_append_14 : decode cX7_append 14 = .ok (.aload_n 0, 1) := by decide +kernel
theorem dX7_append_15 : decode cX7_append 15 = .ok (.getfield 54, 3) := by decide +kernel
theorem dX7_append_18 : decode cX7_append 18 = .ok (.invokevirtual 128, 3) := by decide +kernel
theorem dX7_append_21 : decode cX7_append 21 = .ok (.ifCond .eq 6, 3) := by decide +kernel
theorem dX7_append_24 : decode cX7_append 24 = .ok (.bipush (-103), 2) := by decide +kernel
theorem dX7_append_26 : decode cX7_append 26 = .ok (.ireturn, 1) := by decide +kernel
theorem dX7_append_27 : decode cX7_append 27 = .ok (.aload_n 0, 1) := by decide +kernel
theorem dX7_append_28 : decode cX7_append 28 = .ok (.getfield 54, 3) := by decide +kernel
theorem dX7_append_31 : decode cX7_append 31 = .ok (.iload_n 1, 1) := by decide +kernel
theorem dX7_append_32 : decode cX7_append 32 = .ok (.invokevirtual 129, 3) := by decide +kernel
theorem dX7_append_35 : decode cX7_append 35 = .ok (.aload_n 0, 1) := by decide +kernel
theorem dX7_append_36 : decode cX7_append 36 = .ok (.getfield 54, 3) := by decide +kernel
theorem dX7_append_39 : decode cX7_append 39 = .ok (.invokevirtual 132, 3) := by decide +kernel
theorem dX7_append_42 : decode cX7_append 42 = .ok (.ireturn, 1) := by decide +kernel
set_option maxRecDepth 100000 in
theorem ggX7_undo_X0_size : GoodIn wsX7_undo wsX0_size := goodIn_r _ [7, 8, 42, 43, 44] rfl (by decide +kernel)
set_option maxRecDepth 100000 in
theorem gX7_undo_X0_size : GoodIn wsX7_undo (wsV RX7 145 RX0 yX0_size wsX0_size) := goodIn_app (goodIn_of _ (by decide +kernel)) ggX7_undo_X0_size
set_option maxRecDepth 100000 in
theorem ggX7_undo_X0_restore : GoodIn wsX7_undo wsX0_restore := goodIn_r _ [12, 8, 13, 14, 15, 6, 16, 17, 18, 19, 20, 21, 22, 23, 24, 25, 26, 27, 28, 29, 30, 31, 32, 33, 42, 43, 44, 45, 46, 47, 48, 49, 50] rfl (by decide +kernel)
set_option maxRecDepth 100000 in
theorem gX7_undo_X0_restore : GoodIn wsX7_undo (wsV RX7 148 RX0 yX0_restore wsX0_restore) := goodIn_app (goodIn_of _ (by decide +kernel)) ggX7_undo_X0_restore
theorem dX7_undo_0 : decode cX7_undo 0 = .ok (.aload_n 0, 1) := by decide +kernel
theorem dX7_undo_1 : decode cX7_undo 1 = .ok (.getfield 50, 3) := by decide +kernel
theorem dX7_undo_4 : decode cX7_undo 4 = .ok (.invokevirtual 145, 3) := by decide +kernel
theorem dX7_undo_7 : decode cX7_undo 7 = .ok (.ifCond .ne 6, 3) := by decide +kernel
theorem dX7_undo_10 : decode cX7_undo 10 = .ok (.bipush (-102), 2) := by decide +kernel
theorem dX7_undo_12 : decode cX7_undo 12 = .ok (.ireturn, 1) := by decide +kernel
theorem dX7_undo_13 : decode cX7_undo 13 = .ok (.aload_n 0, 1) := by decide +kernel
theorem dX7_undo_14 : decode cX7_undo 14 = .ok (.getfield 50, 3) := by decide +kernel
theorem dX7_undo_17 : decode cX7_undo 17 = .ok (.aload_n 0, 1) := by decide +kernel
theorem dX7_undo_18 : decode cX7_undo 18 = .ok (.getfield 18, 3) := by decide +kernel
theorem dX7_undo_21 : decode cX7_undo 21 = .ok (.invokevirtual 148, 3) := by decide +kernel
theorem dX7_undo_24 : decode cX7_undo 24 = .ok (.aload_n 0, 1) := by decide +kernel
theorem dX7_undo_25 : decode cX7_undo 25 = .ok (.getfield 50, 3) := by decide +kernel
theorem dX7_undo_28 : decode cX7_undo 28 = .ok (.invokevirtual 145, 3) := by decide +kernel
theorem dX7_undo_31 : decode cX7_undo 31 = .ok (.ireturn, 1) := by decide +kernel
set_option maxRecDepth 100000 in
theorem ggX7_count_X5_look : GoodIn wsX7_count wsX5_look := goodIn_r _ [9, 10, 11, 12, 13, 14, 15, 16, 17, 18, 19, 20, 21, 22, 23, 24, 25, 26, 27, 28, 29, 30, 31, 32, 8, 33, 34, 35, 36, 37, 38, 39, 40, 41, 42, 43, 44, 45, 46, 47, 48, 49, 50, 51, 52, 53, 54, 55, 56, 57, 58, 59, 132, 133, 134, 135, 136, 137, 138, 139, 140, 141] rfl (by decide +kernel)
set_option maxRecDepth 100000 in
theorem gX7_count_X5_look : GoodIn wsX7_count (wsV RX7 78 RX5 yX5_look wsX5_look) := goodIn_app (goodIn_of _ (by decide +kernel)) ggX7_count_X5_look
set_option maxRecDepth 100000 in
theorem ggX7_count_X1_pieces : GoodIn wsX7_count wsX1_pieces := goodIn_r _ [20, 21, 136, 137, 138, 139, 140, 141] rfl (by decide +kernel)
set_option maxRecDepth 100000 in
theorem gX7_count_X1_pieces : GoodIn wsX7_count (wsV RX7 108 RX1 yX1_pieces wsX1_pieces) := goodIn_app (goodIn_of _ (by decide +kernel)) ggX7_count_X1_pieces
set_option maxRecDepth 100000 in
theorem ggX7_count_X1_columns : GoodIn wsX7_count wsX1_columns := goodIn_r _ [64, 45, 136, 137, 138, 139, 140, 141] rfl (by decide +kernel)
set_option maxRecDepth 100000 in
theorem gX7_count_X1_columns : GoodIn wsX7_count (wsV RX7 151 RX1 yX1_columns wsX1_columns) := goodIn_app (goodIn_of _ (by decide +kernel)) ggX7_count_X1_columns
set_option maxRecDepth 100000 in
theorem ggX7_count_X1_rows : GoodIn wsX7_count wsX1_rows := goodIn_r _ [68, 50, 136, 137, 138, 139, 140, 141] rfl (by decide +kernel)
set_option maxRecDepth 100000 in
theorem gX7_count_X1_rows : GoodIn wsX7_count (wsV RX7 154 RX1 yX1_rows wsX1_rows) := goodIn_app (goodIn_of _ (by decide +kernel)) ggX7_count_X1_rows
set_option maxRecDepth 100000 in
theorem ggX7_count_X5_contentPieces : GoodIn wsX7_count wsX5_contentPieces := goodIn_r _ [72, 11, 16, 17, 18, 19, 20, 21, 73, 74, 75, 8, 76, 35, 36, 37, 38, 39, 40, 27, 28, 29, 132, 133, 134, 135, 136, 137, 138, 139, 140, 141] rfl (by decide +kernel)
set_option maxRecDepth 100000 in
theorem gX7_count_X5_contentPieces : GoodIn wsX7_count (wsV RX7 81 RX5 yX5_contentPieces wsX5_contentPieces) := goodIn_app (goodIn_of _ (by decide +kernel)) ggX7_count_X5_contentPieces
set_option maxRecDepth 100000 in
theorem ggX7_count_X5_unseenPieces : GoodIn wsX7_count wsX5_unseenPieces := goodIn_r _ [80, 11, 35, 16, 17, 18, 19, 20, 21, 27, 28, 29, 132, 133, 134, 135, 136, 137, 138, 139, 140, 141] rfl (by decide +kernel)
set_option maxRecDepth 100000 in
theorem gX7_count_X5_unseenPieces : GoodIn wsX7_count (wsV RX7 157 RX5 yX5_unseenPieces wsX5_unseenPieces) := goodIn_app (goodIn_of _ (by decide +kernel)) ggX7_count_X5_unseenPieces
set_option maxRecDepth 100000 in
theorem ggX7_count_X5_wholeFrames : GoodIn wsX7_count wsX5_wholeFrames := goodIn_r _ [84, 11, 16, 17, 18, 19, 20, 21, 36, 37, 38, 39, 40, 85, 86, 87, 8, 88, 89, 90, 91, 92, 93, 94, 95, 96, 41, 42, 43, 44, 45, 97, 98, 99, 100, 10, 34, 101, 62, 63, 64, 46, 47, 48, 49, 50, 27, 28, 29, 53, 54, 55, 56, 57, 58, 59, 132, 133, 134, 135, 136, 137, 138, 139, 140, 141] rfl (by decide +kernel)
set_option maxRecDepth 100000 in
theorem gX7_count_X5_wholeFrames : GoodIn wsX7_count (wsV RX7 160 RX5 yX5_wholeFrames wsX5_wholeFrames) := goodIn_app (goodIn_of _ (by decide +kernel)) ggX7_count_X5_wholeFrames
set_option maxRecDepth 100000 in
theorem ggX7_count_X5_pageCells : GoodIn wsX7_count wsX5_pageCells := goodIn_r _ [105, 11, 106, 66, 67, 19, 68, 50, 97, 98, 99, 8, 100, 10, 34, 101, 62, 63, 64, 45, 41, 42, 43, 44, 46, 47, 48, 49, 27, 28, 29, 36, 37, 38, 39, 40, 53, 54, 55, 56, 57, 58, 59, 132, 133, 134, 135, 136, 137, 138, 139, 140, 141] rfl (by decide +kernel)
set_option maxRecDepth 100000 in
theorem gX7_count_X5_pageCells : GoodIn wsX7_count (wsV RX7 163 RX5 yX5_pageCells wsX5_pageCells) := goodIn_app (goodIn_of _ (by decide +kernel)) ggX7_count_X5_pageCells
set_option maxRecDepth 100000 in
theorem ggX7_count_X1_cost : GoodIn wsX7_count wsX1_cost := goodIn_r _ [110, 111, 136, 137, 138, 139, 140, 141] rfl (by decide +kernel)
set_option maxRecDepth 100000 in
theorem gX7_count_X1_cost : GoodIn wsX7_count (wsV RX7 166 RX1 yX1_cost wsX1_cost) := goodIn_app (goodIn_of _ (by decide +kernel)) ggX7_count_X1_cost
set_option maxRecDepth 100000 in
theorem ggX7_count_X0_size : GoodIn wsX7_count wsX0_size := goodIn_r _ [116, 117, 142, 143, 144] rfl (by decide +kernel)
set_option maxRecDepth 100000 in
theorem gX7_count_X0_size : GoodIn wsX7_count (wsV RX7 145 RX0 yX0_size wsX0_size) := goodIn_app (goodIn_of _ (by decide +kernel)) ggX7_count_X0_size
set_option maxRecDepth 100000 in
theorem ggX7_count_X6_length : GoodIn wsX7_count wsX6_length := goodIn_r _ [122, 123, 145, 146] rfl (by decide +kernel)
set_option maxRecDepth 100000 in
theorem gX7_count_X6_length : GoodIn wsX7_count (wsV RX7 132 RX6 yX6_length wsX6_length) := goodIn_app (goodIn_of _ (by decide +kernel)) ggX7_count_X6_length
theorem dX7_count_0 : decode cX7_count 0 = .ok (.aload_n 0, 1) := by decide +kernel
theorem dX7_count_1 : decode cX7_count 1 = .ok (.getfield 27, 3) := by decide +kernel
theorem dX7_count_4 : decode cX7_count 4 = .ok (.invokevirtual 78, 3) := by decide +kernel
theorem dX7_count_7 : decode cX7_count 7 = .ok (.iload_n 1, 1) := by decide +kernel
theorem dX7_count_8 : decode cX7_count 8 = .ok (.tableswitch 136 0 9 #[56, 64, 72, 80, 88, 96, 104, 112, 120, 128], 56) := by decide +kernel
theorem dX7_count_64 : decode cX7_count 64 = .ok (.aload_n 0, 1) := by decide +kernel
theorem dX7_count_65 : decode cX7_count 65 = .ok (.getfield 18, 3) := by decide +kernel
theorem dX7_count_68 : decode cX7_count 68 = .ok (.invokevirtual 108, 3) := by decide +kernel
theorem dX7_count_71 : decode cX7_count 71 = .ok (.ireturn, 1) := by decide +kernel
theorem dX7_count_72 : decode cX7_count 72 = .ok (.aload_n 0, 1) := by decide +kernel
theorem dX7_count_73 : decode cX7_count 73 = .ok (.getfield 18, 3) := by decide +kernel
theorem dX7_count_76 : decode cX7_count 76 = .ok (.invokevirtual 151, 3) := by decide +kernel
theorem dX7_count_79 : decode cX7_count 79 = .ok (.ireturn, 1) := by decide +kernel
theorem dX7_count_80 : decode cX7_count 80 = .ok (.aload_n 0, 1) := by decide +kernel
theorem dX7_count_81 : decode cX7_count 81 = .ok (.getfield 18, 3) := by decide +kernel
theorem dX7_count_84 : decode cX7_count 84 = .ok (.invokevirtual 154, 3) := by decide +kernel
theorem dX7_count_87 : decode cX7_count 87 = .ok (.ireturn, 1) := by decide +kernel
theorem dX7_count_88 : decode cX7_count 88 = .ok (.aload_n 0, 1) := by decide +kernel
theorem dX7_count_89 : decode cX7_count 89 = .ok (.getfield 27, 3) := by decide +kernel
theorem dX7_count_92 : decode cX7_count 92 = .ok (.invokevirtual 81, 3) := by decide +kernel
theorem dX7_count_95 : decode cX7_count 95 = .ok (.ireturn, 1) := by decide +kernel
theorem dX7_count_96 : decode cX7_count 96 = .ok (.aload_n 0, 1) := by decide +kernel
theorem dX7_count_97 : decode cX7_count 97 = .ok (.getfield 27, 3) := by decide +kernel
theorem dX7_count_100 : decode cX7_count 100 = .ok (.invokevirtual 157, 3) := by decide +kernel
theorem dX7_count_103 : decode cX7_count 103 = .ok (.ireturn, 1) := by decide +kernel
theorem dX7_count_104 : decode cX7_count 104 = .ok (.aload_n 0, 1) := by decide +kernel
theorem dX7_count_105 : decode cX7_count 105 = .ok (.getfield 27, 3) := by decide +kernel
theorem dX7_count_108 : decode cX7_count 108 = .ok (.invokevirtual 160, 3) := by decide +kernel
theorem dX7_count_111 : decode cX7_count 111 = .ok (.ireturn, 1) := by decide +kernel
theorem dX7_count_112 : decode cX7_count 112 = .ok (.aload_n 0, 1) := by decide +kernel
theorem dX7_count_113 : decode cX7_count 113 = .ok (.getfield 27, 3) := by decide +kernel
theorem dX7_count_116 : decode cX7_count 116 = .ok (.invokevirtual 163, 3) := by decide +kernel
theorem dX7_count_119 : decode cX7_count 119 = .ok (.ireturn, 1) := by decide +kernel
theorem dX7_count_120 : decode cX7_count 120 = .ok (.aload_n 0, 1) := by decide +kernel
theorem dX7_count_121 : decode cX7_count 121 = .ok (.getfield 18, 3) := by decide +kernel
theorem dX7_count_124 : decode cX7_count 124 = .ok (.invokevirtual 166, 3) := by decide +kernel
theorem dX7_count_127 : decode cX7_count 127 = .ok (.ireturn, 1) := by decide +kernel
theorem dX7_count_128 : decode cX7_count 128 = .ok (.aload_n 0, 1) := by decide +kernel
theorem dX7_count_129 : decode cX7_count 129 = .ok (.getfield 50, 3) := by decide +kernel
theorem dX7_count_132 : decode cX7_count 132 = .ok (.invokevirtual 145, 3) := by decide +kernel
theorem dX7_count_135 : decode cX7_count 135 = .ok (.ireturn, 1) := by decide +kernel
theorem dX7_count_136 : decode cX7_count 136 = .ok (.aload_n 0, 1) := by decide +kernel
theorem dX7_count_137 : decode cX7_count 137 = .ok (.getfield 54, 3) := by decide +kernel
theorem dX7_count_140 : decode cX7_count 140 = .ok (.invokevirtual 132, 3) := by decide +kernel
theorem dX7_count_143 : decode cX7_count 143 = .ok (.ireturn, 1) := by decide +kernel
theorem dX7_count_144 : decode cX7_count 144 = .ok (.bipush (-101), 2) := by decide +kernel
theorem dX7_count_146 : decode cX7_count 146 = .ok (.ireturn, 1) := by decide +kernel
set_option maxRecDepth 100000 in
theorem ggX7_piece_X1_has : GoodIn wsX7_piece wsX1_has := goodIn_r _ [8, 9, 155, 156, 157, 158, 159, 160] rfl (by decide +kernel)
set_option maxRecDepth 100000 in
theorem gX7_piece_X1_has : GoodIn wsX7_piece (wsV RX7 100 RX1 yX1_has wsX1_has) := goodIn_app (goodIn_of _ (by decide +kernel)) ggX7_piece_X1_has
set_option maxRecDepth 100000 in
theorem ggX7_piece_X7_isWithin : GoodIn wsX7_piece wsX7_isWithin := goodIn_r _ [13] rfl (by decide +kernel)
set_option maxRecDepth 100000 in
theorem gX7_piece_X7_isWithin : GoodIn wsX7_piece (va_wsS RX7 67 yX7_isWithin wsX7_isWithin) := goodIn_app (goodIn_of _ (by decide +kernel)) ggX7_piece_X7_isWithin
set_option maxRecDepth 100000 in
theorem ggX7_piece_X1_get : GoodIn wsX7_piece wsX1_get := goodIn_r _ [17, 18, 155, 156, 157, 158, 159, 160] rfl (by decide +kernel)
set_option maxRecDepth 100000 in
theorem gX7_piece_X1_get : GoodIn wsX7_piece (wsV RX7 169 RX1 yX1_get wsX1_get) := goodIn_app (goodIn_of _ (by decide +kernel)) ggX7_piece_X1_get
set_option maxRecDepth 100000 in
theorem ggX7_piece_X5_look : GoodIn wsX7_piece wsX5_look := goodIn_r _ [23, 24, 25, 26, 27, 28, 29, 30, 31, 32, 7, 33, 9, 34, 35, 36, 37, 38, 39, 12, 40, 41, 42, 43, 22, 44, 45, 46, 47, 15, 16, 17, 18, 48, 49, 50, 51, 52, 53, 54, 55, 56, 57, 58, 59, 60, 61, 62, 63, 64, 65, 66, 161, 162, 163, 164, 155, 156, 157, 158, 159, 160] rfl (by decide +kernel)
set_option maxRecDepth 100000 in
theorem gX7_piece_X5_look : GoodIn wsX7_piece (wsV RX7 78 RX5 yX5_look wsX5_look) := goodIn_app (goodIn_of _ (by decide +kernel)) ggX7_piece_X5_look
set_option maxRecDepth 100000 in
theorem ggX7_piece_X1_layerOf : GoodIn wsX7_piece wsX1_layerOf := goodIn_r _ [70, 9, 38, 39, 12, 40, 155, 156, 157, 158, 159, 160] rfl (by decide +kernel)
set_option maxRecDepth 100000 in
theorem gX7_piece_X1_layerOf : GoodIn wsX7_piece (wsV RX7 172 RX1 yX1_layerOf wsX1_layerOf) := goodIn_app (goodIn_of _ (by decide +kernel)) ggX7_piece_X1_layerOf
set_option maxRecDepth 100000 in
theorem ggX7_piece_X5_cells : GoodIn wsX7_piece wsX5_cells := goodIn_r _ [74, 46, 39, 12, 40, 161, 162, 163, 164] rfl (by decide +kernel)
