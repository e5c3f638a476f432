theorem dX1_layerOf_1 : decode cX1_layerOf 1 = .ok (.istore_n 2, 1) := by decide +kernel
theorem dX1_layerOf_2 : decode cX1_layerOf 2 = .ok (.iload_n 2, 1) := by decide +kernel
theorem dX1_layerOf_3 : decode cX1_layerOf 3 = .ok (.aload_n 0, 1) := by decide +kernel
theorem dX1_layerOf_4 : decode cX1_layerOf 4 = .ok (.getfield 25, 3) := by decide +kernel
theorem dX1_layerOf_7 : decode cX1_layerOf 7 = .ok (.if_icmp .ge 23, 3) := by decide +kernel
theorem dX1_layerOf_10 : decode cX1_layerOf 10 = .ok (.aload_n 0, 1) := by decide +kernel
theorem dX1_layerOf_11 : decode cX1_layerOf 11 = .ok (.getfield 15, 3) := by decide +kernel
theorem dX1_layerOf_14 : decode cX1_layerOf 14 = .ok (.iload_n 2, 1) := by decide +kernel
theorem dX1_layerOf_15 : decode cX1_layerOf 15 = .ok (.invokestatic 45, 3) := by decide +kernel
theorem dX1_layerOf_18 : decode cX1_layerOf 18 = .ok (.iload_n 1, 1) := by decide +kernel
theorem dX1_layerOf_19 : decode cX1_layerOf 19 = .ok (.if_icmp .ne 5, 3) := by decide +kernel
theorem dX1_layerOf_22 : decode cX1_layerOf 22 = .ok (.iload_n 2, 1) := by decide +kernel
theorem dX1_layerOf_23 : decode cX1_layerOf 23 = .ok (.ireturn, 1) := by decide +kernel
theorem dX1_layerOf_24 : decode cX1_layerOf 24 = .ok (.iinc 2 1, 3) := by decide +kernel
theorem dX1_layerOf_27 : decode cX1_layerOf 27 = .ok (.goto (-25), 3) := by decide +kernel
theorem dX1_layerOf_30 : decode cX1_layerOf 30 = .ok (.bipush (-109), 2) := by decide +kernel
theorem dX1_layerOf_32 : decode cX1_layerOf 32 = .ok (.ireturn, 1) := by decide +kernel
theorem dX1_resize_0 : decode cX1_resize 0 = .ok (.aload_n 0, 1) := by decide +kernel
theorem dX1_resize_1 : decode cX1_resize 1 = .ok (.iload_n 1, 1) := by decide +kernel
theorem dX1_resize_2 : decode cX1_resize 2 = .ok (.putfield 18, 3) := by decide +kernel
theorem dX1_resize_5 : decode cX1_resize 5 = .ok (.aload_n 0, 1) := by decide +kernel
theorem dX1_resize_6 : decode cX1_resize 6 = .ok (.iload_n 2, 1) := by decide +kernel
theorem dX1_resize_7 : decode cX1_resize 7 = .ok (.putfield 22, 3) := by decide +kernel
theorem dX1_resize_10 : decode cX1_resize 10 = .ok (.return_, 1) := by decide +kernel
set_option maxRecDepth 20000 in
theorem ggX1_addBlank_X1_set : GoodIn wsX1_addBlank wsX1_set := goodIn_r _ [7, 8, 9, 10, 11, 12, 13, 14, 15, 16, 17] (by decide +kernel) (by decide +kernel)
set_option maxRecDepth 20000 in
theorem gX1_addBlank_X1_set : GoodIn wsX1_addBlank (wsV RX1 49 RX1 yX1_set wsX1_set) := goodIn_app (goodIn_of _ (by decide +kernel)) ggX1_addBlank_X1_set
set_option maxRecDepth 20000 in
theorem ggX1_addBlank_X7_put : GoodIn wsX1_addBlank wsX7_put := goodIn_r _ [11] (by decide +kernel) (by decide +kernel)
set_option maxRecDepth 20000 in
theorem gX1_addBlank_X7_put_n41 : GoodIn wsX1_addBlank (wsX7_put) := ggX1_addBlank_X7_put
theorem dX1_addBlank_0 : decode cX1_addBlank 0 = .ok (.aload_n 0, 1) := by decide +kernel
theorem dX1_addBlank_1 : decode cX1_addBlank 1 = .ok (.getfield 25, 3) := by decide +kernel
theorem dX1_addBlank_4 : decode cX1_addBlank 4 = .ok (.istore_n 1, 1) := by decide +kernel
theorem dX1_addBlank_5 : decode cX1_addBlank 5 = .ok (.iconst 0, 1) := by decide +kernel
theorem dX1_addBlank_6 : decode cX1_addBlank 6 = .ok (.istore_n 2, 1) := by decide +kernel
theorem dX1_addBlank_7 : decode cX1_addBlank 7 = .ok (.iload_n 2, 1) := by decide +kernel
theorem dX1_addBlank_8 : decode cX1_addBlank 8 = .ok (.bipush 6, 2) := by decide +kernel
theorem dX1_addBlank_10 : decode cX1_addBlank 10 = .ok (.if_icmp .ge 16, 3) := by decide +kernel
theorem dX1_addBlank_13 : decode cX1_addBlank 13 = .ok (.aload_n 0, 1) := by decide +kernel
theorem dX1_addBlank_14 : decode cX1_addBlank 14 = .ok (.iload_n 1, 1) := by decide +kernel
theorem dX1_addBlank_15 : decode cX1_addBlank 15 = .ok (.iload_n 2, 1) := by decide +kernel
theorem dX1_addBlank_16 : decode cX1_addBlank 16 = .ok (.iconst 0, 1) := by decide +kernel
theorem dX1_addBlank_17 : decode cX1_addBlank 17 = .ok (.invokevirtual 49, 3) := by decide +kernel
theorem dX1_addBlank_20 : decode cX1_addBlank 20 = .ok (.iinc 2 1, 3) := by decide +kernel
theorem dX1_addBlank_23 : decode cX1_addBlank 23 = .ok (.goto (-16), 3) := by decide +kernel
theorem dX1_addBlank_26 : decode cX1_addBlank 26 = .ok (.aload_n 0, 1) := by decide +kernel
theorem dX1_addBlank_27 : decode cX1_addBlank 27 = .ok (.getfield 15, 3) := by decide +kernel
theorem dX1_addBlank_30 : decode cX1_addBlank 30 = .ok (.iload_n 1, 1) := by decide +kernel
theorem dX1_addBlank_31 : decode cX1_addBlank 31 = .ok (.iload_n 1, 1) := by decide +kernel
theorem dX1_addBlank_32 : decode cX1_addBlank 32 = .ok (.invokestatic 41, 3) := by decide +kernel
theorem dX1_addBlank_35 : decode cX1_addBlank 35 = .ok (.aload_n 0, 1) := by decide +kernel
theorem dX1_addBlank_36 : decode cX1_addBlank 36 = .ok (.dup, 1) := by decide +kernel
theorem dX1_addBlank_37 : decode cX1_addBlank 37 = .ok (.getfield 25, 3) := by decide +kernel
theorem dX1_addBlank_40 : decode cX1_addBlank 40 = .ok (.iconst 1, 1) := by decide +kernel
theorem dX1_addBlank_41 : decode cX1_addBlank 41 = .ok (.iadd, 1) := by decide +kernel
theorem dX1_addBlank_42 : decode cX1_addBlank 42 = .ok (.putfield 25, 3) := by decide +kernel
theorem dX1_addBlank_45 : decode cX1_addBlank 45 = .ok (.iload_n 1, 1) := by decide +kernel
theorem dX1_addBlank_46 : decode cX1_addBlank 46 = .ok (.ireturn, 1) := by decide +kernel
set_option maxRecDepth 20000 in
theorem ggX1_remove_X1_putIntoLayer : GoodIn wsX1_remove wsX1_putIntoLayer := goodIn_r _ [8, 2, 9, 10, 11, 7, 12, 1, 13, 14, 15, 16, 17, 18, 19, 20, 21, 22, 23] (by decide +kernel) (by decide +kernel)
set_option maxRecDepth 20000 in
theorem gX1_remove_X1_putIntoLayer : GoodIn wsX1_remove (wsV RX1 53 RX1 yX1_putIntoLayer wsX1_putIntoLayer) := goodIn_app (goodIn_of _ (by decide +kernel)) ggX1_remove_X1_putIntoLayer
set_option maxRecDepth 20000 in
theorem ggX1_remove_X7_at : GoodIn wsX1_remove wsX7_at := goodIn_r _ [15] (by decide +kernel) (by decide +kernel)
set_option maxRecDepth 20000 in
theorem gX1_remove_X7_at_n45 : GoodIn wsX1_remove (wsX7_at) := ggX1_remove_X7_at
set_option maxRecDepth 20000 in
theorem ggX1_remove_X7_put : GoodIn wsX1_remove wsX7_put := goodIn_r _ [17] (by decide +kernel) (by decide +kernel)
set_option maxRecDepth 20000 in
theorem gX1_remove_X7_put_n41 : GoodIn wsX1_remove (wsX7_put) := ggX1_remove_X7_put
theorem dX1_remove_0 : decode cX1_remove 0 = .ok (.aload_n 0, 1) := by decide +kernel
theorem dX1_remove_1 : decode cX1_remove 1 = .ok (.iload_n 1, 1) := by decide +kernel
theorem dX1_remove_2 : decode cX1_remove 2 = .ok (.aload_n 0, 1) := by decide +kernel
theorem dX1_remove_3 : decode cX1_remove 3 = .ok (.getfield 25, 3) := by decide +kernel
theorem dX1_remove_6 : decode cX1_remove 6 = .ok (.iconst 1, 1) := by decide +kernel
theorem dX1_remove_7 : decode cX1_remove 7 = .ok (.isub, 1) := by decide +kernel
theorem dX1_remove_8 : decode cX1_remove 8 = .ok (.invokevirtual 53, 3) := by decide +kernel
theorem dX1_remove_11 : decode cX1_remove 11 = .ok (.pop, 1) := by decide +kernel
theorem dX1_remove_12 : decode cX1_remove 12 = .ok (.aload_n 0, 1) := by decide +kernel
theorem dX1_remove_13 : decode cX1_remove 13 = .ok (.dup, 1) := by decide +kernel
theorem dX1_remove_14 : decode cX1_remove 14 = .ok (.getfield 25, 3) := by decide +kernel
theorem dX1_remove_17 : decode cX1_remove 17 = .ok (.iconst 1, 1) := by decide +kernel
theorem dX1_remove_18 : decode cX1_remove 18 = .ok (.isub, 1) := by decide +kernel
theorem dX1_remove_19 : decode cX1_remove 19 = .ok (.putfield 25, 3) := by decide +kernel
theorem dX1_remove_22 : decode cX1_remove 22 = .ok (.iconst 0, 1) := by decide +kernel
theorem dX1_remove_23 : decode cX1_remove 23 = .ok (.istore_n 2, 1) := by decide +kernel
theorem dX1_remove_24 : decode cX1_remove 24 = .ok (.iload_n 2, 1) := by decide +kernel
theorem dX1_remove_25 : decode cX1_remove 25 = .ok (.aload_n 0, 1) := by decide +kernel
theorem dX1_remove_26 : decode cX1_remove 26 = .ok (.getfield 25, 3) := by decide +kernel
theorem dX1_remove_29 : decode cX1_remove 29 = .ok (.if_icmp .ge 38, 3) := by decide +kernel
theorem dX1_remove_32 : decode cX1_remove 32 = .ok (.aload_n 0, 1) := by decide +kernel
theorem dX1_remove_33 : decode cX1_remove 33 = .ok (.getfield 15, 3) := by decide +kernel
theorem dX1_remove_36 : decode cX1_remove 36 = .ok (.iload_n 2, 1) := by decide +kernel
theorem dX1_remove_37 : decode cX1_remove 37 = .ok (.invokestatic 45, 3) := by decide +kernel
theorem dX1_remove_40 : decode cX1_remove 40 = .ok (.istore_n 3, 1) := by decide +kernel
theorem dX1_remove_41 : decode cX1_remove 41 = .ok (.aload_n 0, 1) := by decide +kernel
theorem dX1_remove_42 : decode cX1_remove 42 = .ok (.getfield 15, 3) := by decide +kernel
theorem dX1_remove_45 : decode cX1_remove 45 = .ok (.iload_n 2, 1) := by decide +kernel
theorem dX1_remove_46 : decode cX1_remove 46 = .ok (.iload_n 3, 1) := by decide +kernel
theorem dX1_remove_47 : decode cX1_remove 47 = .ok (.iload_n 1, 1) := by decide +kernel
theorem dX1_remove_48 : decode cX1_remove 48 = .ok (.if_icmp .le 9, 3) := by decide +kernel
theorem dX1_remove_51 : decode cX1_remove 51 = .ok (.iload_n 3, 1) := by decide +kernel
theorem dX1_remove_52 : decode cX1_remove 52 = .ok (.iconst 1, 1) := by decide +kernel
theorem dX1_remove_53 : decode cX1_remove 53 = .ok (.isub, 1) := by decide +kernel
theorem dX1_remove_54 : decode cX1_remove 54 = .ok (.goto 4, 3) := by decide +kernel
theorem dX1_remove_57 : decode cX1_remove 57 = .ok (.iload_n 3, 1) := by decide +kernel
theorem dX1_remove_58 : decode cX1_remove 58 = .ok (.invokestatic 41, 3) := by decide +kernel
theorem dX1_remove_61 : decode cX1_remove 61 = .ok (.iinc 2 1, 3) := by decide +kernel
theorem dX1_remove_64 : decode cX1_remove 64 = .ok (.goto (-40), 3) := by decide +kernel
theorem dX1_remove_67 : decode cX1_remove 67 = .ok (.iload_n 1, 1) := by decide +kernel
theorem dX1_remove_68 : decode cX1_remove 68 = .ok (.bipush 6, 2) := by decide +kernel
theorem dX1_remove_70 : decode cX1_remove 70 = .ok (.imul, 1) := by decide +kernel
theorem dX1_remove_71 : decode cX1_remove 71 = .ok (.istore_n 2, 1) := by decide +kernel
theorem dX1_remove_72 : decode cX1_remove 72 = .ok (.iload_n 2, 1) := by decide +kernel
theorem dX1_remove_73 : decode cX1_remove 73 = .ok (.aload_n 0, 1) := by decide +kernel
theorem dX1_remove_74 : decode cX1_remove 74 = .ok (.getfield 25, 3) := by decide +kernel
theorem dX1_remove_77 : decode cX1_remove 77 = .ok (.bipush 6, 2) := by decide +kernel
theorem dX1_remove_79 : decode cX1_remove 79 = .ok (.imul, 1) := by decide +kernel
theorem dX1_remove_80 : decode cX1_remove 80 = .ok (.if_icmp .ge 28, 3) := by decide +kernel
theorem dX1_remove_83 : decode cX1_remove 83 = .ok (.aload_n 0, 1) := by decide +kernel
theorem dX1_remove_84 : decode cX1_remove 84 = .ok (.getfield 9, 3) := by decide +kernel
theorem dX1_remove_87 : decode cX1_remove 87 = .ok (.iload_n 2, 1) := by decide +kernel
theorem dX1_remove_88 : decode cX1_remove 88 = .ok (.aload_n 0, 1) := by decide +kernel
theorem dX1_remove_89 : decode cX1_remove 89 = .ok (.getfield 9, 3) := by decide +kernel
theorem dX1_remove_92 : decode cX1_remove 92 = .ok (.iload_n 2, 1) := by decide +kernel
theorem dX1_remove_93 : decode cX1_remove 93 = .ok (.bipush 6, 2) := by decide +kernel
theorem dX1_remove_95 : decode cX1_remove 95 = .ok (.iadd, 1) := by decide +kernel
theorem dX1_remove_96 : decode cX1_remove 96 = .ok (.invokestatic 45, 3) := by decide +kernel
theorem dX1_remove_99 : decode cX1_remove 99 = .ok (.invokestatic 41, 3) := by decide +kernel
theorem dX1_remove_102 : decode cX1_remove 102 = .ok (.iinc 2 1, 3) := by decide +kernel
theorem dX1_remove_105 : decode cX1_remove 105 = .ok (.goto (-33), 3) := by decide +kernel
theorem dX1_remove_108 : decode cX1_remove 108 = .ok (.return_, 1) := by decide +kernel
set_option maxRecDepth 20000 in
theorem ggX1_putIntoLayer_X1_layerOf : GoodIn wsX1_putIntoLayer wsX1_layerOf := goodIn_r _ [6, 7, 1, 8, 9, 10, 13, 14, 15, 16, 17, 18] (by decide +kernel) (by decide +kernel)
set_option maxRecDepth 20000 in
theorem gX1_putIntoLayer_X1_layerOf : GoodIn wsX1_putIntoLayer (wsV RX1 57 RX1 yX1_layerOf wsX1_layerOf) := goodIn_app (goodIn_of _ (by decide +kernel)) ggX1_putIntoLayer_X1_layerOf
set_option maxRecDepth 20000 in
theorem ggX1_putIntoLayer_X7_at : GoodIn wsX1_putIntoLayer wsX7_at := goodIn_r _ [10] (by decide +kernel) (by decide +kernel)
set_option maxRecDepth 20000 in
theorem gX1_putIntoLayer_X7_at_n45 : GoodIn wsX1_putIntoLayer (wsX7_at) := ggX1_putIntoLayer_X7_at
set_option maxRecDepth 20000 in
theorem ggX1_putIntoLayer_X7_put : GoodIn wsX1_putIntoLayer wsX7_put := goodIn_r _ [12] (by decide +kernel) (by decide +kernel)
set_option maxRecDepth 20000 in
theorem gX1_putIntoLayer_X7_put_n41 : GoodIn wsX1_putIntoLayer (wsX7_put) := ggX1_putIntoLayer_X7_put
theorem dX1_putIntoLayer_0 : decode cX1_putIntoLayer 0 = .ok (.aload_n 0, 1) := by decide +kernel
theorem dX1_putIntoLayer_1 : decode cX1_putIntoLayer 1 = .ok (.iload_n 1, 1) := by decide +kernel
theorem dX1_putIntoLayer_2 : decode cX1_putIntoLayer 2 = .ok (.invokevirtual 57, 3) := by decide +kernel
theorem dX1_putIntoLayer_5 : decode cX1_putIntoLayer 5 = .ok (.istore_n 3, 1) := by decide +kernel
theorem dX1_putIntoLayer_6 : decode cX1_putIntoLayer 6 = .ok (.iload_n 3, 1) := by decide +kernel
theorem dX1_putIntoLayer_7 : decode cX1_putIntoLayer 7 = .ok (.istore 4, 2) := by decide +kernel
theorem dX1_putIntoLayer_9 : decode cX1_putIntoLayer 9 = .ok (.iload 4, 2) := by decide +kernel
theorem dX1_putIntoLayer_11 : decode cX1_putIntoLayer 11 = .ok (.iload_n 2, 1) := by decide +kernel
theorem dX1_putIntoLayer_12 : decode cX1_putIntoLayer 12 = .ok (.if_icmp .ge 29, 3) := by decide +kernel
theorem dX1_putIntoLayer_15 : decode cX1_putIntoLayer 15 = .ok (.aload_n 0, 1) := by decide +kernel
theorem dX1_putIntoLayer_16 : decode cX1_putIntoLayer 16 = .ok (.getfield 15, 3) := by decide +kernel
theorem dX1_putIntoLayer_19 : decode cX1_putIntoLayer 19 = .ok (.iload 4, 2) := by decide +kernel
theorem dX1_putIntoLayer_21 : decode cX1_putIntoLayer 21 = .ok (.aload_n 0, 1) := by decide +kernel
theorem dX1_putIntoLayer_22 : decode cX1_putIntoLayer 22 = .ok (.getfield 15, 3) := by decide +kernel
theorem dX1_putIntoLayer_25 : decode cX1_putIntoLayer 25 = .ok (.iload 4, 2) := by decide +kernel
theorem dX1_putIntoLayer_27 : decode cX1_putIntoLayer 27 = .ok (.iconst 1, 1) := by decide +kernel
theorem dX1_putIntoLayer_28 : decode cX1_putIntoLayer 28 = .ok (.iadd, 1) := by decide +kernel
theorem dX1_putIntoLayer_29 : decode cX1_putIntoLayer 29 = .ok (.invokestatic 45, 3) := by decide +kernel
theorem dX1_putIntoLayer_32 : decode cX1_putIntoLayer 32 = .ok (.invokestatic 41, 3) := by decide +kernel
theorem dX1_putIntoLayer_35 : decode cX1_putIntoLayer 35 = .ok (.iinc 4 1, 3) := by decide +kernel
theorem dX1_putIntoLayer_38 : decode cX1_putIntoLayer 38 = .ok (.goto (-29), 3) := by decide +kernel
theorem dX1_putIntoLayer_41 : decode cX1_putIntoLayer 41 = .ok (.iload_n 3, 1) := by decide +kernel
theorem dX1_putIntoLayer_42 : decode cX1_putIntoLayer 42 = .ok (.istore 4, 2) := by decide +kernel
theorem dX1_putIntoLayer_44 : decode cX1_putIntoLayer 44 = .ok (.iload 4, 2) := by decide +kernel
theorem dX1_putIntoLayer_46 : decode cX1_putIntoLayer 46 = .ok (.iload_n 2, 1) := by decide +kernel
theorem dX1_putIntoLayer_47 : decode cX1_putIntoLayer 47 = .ok (.if_icmp .le 29, 3) := by decide +kernel
theorem dX1_putIntoLayer_50 : decode cX1_putIntoLayer 50 = .ok (.aload_n 0, 1) := by decide +kernel
theorem dX1_putIntoLayer_51 : decode cX1_putIntoLayer 51 = .ok (.getfield 15, 3) := by decide +kernel
theorem dX1_putIntoLayer_54 : decode cX1_putIntoLayer 54 = .ok (.iload 4, 2) := by decide +kernel
theorem dX1_putIntoLayer_56 : decode cX1_putIntoLayer 56 = .ok (.aload_n 0, 1) := by decide +kernel
theorem dX1_putIntoLayer_57 : decode cX1_putIntoLayer 57 = .ok (.getfield 15, 3) := by decide +kernel
theorem dX1_putIntoLayer_60 : decode cX1_putIntoLayer 60 = .ok (.iload 4, 2) := by decide +kernel
theorem dX1_putIntoLayer_62 : decode cX1_putIntoLayer 62 = .ok (.iconst 1, 1) := by decide +kernel
theorem dX1_putIntoLayer_63 : decode cX1_putIntoLayer 63 = .ok (.isub, 1) := by decide +kernel
theorem dX1_putIntoLayer_64 : decode cX1_putIntoLayer 64 = .ok (.invokestatic 45, 3) := by decide +kernel
theorem dX1_putIntoLayer_67 : decode cX1_putIntoLayer 67 = .ok (.invokestatic 41, 3) := by decide +kernel
theorem dX1_putIntoLayer_70 : decode cX1_putIntoLayer 70 = .ok (.iinc 4 (-1), 3) := by decide +kernel
theorem dX1_putIntoLayer_73 : decode cX1_putIntoLayer 73 = .ok (.goto (-29), 3) := by decide +kernel
theorem dX1_putIntoLayer_76 : decode cX1_putIntoLayer 76 = .ok (.aload_n 0, 1) := by decide +kernel
theorem dX1_putIntoLayer_77 : decode cX1_putIntoLayer 77 = .ok (.getfield 15, 3) := by decide +kernel
theorem dX1_putIntoLayer_80 : decode cX1_putIntoLayer 80 = .ok (.iload_n 2, 1) := by decide +kernel
theorem dX1_putIntoLayer_81 : decode cX1_putIntoLayer 81 = .ok (.iload_n 1, 1) := by decide +kernel
theorem dX1_putIntoLayer_82 : decode cX1_putIntoLayer 82 = .ok (.invokestatic 41, 3) := by decide +kernel
theorem dX1_putIntoLayer_85 : decode cX1_putIntoLayer 85 = .ok (.iload_n 3, 1) := by decide +kernel
theorem dX1_putIntoLayer_86 : decode cX1_putIntoLayer 86 = .ok (.ireturn, 1) := by decide +kernel
set_option maxRecDepth 20000 in
theorem ggX1_canMove_X1_get : GoodIn wsX1_canMove wsX1_get := goodIn_r _ [5, 6, 18, 19, 20, 21, 22, 23] (by decide +kernel) (by decide +kernel)
set_option maxRecDepth 20000 in
theorem gX1_canMove_X1_get : GoodIn wsX1_canMove (wsV RX1 61 RX1 yX1_get wsX1_get) := goodIn_app (goodIn_of _ (by decide +kernel)) ggX1_canMove_X1_get
set_option maxRecDepth 20000 in
theorem ggX1_canMove_X7_fits : GoodIn wsX1_canMove wsX7_fits := goodIn_r _ [9, 10, 11, 12, 13, 8, 14, 15, 16, 17] (by decide +kernel) (by decide +kernel)
set_option maxRecDepth 20000 in
theorem gX1_canMove_X7_fits_n64 : GoodIn wsX1_canMove (wsX7_fits) := ggX1_canMove_X7_fits
theorem dX1_canMove_0 : decode cX1_canMove 0 = .ok (.iconst 0, 1) := by decide +kernel
theorem dX1_canMove_1 : decode cX1_canMove 1 = .ok (.aload_n 0, 1) := by decide +kernel
theorem dX1_canMove_2 : decode cX1_canMove 2 = .ok (.iload_n 1, 1) := by decide +kernel
theorem dX1_canMove_3 : decode cX1_canMove 3 = .ok (.iconst 0, 1) := by decide +kernel
theorem dX1_canMove_4 : decode cX1_canMove 4 = .ok (.invokevirtual 61, 3) := by decide +kernel
theorem dX1_canMove_7 : decode cX1_canMove 7 = .ok (.iload_n 2, 1) := by decide +kernel
theorem dX1_canMove_8 : decode cX1_canMove 8 = .ok (.iadd, 1) := by decide +kernel
theorem dX1_canMove_9 : decode cX1_canMove 9 = .ok (.invokestatic 64, 3) := by decide +kernel
theorem dX1_canMove_12 : decode cX1_canMove 12 = .ok (.ifCond .eq 22, 3) := by decide +kernel
theorem dX1_canMove_15 : decode cX1_canMove 15 = .ok (.iconst 1, 1) := by decide +kernel
theorem dX1_canMove_16 : decode cX1_canMove 16 = .ok (.aload_n 0, 1) := by decide +kernel
theorem dX1_canMove_17 : decode cX1_canMove 17 = .ok (.iload_n 1, 1) := by decide +kernel
theorem dX1_canMove_18 : decode cX1_canMove 18 = .ok (.iconst 1, 1) := by decide +kernel
theorem dX1_canMove_19 : decode cX1_canMove 19 = .ok (.invokevirtual 61, 3) := by decide +kernel
theorem dX1_canMove_22 : decode cX1_canMove 22 = .ok (.iload_n 3, 1) := by decide +kernel
theorem dX1_canMove_23 : decode cX1_canMove 23 = .ok (.iadd, 1) := by decide +kernel
theorem dX1_canMove_24 : decode cX1_canMove 24 = .ok (.invokestatic 64, 3) := by decide +kernel
theorem dX1_canMove_27 : decode cX1_canMove 27 = .ok (.ifCond .eq 7, 3) := by decide +kernel
theorem dX1_canMove_30 : decode cX1_canMove 30 = .ok (.iconst 1, 1) := by decide +kernel
theorem dX1_canMove_31 : decode cX1_canMove 31 = .ok (.goto 4, 3) := by decide +kernel
theorem dX1_canMove_34 : decode cX1_canMove 34 = .ok (.iconst 0, 1) := by decide +kernel
theorem dX1_canMove_35 : decode cX1_canMove 35 = .ok (.ireturn, 1) := by decide +kernel
set_option maxRecDepth 20000 in
theorem ggX1_move_X1_get : GoodIn wsX1_move wsX1_get := goodIn_r _ [10, 11, 19, 20, 21, 22, 23, 24] (by decide +kernel) (by decide +kernel)
set_option maxRecDepth 20000 in
theorem gX1_move_X1_get : GoodIn wsX1_move (wsV RX1 61 RX1 yX1_get wsX1_get) := goodIn_app (goodIn_of _ (by decide +kernel)) ggX1_move_X1_get
set_option maxRecDepth 20000 in
theorem ggX1_move_X1_set : GoodIn wsX1_move wsX1_set := goodIn_r _ [15, 11, 16, 17, 18, 19, 20, 21, 22, 23, 24] (by decide +kernel) (by decide +kernel)
set_option maxRecDepth 20000 in
theorem gX1_move_X1_set : GoodIn wsX1_move (wsV RX1 49 RX1 yX1_set wsX1_set) := goodIn_app (goodIn_of _ (by decide +kernel)) ggX1_move_X1_set
theorem dX1_move_0 : decode cX1_move 0 = .ok (.iload_n 2, 1) := by decide +kernel
theorem dX1_move_1 : decode cX1_move 1 = .ok (.invokestatic 68, 3) := by decide +kernel
theorem dX1_move_4 : decode cX1_move 4 = .ok (.iload_n 3, 1) := by decide +kernel
theorem dX1_move_5 : decode cX1_move 5 = .ok (.invokestatic 68, 3) := by decide +kernel
theorem dX1_move_8 : decode cX1_move 8 = .ok (.iadd, 1) := by decide +kernel
theorem dX1_move_9 : decode cX1_move 9 = .ok (.istore 4, 2) := by decide +kernel
theorem dX1_move_11 : decode cX1_move 11 = .ok (.aload_n 0, 1) := by decide +kernel
theorem dX1_move_12 : decode cX1_move 12 = .ok (.iload_n 1, 1) := by decide +kernel
theorem dX1_move_13 : decode cX1_move 13 = .ok (.iconst 0, 1) := by decide +kernel
theorem dX1_move_14 : decode cX1_move 14 = .ok (.aload_n 0, 1) := by decide +kernel
theorem dX1_move_15 : decode cX1_move 15 = .ok (.iload_n 1, 1) := by decide +kernel
theorem dX1_move_16 : decode cX1_move 16 = .ok (.iconst 0, 1) := by decide +kernel
theorem dX1_move_17 : decode cX1_move 17 = .ok (.invokevirtual 61, 3) := by decide +kernel
theorem dX1_move_20 : decode cX1_move 20 = .ok (.iload_n 2, 1) := by decide +kernel
theorem dX1_move_21 : decode cX1_move 21 = .ok (.iadd, 1) := by decide +kernel
theorem dX1_move_22 : decode cX1_move 22 = .ok (.invokevirtual 49, 3) := by decide +kernel
theorem dX1_move_25 : decode cX1_move 25 = .ok (.aload_n 0, 1) := by decide +kernel
theorem dX1_move_26 : decode cX1_move 26 = .ok (.iload_n 1, 1) := by decide +kernel
theorem dX1_move_27 : decode cX1_move 27 = .ok (.iconst 1, 1) := by decide +kernel
theorem dX1_move_28 : decode cX1_move 28 = .ok (.aload_n 0, 1) := by decide +kernel
theorem dX1_move_29 : decode cX1_move 29 = .ok (.iload_n 1, 1) := by decide +kernel
theorem dX1_move_30 : decode cX1_move 30 = .ok (.iconst 1, 1) := by decide +kernel
theorem dX1_move_31 : decode cX1_move 31 = .ok (.invokevirtual 61, 3) := by decide +kernel
theorem dX1_move_34 : decode cX1_move 34 = .ok (.iload_n 3, 1) := by decide +kernel
theorem dX1_move_35 : decode cX1_move 35 = .ok (.iadd, 1) := by decide +kernel
theorem dX1_move_36 : decode cX1_move 36 = .ok (.invokevirtual 49, 3) := by decide +kernel
theorem dX1_move_39 : decode cX1_move 39 = .ok (.aload_n 0, 1) := by decide +kernel
theorem dX1_move_40 : decode cX1_move 40 = .ok (.dup, 1) := by decide +kernel
theorem dX1_move_41 : decode cX1_move 41 = .ok (.getfield 28, 3) := by decide +kernel
theorem dX1_move_44 : decode cX1_move 44 = .ok (.iload 4, 2) := by decide +kernel
theorem dX1_move_46 : decode cX1_move 46 = .ok (.iadd, 1) := by decide +kernel
theorem dX1_move_47 : decode cX1_move 47 = .ok (.putfield 28, 3) := by decide +kernel
theorem dX1_move_50 : decode cX1_move 50 = .ok (.iload 4, 2) := by decide +kernel
theorem dX1_move_52 : decode cX1_move 52 = .ok (.ireturn, 1) := by decide +kernel
theorem dX1_span_0 : decode cX1_span 0 = .ok (.iload_n 1, 1) := by decide +kernel
theorem dX1_span_1 : decode cX1_span 1 = .ok (.ifCond .le 7, 3) := by decide +kernel
theorem dX1_span_4 : decode cX1_span 4 = .ok (.iload_n 1, 1) := by decide +kernel
theorem dX1_span_5 : decode cX1_span 5 = .ok (.goto 4, 3) := by decide +kernel
theorem dX1_span_8 : decode cX1_span 8 = .ok (.iconst 0, 1) := by decide +kernel
theorem dX1_span_9 : decode cX1_span 9 = .ok (.istore_n 3, 1) := by decide +kernel
theorem dX1_span_10 : decode cX1_span 10 = .ok (.iload_n 1, 1) := by decide +kernel
theorem dX1_span_11 : decode cX1_span 11 = .ok (.iload_n 2, 1) := by decide +kernel
theorem dX1_span_12 : decode cX1_span 12 = .ok (.iadd, 1) := by decide +kernel
theorem dX1_span_13 : decode cX1_span 13 = .ok (.aload_n 0, 1) := by decide +kernel
theorem dX1_span_14 : decode cX1_span 14 = .ok (.getfield 18, 3) := by decide +kernel
theorem dX1_span_17 : decode cX1_span 17 = .ok (.if_icmp .ge 9, 3) := by decide +kernel
theorem dX1_span_20 : decode cX1_span 20 = .ok (.iload_n 1, 1) := by decide +kernel
theorem dX1_span_21 : decode cX1_span 21 = .ok (.iload_n 2, 1) := by decide +kernel
theorem dX1_span_22 : decode cX1_span 22 = .ok (.iadd, 1) := by decide +kernel
theorem dX1_span_23 : decode cX1_span 23 = .ok (.goto 7, 3) := by decide +kernel
theorem dX1_span_26 : decode cX1_span 26 = .ok (.aload_n 0, 1) := by decide +kernel
theorem dX1_span_27 : decode cX1_span 27 = .ok (.getfield 18, 3) := by decide +kernel
theorem dX1_span_30 : decode cX1_span 30 = .ok (.istore 4, 2) := by decide +kernel
theorem dX1_span_32 : decode cX1_span 32 = .ok (.iload_n 3, 1) := by decide +kernel
theorem dX1_span_33 : decode cX1_span 33 = .ok (.iload 4, 2) := by decide +kernel
theorem dX1_span_35 : decode cX1_span 35 = .ok (.if_icmp .ge 14, 3) := by decide +kernel
theorem dX1_span_38 : decode cX1_span 38 = .ok (.iconst 1, 1) := by decide +kernel
theorem dX1_span_39 : decode cX1_span 39 = .ok (.iload 4, 2) := by decide +kernel
theorem dX1_span_41 : decode cX1_span 41 = .ok (.ishl, 1) := by decide +kernel
theorem dX1_span_42 : decode cX1_span 42 = .ok (.iconst 1, 1) := by decide +kernel
theorem dX1_span_43 : decode cX1_span 43 = .ok (.iload_n 3, 1) := by decide +kernel
theorem dX1_span_44 : decode cX1_span 44 = .ok (.ishl, 1) := by decide +kernel
theorem dX1_span_45 : decode cX1_span 45 = .ok (.isub, 1) := by decide +kernel
theorem dX1_span_46 : decode cX1_span 46 = .ok (.goto 4, 3) := by decide +kernel
theorem dX1_span_49 : decode cX1_span 49 = .ok (.iconst 0, 1) := by decide +kernel
theorem dX1_span_50 : decode cX1_span 50 = .ok (.ireturn, 1) := by decide +kernel
set_option maxRecDepth 20000 in
theorem ggX1_coverRow_X1_get : GoodIn wsX1_coverRow wsX1_get := goodIn_r _ [5, 6, 17, 18, 19, 20, 21, 22] (by decide +kernel) (by decide +kernel)
set_option maxRecDepth 20000 in
theorem gX1_coverRow_X1_get : GoodIn wsX1_coverRow (wsV RX1 61 RX1 yX1_get wsX1_get) := goodIn_app (goodIn_of _ (by decide +kernel)) ggX1_coverRow_X1_get
set_option maxRecDepth 20000 in
theorem ggX1_coverRow_X1_hasRow : GoodIn wsX1_coverRow wsX1_hasRow := goodIn_r _ [10, 11, 17, 18, 19, 20, 21, 22] (by decide +kernel) (by decide +kernel)
set_option maxRecDepth 20000 in
theorem gX1_coverRow_X1_hasRow : GoodIn wsX1_coverRow (wsV RX1 37 RX1 yX1_hasRow wsX1_hasRow) := goodIn_app (goodIn_of _ (by decide +kernel)) ggX1_coverRow_X1_hasRow
set_option maxRecDepth 20000 in
theorem ggX1_coverRow_X1_span : GoodIn wsX1_coverRow wsX1_span := goodIn_r _ [15, 16, 17, 18, 19, 20, 21, 22] (by decide +kernel) (by decide +kernel)
set_option maxRecDepth 20000 in
theorem gX1_coverRow_X1_span : GoodIn wsX1_coverRow (wsV RX1 73 RX1 yX1_span wsX1_span) := goodIn_app (goodIn_of _ (by decide +kernel)) ggX1_coverRow_X1_span
theorem dX1_coverRow_0 : decode cX1_coverRow 0 = .ok (.iload_n 2, 1) := by decide +kernel
theorem dX1_coverRow_1 : decode cX1_coverRow 1 = .ok (.aload_n 0, 1) := by decide +kernel
theorem dX1_coverRow_2 : decode cX1_coverRow 2 = .ok (.iload_n 1, 1) := by decide +kernel
theorem dX1_coverRow_3 : decode cX1_coverRow 3 = .ok (.iconst 1, 1) := by decide +kernel
theorem dX1_coverRow_4 : decode cX1_coverRow 4 = .ok (.invokevirtual 61, 3) := by decide +kernel
theorem dX1_coverRow_7 : decode cX1_coverRow 7 = .ok (.isub, 1) := by decide +kernel
theorem dX1_coverRow_8 : decode cX1_coverRow 8 = .ok (.istore_n 3, 1) := by decide +kernel
theorem dX1_coverRow_9 : decode cX1_coverRow 9 = .ok (.aload_n 0, 1) := by decide +kernel
theorem dX1_coverRow_10 : decode cX1_coverRow 10 = .ok (.iload_n 2, 1) := by decide +kernel
theorem dX1_coverRow_11 : decode cX1_coverRow 11 = .ok (.invokevirtual 37, 3) := by decide +kernel
theorem dX1_coverRow_14 : decode cX1_coverRow 14 = .ok (.ifCond .eq 21, 3) := by decide +kernel
theorem dX1_coverRow_17 : decode cX1_coverRow 17 = .ok (.iload_n 3, 1) := by decide +kernel
theorem dX1_coverRow_18 : decode cX1_coverRow 18 = .ok (.ifCond .lt 17, 3) := by decide +kernel
theorem dX1_coverRow_21 : decode cX1_coverRow 21 = .ok (.iload_n 3, 1) := by decide +kernel
theorem dX1_coverRow_22 : decode cX1_coverRow 22 = .ok (.aload_n 0, 1) := by decide +kernel
theorem dX1_coverRow_23 : decode cX1_coverRow 23 = .ok (.iload_n 1, 1) := by decide +kernel
theorem dX1_coverRow_24 : decode cX1_coverRow 24 = .ok (.iconst 3, 1) := by decide +kernel
theorem dX1_coverRow_25 : decode cX1_coverRow 25 = .ok (.invokevirtual 61, 3) := by decide +kernel
theorem dX1_coverRow_28 : decode cX1_coverRow 28 = .ok (.if_icmp .ge 7, 3) := by decide +kernel
theorem dX1_coverRow_31 : decode cX1_coverRow 31 = .ok (.iconst 1, 1) := by decide +kernel
theorem dX1_coverRow_32 : decode cX1_coverRow 32 = .ok (.goto 4, 3) := by decide +kernel
theorem dX1_coverRow_35 : decode cX1_coverRow 35 = .ok (.iconst 0, 1) := by decide +kernel
theorem dX1_coverRow_36 : decode cX1_coverRow 36 = .ok (.istore 4, 2) := by decide +kernel
theorem dX1_coverRow_38 : decode cX1_coverRow 38 = .ok (.iload 4, 2) := by decide +kernel
theorem dX1_coverRow_40 : decode cX1_coverRow 40 = .ok (.ifCond .eq 22, 3) := by decide +kernel
theorem dX1_coverRow_43 : decode cX1_coverRow 43 = .ok (.aload_n 0, 1) := by decide +kernel
theorem dX1_coverRow_44 : decode cX1_coverRow 44 = .ok (.aload_n 0, 1) := by decide +kernel
theorem dX1_coverRow_45 : decode cX1_coverRow 45 = .ok (.iload_n 1, 1) := by decide +kernel
theorem dX1_coverRow_46 : decode cX1_coverRow 46 = .ok (.iconst 0, 1) := by decide +kernel
theorem dX1_coverRow_47 : decode cX1_coverRow 47 = .ok (.invokevirtual 61, 3) := by decide +kernel
theorem dX1_coverRow_50 : decode cX1_coverRow 50 = .ok (.aload_n 0, 1) := by decide +kernel
theorem dX1_coverRow_51 : decode cX1_coverRow 51 = .ok (.iload_n 1, 1) := by decide +kernel
theorem dX1_coverRow_52 : decode cX1_coverRow 52 = .ok (.iconst 2, 1) := by decide +kernel
theorem dX1_coverRow_53 : decode cX1_coverRow 53 = .ok (.invokevirtual 61, 3) := by decide +kernel
theorem dX1_coverRow_56 : decode cX1_coverRow 56 = .ok (.invokevirtual 73, 3) := by decide +kernel
theorem dX1_coverRow_59 : decode cX1_coverRow 59 = .ok (.goto 4, 3) := by decide +kernel
theorem dX1_coverRow_62 : decode cX1_coverRow 62 = .ok (.iconst 0, 1) := by decide +kernel
theorem dX1_coverRow_63 : decode cX1_coverRow 63 = .ok (.ireturn, 1) := by decide +kernel
set_option maxRecDepth 20000 in
theorem ggX1_coveringPiece_X7_at : GoodIn wsX1_coveringPiece wsX7_at := goodIn_r _ [5] (by decide +kernel) (by decide +kernel)
set_option maxRecDepth 20000 in
theorem gX1_coveringPiece_X7_at_n45 : GoodIn wsX1_coveringPiece (wsX7_at) := ggX1_coveringPiece_X7_at
set_option maxRecDepth 20000 in
theorem ggX1_coveringPiece_X1_coverRow : GoodIn wsX1_coveringPiece wsX1_coverRow := goodIn_r _ [10, 11, 12, 13, 9, 14, 15, 16, 17, 18, 19, 20, 21, 22, 23, 24, 25, 26, 27, 28, 29, 30, 31] (by decide +kernel) (by decide +kernel)
set_option maxRecDepth 20000 in
theorem gX1_coveringPiece_X1_coverRow : GoodIn wsX1_coveringPiece (wsV RX1 76 RX1 yX1_coverRow wsX1_coverRow) := goodIn_app (goodIn_of _ (by decide +kernel)) ggX1_coveringPiece_X1_coverRow
theorem dX1_coveringPiece_0 : decode cX1_coveringPiece 0 = .ok (.iload_n 3, 1) := by decide +kernel
theorem dX1_coveringPiece_1 : decode cX1_coveringPiece 1 = .ok (.istore 4, 2) := by decide +kernel
theorem dX1_coveringPiece_3 : decode cX1_coveringPiece 3 = .ok (.aload_n 0, 1) := by decide +kernel
theorem dX1_coveringPiece_4 : decode cX1_coveringPiece 4 = .ok (.getfield 25, 3) := by decide +kernel
theorem dX1_coveringPiece_7 : decode cX1_coveringPiece 7 = .ok (.iconst 1, 1) := by decide +kernel
theorem dX1_coveringPiece_8 : decode cX1_coveringPiece 8 = .ok (.isub, 1) := by decide +kernel
theorem dX1_coveringPiece_9 : decode cX1_coveringPiece 9 = .ok (.istore 5, 2) := by decide +kernel
theorem dX1_coveringPiece_11 : decode cX1_coveringPiece 11 = .ok (.iload 5, 2) := by decide +kernel
theorem dX1_coveringPiece_13 : decode cX1_coveringPiece 13 = .ok (.ifCond .lt 45, 3) := by decide +kernel
theorem dX1_coveringPiece_16 : decode cX1_coveringPiece 16 = .ok (.aload_n 0, 1) := by decide +kernel
theorem dX1_coveringPiece_17 : decode cX1_coveringPiece 17 = .ok (.getfield 15, 3) := by decide +kernel
theorem dX1_coveringPiece_20 : decode cX1_coveringPiece 20 = .ok (.iload 5, 2) := by decide +kernel
theorem dX1_coveringPiece_22 : decode cX1_coveringPiece 22 = .ok (.invokestatic 45, 3) := by decide +kernel
theorem dX1_coveringPiece_25 : decode cX1_coveringPiece 25 = .ok (.istore 6, 2) := by decide +kernel
theorem dX1_coveringPiece_27 : decode cX1_coveringPiece 27 = .ok (.aload_n 0, 1) := by decide +kernel
theorem dX1_coveringPiece_28 : decode cX1_coveringPiece 28 = .ok (.iload 6, 2) := by decide +kernel
theorem dX1_coveringPiece_30 : decode cX1_coveringPiece 30 = .ok (.iload_n 2, 1) := by decide +kernel
theorem dX1_coveringPiece_31 : decode cX1_coveringPiece 31 = .ok (.invokevirtual 76, 3) := by decide +kernel
theorem dX1_coveringPiece_34 : decode cX1_coveringPiece 34 = .ok (.iload_n 1, 1) := by decide +kernel
theorem dX1_coveringPiece_35 : decode cX1_coveringPiece 35 = .ok (.ishr, 1) := by decide +kernel
theorem dX1_coveringPiece_36 : decode cX1_coveringPiece 36 = .ok (.iconst 1, 1) := by decide +kernel
theorem dX1_coveringPiece_37 : decode cX1_coveringPiece 37 = .ok (.iand, 1) := by decide +kernel
theorem dX1_coveringPiece_38 : decode cX1_coveringPiece 38 = .ok (.ifCond .eq 14, 3) := by decide +kernel
theorem dX1_coveringPiece_41 : decode cX1_coveringPiece 41 = .ok (.iload 4, 2) := by decide +kernel
theorem dX1_coveringPiece_43 : decode cX1_coveringPiece 43 = .ok (.ifCond .ne 6, 3) := by decide +kernel
theorem dX1_coveringPiece_46 : decode cX1_coveringPiece 46 = .ok (.iload 6, 2) := by decide +kernel
theorem dX1_coveringPiece_48 : decode cX1_coveringPiece 48 = .ok (.ireturn, 1) := by decide +kernel
theorem dX1_coveringPiece_49 : decode cX1_coveringPiece 49 = .ok (.iinc 4 (-1), 3) := by decide +kernel
theorem dX1_coveringPiece_52 : decode cX1_coveringPiece 52 = .ok (.iinc 5 (-1), 3) := by decide +kernel
theorem dX1_coveringPiece_55 : decode cX1_coveringPiece 55 = .ok (.goto (-44), 3) := by decide +kernel
theorem dX1_coveringPiece_58 : decode cX1_coveringPiece 58 = .ok (.bipush (-109), 2) := by decide +kernel
theorem dX1_coveringPiece_60 : decode cX1_coveringPiece 60 = .ok (.ireturn, 1) := by decide +kernel
set_option maxRecDepth 20000 in
theorem ggX1_area_X1_get : GoodIn wsX1_area wsX1_get := goodIn_r _ [5, 6, 7, 8, 9, 10, 11, 12] (by decide +kernel) (by decide +kernel)
set_option maxRecDepth 20000 in
theorem gX1_area_X1_get : GoodIn wsX1_area (wsV RX1 61 RX1 yX1_get wsX1_get) := goodIn_app (goodIn_of _ (by decide +kernel)) ggX1_area_X1_get
theorem dX1_area_0 : decode cX1_area 0 = .ok (.aload_n 0, 1) := by decide +kernel
theorem dX1_area_1 : decode cX1_area 1 = .ok (.iload_n 1, 1) := by decide +kernel
theorem dX1_area_2 : decode cX1_area 2 = .ok (.iconst 2, 1) := by decide +kernel
theorem dX1_area_3 : decode cX1_area 3 = .ok (.invokevirtual 61, 3) := by decide +kernel
theorem dX1_area_6 : decode cX1_area 6 = .ok (.aload_n 0, 1) := by decide +kernel
theorem dX1_area_7 : decode cX1_area 7 = .ok (.iload_n 1, 1) := by decide +kernel
theorem dX1_area_8 : decode cX1_area 8 = .ok (.iconst 3, 1) := by decide +kernel
theorem dX1_area_9 : decode cX1_area 9 = .ok (.invokevirtual 61, 3) := by decide +kernel
theorem dX1_area_12 : decode cX1_area 12 = .ok (.imul, 1) := by decide +kernel
theorem dX1_area_13 : decode cX1_area 13 = .ok (.ireturn, 1) := by decide +kernel
set_option maxRecDepth 20000 in
theorem ggX1_cellsOutside_X1_coverRow : GoodIn wsX1_cellsOutside wsX1_coverRow := goodIn_r _ [6, 7, 8, 9, 5, 10, 11, 12, 13, 14, 15, 1, 16, 17, 18, 19, 20, 32, 33, 34, 35, 36, 37] (by decide +kernel) (by decide +kernel)
set_option maxRecDepth 20000 in
theorem gX1_cellsOutside_X1_coverRow : GoodIn wsX1_cellsOutside (wsV RX1 76 RX1 yX1_coverRow wsX1_coverRow) := goodIn_app (goodIn_of _ (by decide +kernel)) ggX1_cellsOutside_X1_coverRow
set_option maxRecDepth 20000 in
theorem ggX1_cellsOutside_J6_bitCount_0f7a4 : GoodIn wsX1_cellsOutside wsJ6_bitCount_0f7a4 := goodIn_r _ [24, 25, 26, 27] (by decide +kernel) (by decide +kernel)
set_option maxRecDepth 20000 in
theorem gX1_cellsOutside_J6_bitCount_0f7a4 : GoodIn wsX1_cellsOutside (va_wsS RX1 79 yJ6_bitCount_0f7a4 wsJ6_bitCount_0f7a4) := goodIn_app (goodIn_of _ (by decide +kernel)) ggX1_cellsOutside_J6_bitCount_0f7a4
set_option maxRecDepth 20000 in
theorem ggX1_cellsOutside_X1_area : GoodIn wsX1_cellsOutside wsX1_area := goodIn_r _ [31, 7, 8, 9, 5, 10, 11, 32, 33, 34, 35, 36, 37] (by decide +kernel) (by decide +kernel)
set_option maxRecDepth 20000 in
theorem gX1_cellsOutside_X1_area : GoodIn wsX1_cellsOutside (wsV RX1 84 RX1 yX1_area wsX1_area) := goodIn_app (goodIn_of _ (by decide +kernel)) ggX1_cellsOutside_X1_area
theorem dX1_cellsOutside_0 : decode cX1_cellsOutside 0 = .ok (.iconst 0, 1) := by decide +kernel
theorem dX1_cellsOutside_1 : decode cX1_cellsOutside 1 = .ok (.istore_n 2, 1) := by decide +kernel
theorem dX1_cellsOutside_2 : decode cX1_cellsOutside 2 = .ok (.iconst 0, 1) := by decide +kernel
theorem dX1_cellsOutside_3 : decode cX1_cellsOutside 3 = .ok (.istore_n 3, 1) := by decide +kernel
theorem dX1_cellsOutside_4 : decode cX1_cellsOutside 4 = .ok (.iload_n 3, 1) := by decide +kernel
theorem dX1_cellsOutside_5 : decode cX1_cellsOutside 5 = .ok (.aload_n 0, 1) := by decide +kernel
theorem dX1_cellsOutside_6 : decode cX1_cellsOutside 6 = .ok (.getfield 22, 3) := by decide +kernel
theorem dX1_cellsOutside_9 : decode cX1_cellsOutside 9 = .ok (.if_icmp .ge 21, 3) := by decide +kernel
theorem dX1_cellsOutside_12 : decode cX1_cellsOutside 12 = .ok (.iload_n 2, 1) := by decide +kernel
theorem dX1_cellsOutside_13 : decode cX1_cellsOutside 13 = .ok (.aload_n 0, 1) := by decide +kernel
theorem dX1_cellsOutside_14 : decode cX1_cellsOutside 14 = .ok (.iload_n 1, 1) := by decide +kernel
theorem dX1_cellsOutside_15 : decode cX1_cellsOutside 15 = .ok (.iload_n 3, 1) := by decide +kernel
theorem dX1_cellsOutside_16 : decode cX1_cellsOutside 16 = .ok (.invokevirtual 76, 3) := by decide +kernel
theorem dX1_cellsOutside_19 : decode cX1_cellsOutside 19 = .ok (.invokestatic 79, 3) := by decide +kernel
theorem dX1_cellsOutside_22 : decode cX1_cellsOutside 22 = .ok (.iadd, 1) := by decide +kernel
theorem dX1_cellsOutside_23 : decode cX1_cellsOutside 23 = .ok (.istore_n 2, 1) := by decide +kernel
theorem dX1_cellsOutside_24 : decode cX1_cellsOutside 24 = .ok (.iinc 3 1, 3) := by decide +kernel
theorem dX1_cellsOutside_27 : decode cX1_cellsOutside 27 = .ok (.goto (-23), 3) := by decide +kernel
theorem dX1_cellsOutside_30 : decode cX1_cellsOutside 30 = .ok (.aload_n 0, 1) := by decide +kernel
theorem dX1_cellsOutside_31 : decode cX1_cellsOutside 31 = .ok (.iload_n 1, 1) := by decide +kernel
theorem dX1_cellsOutside_32 : decode cX1_cellsOutside 32 = .ok (.invokevirtual 84, 3) := by decide +kernel
theorem dX1_cellsOutside_35 : decode cX1_cellsOutside 35 = .ok (.iload_n 2, 1) := by decide +kernel
theorem dX1_cellsOutside_36 : decode cX1_cellsOutside 36 = .ok (.isub, 1) := by decide +kernel
theorem dX1_cellsOutside_37 : decode cX1_cellsOutside 37 = .ok (.ireturn, 1) := by decide +kernel
theorem dX2_init_0 : decode cX2_init 0 = .ok (.aload_n 0, 1) := by decide +kernel
theorem dX2_init_1 : decode cX2_init 1 = .ok (.invokespecial 3, 3) := by decide +kernel
theorem dX2_init_4 : decode cX2_init 4 = .ok (.aload_n 0, 1) := by decide +kernel
theorem dX2_init_5 : decode cX2_init 5 = .ok (.aload_n 1, 1) := by decide +kernel
theorem dX2_init_6 : decode cX2_init 6 = .ok (.putfield 9, 3) := by decide +kernel
theorem dX2_init_9 : decode cX2_init 9 = .ok (.aload_n 0, 1) := by decide +kernel
theorem dX2_init_10 : decode cX2_init 10 = .ok (.bipush 24, 2) := by decide +kernel
theorem dX2_init_12 : decode cX2_init 12 = .ok (.newarray .int, 2) := by decide +kernel
theorem dX2_init_14 : decode cX2_init 14 = .ok (.putfield 15, 3) := by decide +kernel
theorem dX2_init_17 : decode cX2_init 17 = .ok (.aload_n 0, 1) := by decide +kernel
theorem dX2_init_18 : decode cX2_init 18 = .ok (.bipush 24, 2) := by decide +kernel
theorem dX2_init_20 : decode cX2_init 20 = .ok (.newarray .int, 2) := by decide +kernel
theorem dX2_init_22 : decode cX2_init 22 = .ok (.putfield 19, 3) := by decide +kernel
theorem dX2_init_25 : decode cX2_init 25 = .ok (.aload_n 0, 1) := by decide +kernel
theorem dX2_init_26 : decode cX2_init 26 = .ok (.iconst 0, 1) := by decide +kernel
theorem dX2_init_27 : decode cX2_init 27 = .ok (.putfield 22, 3) := by decide +kernel
theorem dX2_init_30 : decode cX2_init 30 = .ok (.aload_n 0, 1) := by decide +kernel
theorem dX2_init_31 : decode cX2_init 31 = .ok (.iconst 0, 1) := by decide +kernel
theorem dX2_init_32 : decode cX2_init 32 = .ok (.putfield 26, 3) := by decide +kernel
theorem dX2_init_35 : decode cX2_init 35 = .ok (.return_, 1) := by decide +kernel
theorem dX2_number_0 : decode cX2_number 0 = .ok (.aload_n 0, 1) := by decide +kernel
theorem dX2_number_1 : decode cX2_number 1 = .ok (.getfield 22, 3) := by decide +kernel
theorem dX2_number_4 : decode cX2_number 4 = .ok (.ireturn, 1) := by decide +kernel
theorem dX2_largest_0 : decode cX2_largest 0 = .ok (.aload_n 0, 1) := by decide +kernel
theorem dX2_largest_1 : decode cX2_largest 1 = .ok (.getfield 26, 3) := by decide +kernel
theorem dX2_largest_4 : decode cX2_largest 4 = .ok (.ireturn, 1) := by decide +kernel
set_option maxRecDepth 20000 in
theorem ggX2_split_X5_rowOf : GoodIn wsX2_split wsX5_rowOf := goodIn_r _ [13, 14, 15, 16, 17, 18, 19, 20, 21, 22, 23, 24, 25, 26, 27, 28, 29, 30, 31, 32, 33, 34, 35, 36, 37, 38, 39, 68, 69, 70, 71, 72, 73, 74, 75, 76, 77] (by decide +kernel) (by decide +kernel)
set_option maxRecDepth 20000 in
theorem gX2_split_X5_rowOf : GoodIn wsX2_split (wsV RX2 29 RX5 yX5_rowOf wsX5_rowOf) := goodIn_app (goodIn_of _ (by decide +kernel)) ggX2_split_X5_rowOf
set_option maxRecDepth 20000 in
theorem ggX2_split_X7_put : GoodIn wsX2_split wsX7_put := goodIn_r _ [41] (by decide +kernel) (by decide +kernel)
set_option maxRecDepth 20000 in
theorem gX2_split_X7_put_n35 : GoodIn wsX2_split (wsX7_put) := ggX2_split_X7_put
set_option maxRecDepth 20000 in
theorem ggX2_split_X7_at : GoodIn wsX2_split wsX7_at := goodIn_r _ [34] (by decide +kernel) (by decide +kernel)
set_option maxRecDepth 20000 in
theorem gX2_split_X7_at_n39 : GoodIn wsX2_split (wsX7_at) := ggX2_split_X7_at
set_option maxRecDepth 20000 in
theorem ggX2_split_X2_takePart : GoodIn wsX2_split wsX2_takePart := goodIn_r _ [46, 47, 3, 48, 49, 50, 51, 32, 33, 34, 40, 41, 52, 53, 54, 45, 55, 56, 57, 58, 59, 60, 61, 62, 63, 64, 65, 66, 67] (by decide +kernel) (by decide +kernel)
set_option maxRecDepth 20000 in
theorem gX2_split_X2_takePart : GoodIn wsX2_split (wsV RX2 43 RX2 yX2_takePart wsX2_takePart) := goodIn_app (goodIn_of _ (by decide +kernel)) ggX2_split_X2_takePart
theorem dX2_split_0 : decode cX2_split 0 = .ok (.aload_n 0, 1) := by decide +kernel
theorem dX2_split_1 : decode cX2_split 1 = .ok (.iconst 0, 1) := by decide +kernel
theorem dX2_split_2 : decode cX2_split 2 = .ok (.putfield 22, 3) := by decide +kernel
theorem dX2_split_5 : decode cX2_split 5 = .ok (.aload_n 0, 1) := by decide +kernel
theorem dX2_split_6 : decode cX2_split 6 = .ok (.iconst 0, 1) := by decide +kernel
theorem dX2_split_7 : decode cX2_split 7 = .ok (.putfield 26, 3) := by decide +kernel
theorem dX2_split_10 : decode cX2_split 10 = .ok (.iconst 0, 1) := by decide +kernel
theorem dX2_split_11 : decode cX2_split 11 = .ok (.istore_n 2, 1) := by decide +kernel
theorem dX2_split_12 : decode cX2_split 12 = .ok (.iload_n 2, 1) := by decide +kernel
theorem dX2_split_13 : decode cX2_split 13 = .ok (.bipush 24, 2) := by decide +kernel
theorem dX2_split_15 : decode cX2_split 15 = .ok (.if_icmp .ge 26, 3) := by decide +kernel
theorem dX2_split_18 : decode cX2_split 18 = .ok (.aload_n 0, 1) := by decide +kernel
theorem dX2_split_19 : decode cX2_split 19 = .ok (.getfield 15, 3) := by decide +kernel
theorem dX2_split_22 : decode cX2_split 22 = .ok (.iload_n 2, 1) := by decide +kernel
theorem dX2_split_23 : decode cX2_split 23 = .ok (.aload_n 0, 1) := by decide +kernel
theorem dX2_split_24 : decode cX2_split 24 = .ok (.getfield 9, 3) := by decide +kernel
theorem dX2_split_27 : decode cX2_split 27 = .ok (.iload_n 1, 1) := by decide +kernel
theorem dX2_split_28 : decode cX2_split 28 = .ok (.iload_n 2, 1) := by decide +kernel
theorem dX2_split_29 : decode cX2_split 29 = .ok (.invokevirtual 29, 3) := by decide +kernel
theorem dX2_split_32 : decode cX2_split 32 = .ok (.invokestatic 35, 3) := by decide +kernel
theorem dX2_split_35 : decode cX2_split 35 = .ok (.iinc 2 1, 3) := by decide +kernel
theorem dX2_split_38 : decode cX2_split 38 = .ok (.goto (-26), 3) := by decide +kernel
theorem dX2_split_41 : decode cX2_split 41 = .ok (.iconst 0, 1) := by decide +kernel
theorem dX2_split_42 : decode cX2_split 42 = .ok (.istore_n 2, 1) := by decide +kernel
theorem dX2_split_43 : decode cX2_split 43 = .ok (.iload_n 2, 1) := by decide +kernel
theorem dX2_split_44 : decode cX2_split 44 = .ok (.bipush 24, 2) := by decide +kernel
theorem dX2_split_46 : decode cX2_split 46 = .ok (.if_icmp .ge 60, 3) := by decide +kernel
theorem dX2_split_49 : decode cX2_split 49 = .ok (.iconst 0, 1) := by decide +kernel
theorem dX2_split_50 : decode cX2_split 50 = .ok (.istore_n 3, 1) := by decide +kernel
theorem dX2_split_51 : decode cX2_split 51 = .ok (.iload_n 3, 1) := by decide +kernel
theorem dX2_split_52 : decode cX2_split 52 = .ok (.bipush 24, 2) := by decide +kernel
theorem dX2_split_54 : decode cX2_split 54 = .ok (.if_icmp .ge 46, 3) := by decide +kernel
theorem dX2_split_57 : decode cX2_split 57 = .ok (.aload_n 0, 1) := by decide +kernel
theorem dX2_split_58 : decode cX2_split 58 = .ok (.getfield 15, 3) := by decide +kernel
theorem dX2_split_61 : decode cX2_split 61 = .ok (.iload_n 2, 1) := by decide +kernel
theorem dX2_split_62 : decode cX2_split 62 = .ok (.invokestatic 39, 3) := by decide +kernel
theorem dX2_split_65 : decode cX2_split 65 = .ok (.ifCond .eq 35, 3) := by decide +kernel
theorem dX2_split_68 : decode cX2_split 68 = .ok (.aload_n 0, 1) := by decide +kernel
theorem dX2_split_69 : decode cX2_split 69 = .ok (.dup, 1) := by decide +kernel
theorem dX2_split_70 : decode cX2_split 70 = .ok (.getfield 22, 3) := by decide +kernel
theorem dX2_split_73 : decode cX2_split 73 = .ok (.iconst 1, 1) := by decide +kernel
theorem dX2_split_74 : decode cX2_split 74 = .ok (.iadd, 1) := by decide +kernel
theorem dX2_split_75 : decode cX2_split 75 = .ok (.putfield 22, 3) := by decide +kernel
theorem dX2_split_78 : decode cX2_split 78 = .ok (.aload_n 0, 1) := by decide +kernel
theorem dX2_split_79 : decode cX2_split 79 = .ok (.aload_n 0, 1) := by decide +kernel
theorem dX2_split_80 : decode cX2_split 80 = .ok (.getfield 26, 3) := by decide +kernel
theorem dX2_split_83 : decode cX2_split 83 = .ok (.aload_n 0, 1) := by decide +kernel
theorem dX2_split_84 : decode cX2_split 84 = .ok (.iload_n 2, 1) := by decide +kernel
theorem dX2_split_85 : decode cX2_split 85 = .ok (.invokevirtual 43, 3) := by decide +kernel
theorem dX2_split_88 : decode cX2_split 88 = .ok (.invokestatic 47, 3) := by decide +kernel
theorem dX2_split_91 : decode cX2_split 91 = .ok (.putfield 26, 3) := by decide +kernel
theorem dX2_split_94 : decode cX2_split 94 = .ok (.iinc 3 1, 3) := by decide +kernel
theorem dX2_split_97 : decode cX2_split 97 = .ok (.goto (-46), 3) := by decide +kernel
theorem dX2_split_100 : decode cX2_split 100 = .ok (.iinc 2 1, 3) := by decide +kernel
theorem dX2_split_103 : decode cX2_split 103 = .ok (.goto (-60), 3) := by decide +kernel
theorem dX2_split_106 : decode cX2_split 106 = .ok (.return_, 1) := by decide +kernel
set_option maxRecDepth 20000 in
theorem ggX2_takePart_J7_fill_53178 : GoodIn wsX2_takePart wsJ7_fill_53178 := goodIn_r _ [6] (by decide +kernel) (by decide +kernel)
set_option maxRecDepth 20000 in
theorem gX2_takePart_J7_fill_53178 : GoodIn wsX2_takePart (va_wsS RX2 52 yJ7_fill_53178 wsJ7_fill_53178) := goodIn_app (goodIn_of _ (by decide +kernel)) ggX2_takePart_J7_fill_53178
set_option maxRecDepth 20000 in
theorem ggX2_takePart_X7_at : GoodIn wsX2_takePart wsX7_at := goodIn_r _ [9] (by decide +kernel) (by decide +kernel)
set_option maxRecDepth 20000 in
theorem gX2_takePart_X7_at_n39 : GoodIn wsX2_takePart (wsX7_at) := ggX2_takePart_X7_at
set_option maxRecDepth 20000 in
theorem ggX2_takePart_X7_put : GoodIn wsX2_takePart wsX7_put := goodIn_r _ [11] (by decide +kernel) (by decide +kernel)
set_option maxRecDepth 20000 in
theorem gX2_takePart_X7_put_n35 : GoodIn wsX2_takePart (wsX7_put) := ggX2_takePart_X7_put
set_option maxRecDepth 20000 in
theorem ggX2_takePart_X2_grow : GoodIn wsX2_takePart wsX2_grow := goodIn_r _ [16, 1, 2, 7, 8, 9, 10, 11, 24, 25, 26, 27, 28] (by decide +kernel) (by decide +kernel)
set_option maxRecDepth 20000 in
theorem gX2_takePart_X2_grow : GoodIn wsX2_takePart (wsV RX2 58 RX2 yX2_grow wsX2_grow) := goodIn_app (goodIn_of _ (by decide +kernel)) ggX2_takePart_X2_grow
set_option maxRecDepth 20000 in
theorem ggX2_takePart_J6_bitCount_0f7a4 : GoodIn wsX2_takePart wsJ6_bitCount_0f7a4 := goodIn_r _ [20, 21, 22, 23] (by decide +kernel) (by decide +kernel)
set_option maxRecDepth 20000 in
theorem gX2_takePart_J6_bitCount_0f7a4 : GoodIn wsX2_takePart (va_wsS RX2 62 yJ6_bitCount_0f7a4 wsJ6_bitCount_0f7a4) := goodIn_app (goodIn_of _ (by decide +kernel)) ggX2_takePart_J6_bitCount_0f7a4
theorem dX2_takePart_0 : decode cX2_takePart 0 = .ok (.aload_n 0, 1) := by decide +kernel
theorem dX2_takePart_1 : decode cX2_takePart 1 = .ok (.getfield 19, 3) := by decide +kernel
theorem dX2_takePart_4 : decode cX2_takePart 4 = .ok (.iconst 0, 1) := by decide +kernel
theorem dX2_takePart_5 : decode cX2_takePart 5 = .ok (.invokestatic 52, 3) := by decide +kernel
theorem dX2_takePart_8 : decode cX2_takePart 8 = .ok (.aload_n 0, 1) := by decide +kernel
theorem dX2_takePart_9 : decode cX2_takePart 9 = .ok (.getfield 19, 3) := by decide +kernel
theorem dX2_takePart_12 : decode cX2_takePart 12 = .ok (.iload_n 1, 1) := by decide +kernel
theorem dX2_takePart_13 : decode cX2_takePart 13 = .ok (.aload_n 0, 1) := by decide +kernel
theorem dX2_takePart_14 : decode cX2_takePart 14 = .ok (.getfield 15, 3) := by decide +kernel
theorem dX2_takePart_17 : decode cX2_takePart 17 = .ok (.iload_n 1, 1) := by decide +kernel
theorem dX2_takePart_18 : decode cX2_takePart 18 = .ok (.invokestatic 39, 3) := by decide +kernel
theorem dX2_takePart_21 : decode cX2_takePart 21 = .ok (.aload_n 0, 1) := by decide +kernel
theorem dX2_takePart_22 : decode cX2_takePart 22 = .ok (.getfield 15, 3) := by decide +kernel
theorem dX2_takePart_25 : decode cX2_takePart 25 = .ok (.iload_n 1, 1) := by decide +kernel
theorem dX2_takePart_26 : decode cX2_takePart 26 = .ok (.invokestatic 39, 3) := by decide +kernel
theorem dX2_takePart_29 : decode cX2_takePart 29 = .ok (.ineg, 1) := by decide +kernel
theorem dX2_takePart_30 : decode cX2_takePart 30 = .ok (.iand, 1) := by decide +kernel
theorem dX2_takePart_31 : decode cX2_takePart 31 = .ok (.invokestatic 35, 3) := by decide +kernel
theorem dX2_takePart_34 : decode cX2_takePart 34 = .ok (.iconst 1, 1) := by decide +kernel
theorem dX2_takePart_35 : decode cX2_takePart 35 = .ok (.istore_n 2, 1) := by decide +kernel
theorem dX2_takePart_36 : decode cX2_takePart 36 = .ok (.iconst 0, 1) := by decide +kernel
theorem dX2_takePart_37 : decode cX2_takePart 37 = .ok (.istore_n 3, 1) := by decide +kernel
theorem dX2_takePart_38 : decode cX2_takePart 38 = .ok (.iload_n 3, 1) := by decide +kernel
theorem dX2_takePart_39 : decode cX2_takePart 39 = .ok (.sipush 576, 3) := by decide +kernel
theorem dX2_takePart_42 : decode cX2_takePart 42 = .ok (.if_icmp .ge 18, 3) := by decide +kernel
theorem dX2_takePart_45 : decode cX2_takePart 45 = .ok (.iload_n 2, 1) := by decide +kernel
theorem dX2_takePart_46 : decode cX2_takePart 46 = .ok (.ifCond .eq 14, 3) := by decide +kernel
theorem dX2_takePart_49 : decode cX2_takePart 49 = .ok (.aload_n 0, 1) := by decide +kernel
theorem dX2_takePart_50 : decode cX2_takePart 50 = .ok (.invokevirtual 58, 3) := by decide +kernel
theorem dX2_takePart_53 : decode cX2_takePart 53 = .ok (.istore_n 2, 1) := by decide +kernel
theorem dX2_takePart_54 : decode cX2_takePart 54 = .ok (.iinc 3 1, 3) := by decide +kernel
theorem dX2_takePart_57 : decode cX2_takePart 57 = .ok (.goto (-19), 3) := by decide +kernel
theorem dX2_takePart_60 : decode cX2_takePart 60 = .ok (.iconst 0, 1) := by decide +kernel
theorem dX2_takePart_61 : decode cX2_takePart 61 = .ok (.istore_n 3, 1) := by decide +kernel
theorem dX2_takePart_62 : decode cX2_takePart 62 = .ok (.iconst 0, 1) := by decide +kernel
theorem dX2_takePart_63 : decode cX2_takePart 63 = .ok (.istore 4, 2) := by decide +kernel
theorem dX2_takePart_65 : decode cX2_takePart 65 = .ok (.iload 4, 2) := by decide +kernel
theorem dX2_takePart_67 : decode cX2_takePart 67 = .ok (.bipush 24, 2) := by decide +kernel
theorem dX2_takePart_69 : decode cX2_takePart 69 = .ok (.if_icmp .ge 54, 3) := by decide +kernel
theorem dX2_takePart_72 : decode cX2_takePart 72 = .ok (.iload_n 3, 1) := by decide +kernel
theorem dX2_takePart_73 : decode cX2_takePart 73 = .ok (.aload_n 0, 1) := by decide +kernel
theorem dX2_takePart_74 : decode cX2_takePart 74 = .ok (.getfield 19, 3) := by decide +kernel
theorem dX2_takePart_77 : decode cX2_takePart 77 = .ok (.iload 4, 2) := by decide +kernel
theorem dX2_takePart_79 : decode cX2_takePart 79 = .ok (.invokestatic 39, 3) := by decide +kernel
theorem dX2_takePart_82 : decode cX2_takePart 82 = .ok (.invokestatic 62, 3) := by decide +kernel
theorem dX2_takePart_85 : decode cX2_takePart 85 = .ok (.iadd, 1) := by decide +kernel
theorem dX2_takePart_86 : decode cX2_takePart 86 = .ok (.istore_n 3, 1) := by decide +kernel
theorem dX2_takePart_87 : decode cX2_takePart 87 = .ok (.aload_n 0, 1) := by decide +kernel
theorem dX2_takePart_88 : decode cX2_takePart 88 = .ok (.getfield 15, 3) := by decide +kernel
theorem dX2_takePart_91 : decode cX2_takePart 91 = .ok (.iload 4, 2) := by decide +kernel
theorem dX2_takePart_93 : decode cX2_takePart 93 = .ok (.aload_n 0, 1) := by decide +kernel
theorem dX2_takePart_94 : decode cX2_takePart 94 = .ok (.getfield 15, 3) := by decide +kernel
theorem dX2_takePart_97 : decode cX2_takePart 97 = .ok (.iload 4, 2) := by decide +kernel
theorem dX2_takePart_99 : decode cX2_takePart 99 = .ok (.invokestatic 39, 3) := by decide +kernel
theorem dX2_takePart_102 : decode cX2_takePart 102 = .ok (.aload_n 0, 1) := by decide +kernel
theorem dX2_takePart_103 : decode cX2_takePart 103 = .ok (.getfield 19, 3) := by decide +kernel
theorem dX2_takePart_106 : decode cX2_takePart 106 = .ok (.iload 4, 2) := by decide +kernel
theorem dX2_takePart_108 : decode cX2_takePart 108 = .ok (.invokestatic 39, 3) := by decide +kernel
theorem dX2_takePart_111 : decode cX2_takePart 111 = .ok (.iconst (-1), 1) := by decide +kernel
theorem dX2_takePart_112 : decode cX2_takePart 112 = .ok (.ixor, 1) := by decide +kernel
theorem dX2_takePart_113 : decode cX2_takePart 113 = .ok (.iand, 1) := by decide +kernel
theorem dX2_takePart_114 : decode cX2_takePart 114 = .ok (.invokestatic 35, 3) := by decide +kernel
theorem dX2_takePart_117 : decode cX2_takePart 117 = .ok (.iinc 4 1, 3) := by decide +kernel
theorem dX2_takePart_120 : decode cX2_takePart 120 = .ok (.goto (-55), 3) := by decide +kernel
theorem dX2_takePart_123 : decode cX2_takePart 123 = .ok (.iload_n 3, 1) := by decide +kernel
theorem dX2_takePart_124 : decode cX2_takePart 124 = .ok (.ireturn, 1) := by decide +kernel
set_option maxRecDepth 20000 in
theorem ggX2_grow_X7_at : GoodIn wsX2_grow wsX7_at := goodIn_r _ [5] (by decide +kernel) (by decide +kernel)
set_option maxRecDepth 20000 in
theorem gX2_grow_X7_at_n39 : GoodIn wsX2_grow (wsX7_at) := ggX2_grow_X7_at
set_option maxRecDepth 20000 in
theorem ggX2_grow_X7_put : GoodIn wsX2_grow wsX7_put := goodIn_r _ [7] (by decide +kernel) (by decide +kernel)
set_option maxRecDepth 20000 in
theorem gX2_grow_X7_put_n35 : GoodIn wsX2_grow (wsX7_put) := ggX2_grow_X7_put
theorem dX2_grow_0 : decode cX2_grow 0 = .ok (.iconst 0, 1) := by decide +kernel
theorem dX2_grow_1 : decode cX2_grow 1 = .ok (.istore_n 1, 1) := by decide +kernel
theorem dX2_grow_2 : decode cX2_grow 2 = .ok (.iconst 0, 1) := by decide +kernel
theorem dX2_grow_3 : decode cX2_grow 3 = .ok (.istore_n 2, 1) := by decide +kernel
theorem dX2_grow_4 : decode cX2_grow 4 = .ok (.iload_n 2, 1) := by decide +kernel
theorem dX2_grow_5 : decode cX2_grow 5 = .ok (.bipush 24, 2) := by decide +kernel
theorem dX2_grow_7 : decode cX2_grow 7 = .ok (.if_icmp .ge 82, 3) := by decide +kernel
theorem dX2_grow_10 : decode cX2_grow 10 = .ok (.aload_n 0, 1) := by decide +kernel
theorem dX2_grow_11 : decode cX2_grow 11 = .ok (.getfield 19, 3) := by decide +kernel
theorem dX2_grow_14 : decode cX2_grow 14 = .ok (.iload_n 2, 1) := by decide +kernel
theorem dX2_grow_15 : decode cX2_grow 15 = .ok (.invokestatic 39, 3) := by decide +kernel
theorem dX2_grow_18 : decode cX2_grow 18 = .ok (.istore_n 3, 1) := by decide +kernel
theorem dX2_grow_19 : decode cX2_grow 19 = .ok (.iload_n 3, 1) := by decide +kernel
theorem dX2_grow_20 : decode cX2_grow 20 = .ok (.iload_n 3, 1) := by decide +kernel
theorem dX2_grow_21 : decode cX2_grow 21 = .ok (.iconst 1, 1) := by decide +kernel
theorem dX2_grow_22 : decode cX2_grow 22 = .ok (.ishl, 1) := by decide +kernel
theorem dX2_grow_23 : decode cX2_grow 23 = .ok (.ior, 1) := by decide +kernel
theorem dX2_grow_24 : decode cX2_grow 24 = .ok (.iload_n 3, 1) := by decide +kernel
theorem dX2_grow_25 : decode cX2_grow 25 = .ok (.iconst 1, 1) := by decide +kernel
theorem dX2_grow_26 : decode cX2_grow 26 = .ok (.ishr, 1) := by decide +kernel
theorem dX2_grow_27 : decode cX2_grow 27 = .ok (.ior, 1) := by decide +kernel
theorem dX2_grow_28 : decode cX2_grow 28 = .ok (.aload_n 0, 1) := by decide +kernel
theorem dX2_grow_29 : decode cX2_grow 29 = .ok (.getfield 19, 3) := by decide +kernel
theorem dX2_grow_32 : decode cX2_grow 32 = .ok (.iload_n 2, 1) := by decide +kernel
theorem dX2_grow_33 : decode cX2_grow 33 = .ok (.iconst 1, 1) := by decide +kernel
theorem dX2_grow_34 : decode cX2_grow 34 = .ok (.isub, 1) := by decide +kernel
theorem dX2_grow_35 : decode cX2_grow 35 = .ok (.invokestatic 39, 3) := by decide +kernel
theorem dX2_grow_38 : decode cX2_grow 38 = .ok (.ior, 1) := by decide +kernel
theorem dX2_grow_39 : decode cX2_grow 39 = .ok (.aload_n 0, 1) := by decide +kernel
theorem dX2_grow_40 : decode cX2_grow 40 = .ok (.getfield 19, 3) := by decide +kernel
theorem dX2_grow_43 : decode cX2_grow 43 = .ok (.iload_n 2, 1) := by decide +kernel
theorem dX2_grow_44 : decode cX2_grow 44 = .ok (.iconst 1, 1) := by decide +kernel
theorem dX2_grow_45 : decode cX2_grow 45 = .ok (.iadd, 1) := by decide +kernel
theorem dX2_grow_46 : decode cX2_grow 46 = .ok (.invokestatic 39, 3) := by decide +kernel
theorem dX2_grow_49 : decode cX2_grow 49 = .ok (.ior, 1) := by decide +kernel
theorem dX2_grow_50 : decode cX2_grow 50 = .ok (.istore 4, 2) := by decide +kernel
theorem dX2_grow_52 : decode cX2_grow 52 = .ok (.iload 4, 2) := by decide +kernel
theorem dX2_grow_54 : decode cX2_grow 54 = .ok (.aload_n 0, 1) := by decide +kernel
theorem dX2_grow_55 : decode cX2_grow 55 = .ok (.getfield 15, 3) := by decide +kernel
theorem dX2_grow_58 : decode cX2_grow 58 = .ok (.iload_n 2, 1) := by decide +kernel
theorem dX2_grow_59 : decode cX2_grow 59 = .ok (.invokestatic 39, 3) := by decide +kernel
theorem dX2_grow_62 : decode cX2_grow 62 = .ok (.iand, 1) := by decide +kernel
theorem dX2_grow_63 : decode cX2_grow 63 = .ok (.istore 5, 2) := by decide +kernel
theorem dX2_grow_65 : decode cX2_grow 65 = .ok (.iload 5, 2) := by decide +kernel
theorem dX2_grow_67 : decode cX2_grow 67 = .ok (.iload_n 3, 1) := by decide +kernel
theorem dX2_grow_68 : decode cX2_grow 68 = .ok (.if_icmp .eq 15, 3) := by decide +kernel
theorem dX2_grow_71 : decode cX2_grow 71 = .ok (.aload_n 0, 1) := by decide +kernel
theorem dX2_grow_72 : decode cX2_grow 72 = .ok (.getfield 19, 3) := by decide +kernel
theorem dX2_grow_75 : decode cX2_grow 75 = .ok (.iload_n 2, 1) := by decide +kernel
theorem dX2_grow_76 : decode cX2_grow 76 = .ok (.iload 5, 2) := by decide +kernel
theorem dX2_grow_78 : decode cX2_grow 78 = .ok (.invokestatic 35, 3) := by decide +kernel
theorem dX2_grow_81 : decode cX2_grow 81 = .ok (.iconst 1, 1) := by decide +kernel
theorem dX2_grow_82 : decode cX2_grow 82 = .ok (.istore_n 1, 1) := by decide +kernel
theorem dX2_grow_83 : decode cX2_grow 83 = .ok (.iinc 2 1, 3) := by decide +kernel
theorem dX2_grow_86 : decode cX2_grow 86 = .ok (.goto (-82), 3) := by decide +kernel
theorem dX2_grow_89 : decode cX2_grow 89 = .ok (.iload_n 1, 1) := by decide +kernel
theorem dX2_grow_90 : decode cX2_grow 90 = .ok (.ireturn, 1) := by decide +kernel
set_option maxRecDepth 20000 in
theorem ggX3_init_X1_init : GoodIn wsX3_init wsX1_init := goodIn_r _ [17, 18, 2, 3, 19, 20, 21, 22, 23, 24, 25, 34, 35, 36, 37, 38, 39] (by decide +kernel) (by decide +kernel)
set_option maxRecDepth 20000 in
theorem gX3_init_X1_init : GoodIn wsX3_init (wsX1_init) := ggX3_init_X1_init
set_option maxRecDepth 20000 in
theorem ggX3_init_X5_init : GoodIn wsX3_init wsX5_init := goodIn_r _ [28, 29, 2, 3, 30, 19, 31, 32, 33, 45, 46, 47, 48] (by decide +kernel) (by decide +kernel)
set_option maxRecDepth 20000 in
theorem gX3_init_X5_init : GoodIn wsX3_init (wsX5_init) := ggX3_init_X5_init
theorem dX3_init_0 : decode cX3_init 0 = .ok (.aload_n 0, 1) := by decide +kernel
theorem dX3_init_1 : decode cX3_init 1 = .ok (.invokespecial 3, 3) := by decide +kernel
theorem dX3_init_4 : decode cX3_init 4 = .ok (.new 9, 3) := by decide +kernel
theorem dX3_init_7 : decode cX3_init 7 = .ok (.dup, 1) := by decide +kernel
theorem dX3_init_8 : decode cX3_init 8 = .ok (.invokespecial 11, 3) := by decide +kernel
theorem dX3_init_11 : decode cX3_init 11 = .ok (.astore_n 2, 1) := by decide +kernel
theorem dX3_init_12 : decode cX3_init 12 = .ok (.aload_n 0, 1) := by decide +kernel
theorem dX3_init_13 : decode cX3_init 13 = .ok (.aload_n 1, 1) := by decide +kernel
