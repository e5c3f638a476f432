set_option maxRecDepth 20000 in
theorem gX8_does_X8_shifts : GoodIn wsX8_does (wsV RX8 97 RX8 yX8_shifts wsX8_shifts) := goodIn_app (goodIn_of _ (by decide +kernel)) ggX8_does_X8_shifts
set_option maxRecDepth 20000 in
theorem ggX8_does_X8_paint : GoodIn wsX8_does wsX8_paint := goodIn_r _ [24, 25, 26, 27, 4, 28, 10, 29, 30, 31, 32, 33, 34, 6, 7, 8, 9, 51, 52, 53, 54, 55, 56, 57, 58, 59, 60, 61, 62, 63, 64, 65, 66, 67, 68, 69] (by decide +kernel) (by decide +kernel)
set_option maxRecDepth 20000 in
theorem gX8_does_X8_paint : GoodIn wsX8_does (wsV RX8 69 RX8 yX8_paint wsX8_paint) := goodIn_app (goodIn_of _ (by decide +kernel)) ggX8_does_X8_paint
set_option maxRecDepth 20000 in
theorem ggX8_does_X8_isReached : GoodIn wsX8_does wsX8_isReached := goodIn_r _ [38, 10, 39, 40, 41, 4, 42, 43, 44, 45, 46, 30, 6, 7, 8, 9, 47, 48, 49, 50, 51, 52, 53, 54, 55, 56, 57, 58, 59, 60, 61, 62, 63, 64, 65, 66, 67, 68, 69] (by decide +kernel) (by decide +kernel)
set_option maxRecDepth 20000 in
theorem gX8_does_X8_isReached : GoodIn wsX8_does (wsV RX8 107 RX8 yX8_isReached wsX8_isReached) := goodIn_app (goodIn_of _ (by decide +kernel)) ggX8_does_X8_isReached
theorem dX8_does_0 : decode cX8_does 0 = .ok (.aload_n 0, 1) := by decide +kernel
theorem dX8_does_1 : decode cX8_does 1 = .ok (.iload_n 1, 1) := by decide +kernel
theorem dX8_does_2 : decode cX8_does 2 = .ok (.iload_n 2, 1) := by decide +kernel
theorem dX8_does_3 : decode cX8_does 3 = .ok (.iload_n 3, 1) := by decide +kernel
theorem dX8_does_4 : decode cX8_does 4 = .ok (.invokevirtual 94, 3) := by decide +kernel
theorem dX8_does_7 : decode cX8_does 7 = .ok (.ifCond .ne 5, 3) := by decide +kernel
theorem dX8_does_10 : decode cX8_does 10 = .ok (.iconst 0, 1) := by decide +kernel
theorem dX8_does_11 : decode cX8_does 11 = .ok (.ireturn, 1) := by decide +kernel
theorem dX8_does_12 : decode cX8_does 12 = .ok (.aload_n 0, 1) := by decide +kernel
theorem dX8_does_13 : decode cX8_does 13 = .ok (.iload_n 1, 1) := by decide +kernel
theorem dX8_does_14 : decode cX8_does 14 = .ok (.iload_n 2, 1) := by decide +kernel
theorem dX8_does_15 : decode cX8_does 15 = .ok (.iload_n 3, 1) := by decide +kernel
theorem dX8_does_16 : decode cX8_does 16 = .ok (.invokevirtual 97, 3) := by decide +kernel
theorem dX8_does_19 : decode cX8_does 19 = .ok (.aload_n 0, 1) := by decide +kernel
theorem dX8_does_20 : decode cX8_does 20 = .ok (.invokevirtual 69, 3) := by decide +kernel
theorem dX8_does_23 : decode cX8_does 23 = .ok (.aload_n 0, 1) := by decide +kernel
theorem dX8_does_24 : decode cX8_does 24 = .ok (.iload_n 1, 1) := by decide +kernel
theorem dX8_does_25 : decode cX8_does 25 = .ok (.iload 4, 2) := by decide +kernel
theorem dX8_does_27 : decode cX8_does 27 = .ok (.iload 5, 2) := by decide +kernel
theorem dX8_does_29 : decode cX8_does 29 = .ok (.invokevirtual 107, 3) := by decide +kernel
theorem dX8_does_32 : decode cX8_does 32 = .ok (.istore 6, 2) := by decide +kernel
theorem dX8_does_34 : decode cX8_does 34 = .ok (.aload_n 0, 1) := by decide +kernel
theorem dX8_does_35 : decode cX8_does 35 = .ok (.iload_n 1, 1) := by decide +kernel
theorem dX8_does_36 : decode cX8_does 36 = .ok (.iload_n 2, 1) := by decide +kernel
theorem dX8_does_37 : decode cX8_does 37 = .ok (.ineg, 1) := by decide +kernel
theorem dX8_does_38 : decode cX8_does 38 = .ok (.iload_n 3, 1) := by decide +kernel
theorem dX8_does_39 : decode cX8_does 39 = .ok (.ineg, 1) := by decide +kernel
theorem dX8_does_40 : decode cX8_does 40 = .ok (.invokevirtual 97, 3) := by decide +kernel
theorem dX8_does_43 : decode cX8_does 43 = .ok (.iload 6, 2) := by decide +kernel
theorem dX8_does_45 : decode cX8_does 45 = .ok (.ireturn, 1) := by decide +kernel
set_option maxRecDepth 20000 in
theorem ggX8_findLeast_X8_paint : GoodIn wsX8_findLeast wsX8_paint := goodIn_r _ [7, 8, 9, 10, 6, 11, 12, 13, 14, 15, 16, 17, 18, 19, 20, 21, 22, 60, 61, 62, 63, 64, 65, 66, 67, 68, 69, 70, 71, 72, 73, 74, 75, 76, 77, 78] (by decide +kernel) (by decide +kernel)
set_option maxRecDepth 20000 in
theorem gX8_findLeast_X8_paint : GoodIn wsX8_findLeast (wsV RX8 69 RX8 yX8_paint wsX8_paint) := goodIn_app (goodIn_of _ (by decide +kernel)) ggX8_findLeast_X8_paint
set_option maxRecDepth 20000 in
theorem ggX8_findLeast_X8_contents : GoodIn wsX8_findLeast wsX8_contents := goodIn_r _ [26, 12, 27, 28, 29, 6, 30, 14, 19, 20, 21, 22, 31, 32, 33, 34, 60, 61, 62, 63, 64, 65, 66, 67, 68, 69, 70, 71, 72, 73, 74, 75, 76, 77, 78] (by decide +kernel) (by decide +kernel)
set_option maxRecDepth 20000 in
theorem gX8_findLeast_X8_contents : GoodIn wsX8_findLeast (wsV RX8 72 RX8 yX8_contents wsX8_contents) := goodIn_app (goodIn_of _ (by decide +kernel)) ggX8_findLeast_X8_contents
set_option maxRecDepth 20000 in
theorem ggX8_findLeast_X8_size : GoodIn wsX8_findLeast wsX8_size := goodIn_r _ [37] (by decide +kernel) (by decide +kernel)
set_option maxRecDepth 20000 in
theorem gX8_findLeast_X8_size : GoodIn wsX8_findLeast (va_wsS RX8 101 yX8_size wsX8_size) := goodIn_app (goodIn_of _ (by decide +kernel)) ggX8_findLeast_X8_size
set_option maxRecDepth 20000 in
theorem ggX8_findLeast_X8_does : GoodIn wsX8_findLeast wsX8_does := goodIn_r _ [41, 42, 43, 44, 6, 45, 19, 20, 21, 22, 12, 46, 47, 48, 49, 50, 51, 52, 53, 54, 55, 3, 4, 5, 7, 8, 9, 10, 11, 13, 14, 15, 16, 17, 18, 56, 57, 58, 59, 23, 24, 25, 26, 27, 28, 29, 30, 31, 32, 33, 34, 60, 61, 62, 63, 64, 65, 66, 67, 68, 69, 70, 71, 72, 73, 74, 75, 76, 77, 78] (by decide +kernel) (by decide +kernel)
set_option maxRecDepth 20000 in
theorem gX8_findLeast_X8_does : GoodIn wsX8_findLeast (wsV RX8 110 RX8 yX8_does wsX8_does) := goodIn_app (goodIn_of _ (by decide +kernel)) ggX8_findLeast_X8_does
theorem dX8_findLeast_0 : decode cX8_findLeast 0 = .ok (.aload_n 0, 1) := by decide +kernel
theorem dX8_findLeast_1 : decode cX8_findLeast 1 = .ok (.invokevirtual 69, 3) := by decide +kernel
theorem dX8_findLeast_4 : decode cX8_findLeast 4 = .ok (.aload_n 0, 1) := by decide +kernel
theorem dX8_findLeast_5 : decode cX8_findLeast 5 = .ok (.bipush (-109), 2) := by decide +kernel
theorem dX8_findLeast_7 : decode cX8_findLeast 7 = .ok (.invokevirtual 72, 3) := by decide +kernel
theorem dX8_findLeast_10 : decode cX8_findLeast 10 = .ok (.istore_n 3, 1) := by decide +kernel
theorem dX8_findLeast_11 : decode cX8_findLeast 11 = .ok (.iconst 0, 1) := by decide +kernel
theorem dX8_findLeast_12 : decode cX8_findLeast 12 = .ok (.istore 4, 2) := by decide +kernel
theorem dX8_findLeast_14 : decode cX8_findLeast 14 = .ok (.iload 4, 2) := by decide +kernel
theorem dX8_findLeast_16 : decode cX8_findLeast 16 = .ok (.bipush 8, 2) := by decide +kernel
theorem dX8_findLeast_18 : decode cX8_findLeast 18 = .ok (.if_icmp .gt 99, 3) := by decide +kernel
theorem dX8_findLeast_21 : decode cX8_findLeast 21 = .ok (.iload 4, 2) := by decide +kernel
theorem dX8_findLeast_23 : decode cX8_findLeast 23 = .ok (.ineg, 1) := by decide +kernel
theorem dX8_findLeast_24 : decode cX8_findLeast 24 = .ok (.istore 5, 2) := by decide +kernel
theorem dX8_findLeast_26 : decode cX8_findLeast 26 = .ok (.iload 5, 2) := by decide +kernel
theorem dX8_findLeast_28 : decode cX8_findLeast 28 = .ok (.iload 4, 2) := by decide +kernel
theorem dX8_findLeast_30 : decode cX8_findLeast 30 = .ok (.if_icmp .gt 81, 3) := by decide +kernel
theorem dX8_findLeast_33 : decode cX8_findLeast 33 = .ok (.iload 4, 2) := by decide +kernel
theorem dX8_findLeast_35 : decode cX8_findLeast 35 = .ok (.iload 5, 2) := by decide +kernel
theorem dX8_findLeast_37 : decode cX8_findLeast 37 = .ok (.invokestatic 101, 3) := by decide +kernel
theorem dX8_findLeast_40 : decode cX8_findLeast 40 = .ok (.isub, 1) := by decide +kernel
theorem dX8_findLeast_41 : decode cX8_findLeast 41 = .ok (.istore 6, 2) := by decide +kernel
theorem dX8_findLeast_43 : decode cX8_findLeast 43 = .ok (.iload 6, 2) := by decide +kernel
theorem dX8_findLeast_45 : decode cX8_findLeast 45 = .ok (.ineg, 1) := by decide +kernel
theorem dX8_findLeast_46 : decode cX8_findLeast 46 = .ok (.istore 7, 2) := by decide +kernel
theorem dX8_findLeast_48 : decode cX8_findLeast 48 = .ok (.iload 7, 2) := by decide +kernel
theorem dX8_findLeast_50 : decode cX8_findLeast 50 = .ok (.iload 6, 2) := by decide +kernel
theorem dX8_findLeast_52 : decode cX8_findLeast 52 = .ok (.if_icmp .gt 53, 3) := by decide +kernel
theorem dX8_findLeast_55 : decode cX8_findLeast 55 = .ok (.aload_n 0, 1) := by decide +kernel
theorem dX8_findLeast_56 : decode cX8_findLeast 56 = .ok (.iload_n 1, 1) := by decide +kernel
theorem dX8_findLeast_57 : decode cX8_findLeast 57 = .ok (.iload 5, 2) := by decide +kernel
theorem dX8_findLeast_59 : decode cX8_findLeast 59 = .ok (.iload 7, 2) := by decide +kernel
theorem dX8_findLeast_61 : decode cX8_findLeast 61 = .ok (.iload_n 2, 1) := by decide +kernel
theorem dX8_findLeast_62 : decode cX8_findLeast 62 = .ok (.iload_n 3, 1) := by decide +kernel
theorem dX8_findLeast_63 : decode cX8_findLeast 63 = .ok (.invokevirtual 110, 3) := by decide +kernel
theorem dX8_findLeast_66 : decode cX8_findLeast 66 = .ok (.ifCond .eq 18, 3) := by decide +kernel
theorem dX8_findLeast_69 : decode cX8_findLeast 69 = .ok (.aload_n 0, 1) := by decide +kernel
theorem dX8_findLeast_70 : decode cX8_findLeast 70 = .ok (.iload 5, 2) := by decide +kernel
theorem dX8_findLeast_72 : decode cX8_findLeast 72 = .ok (.putfield 114, 3) := by decide +kernel
theorem dX8_findLeast_75 : decode cX8_findLeast 75 = .ok (.aload_n 0, 1) := by decide +kernel
theorem dX8_findLeast_76 : decode cX8_findLeast 76 = .ok (.iload 7, 2) := by decide +kernel
theorem dX8_findLeast_78 : decode cX8_findLeast 78 = .ok (.putfield 117, 3) := by decide +kernel
theorem dX8_findLeast_81 : decode cX8_findLeast 81 = .ok (.iload 4, 2) := by decide +kernel
theorem dX8_findLeast_83 : decode cX8_findLeast 83 = .ok (.ireturn, 1) := by decide +kernel
theorem dX8_findLeast_84 : decode cX8_findLeast 84 = .ok (.iload 7, 2) := by decide +kernel
theorem dX8_findLeast_86 : decode cX8_findLeast 86 = .ok (.iload 6, 2) := by decide +kernel
theorem dX8_findLeast_88 : decode cX8_findLeast 88 = .ok (.ifCond .ne 7, 3) := by decide +kernel
theorem dX8_findLeast_91 : decode cX8_findLeast 91 = .ok (.iconst 1, 1) := by decide +kernel
theorem dX8_findLeast_92 : decode cX8_findLeast 92 = .ok (.goto 7, 3) := by decide +kernel
theorem dX8_findLeast_95 : decode cX8_findLeast 95 = .ok (.iconst 2, 1) := by decide +kernel
theorem dX8_findLeast_96 : decode cX8_findLeast 96 = .ok (.iload 6, 2) := by decide +kernel
theorem dX8_findLeast_98 : decode cX8_findLeast 98 = .ok (.imul, 1) := by decide +kernel
theorem dX8_findLeast_99 : decode cX8_findLeast 99 = .ok (.iadd, 1) := by decide +kernel
theorem dX8_findLeast_100 : decode cX8_findLeast 100 = .ok (.istore 7, 2) := by decide +kernel
theorem dX8_findLeast_102 : decode cX8_findLeast 102 = .ok (.goto (-54), 3) := by decide +kernel
theorem dX8_findLeast_105 : decode cX8_findLeast 105 = .ok (.iinc 5 1, 3) := by decide +kernel
theorem dX8_findLeast_108 : decode cX8_findLeast 108 = .ok (.goto (-82), 3) := by decide +kernel
theorem dX8_findLeast_111 : decode cX8_findLeast 111 = .ok (.iinc 4 1, 3) := by decide +kernel
theorem dX8_findLeast_114 : decode cX8_findLeast 114 = .ok (.goto (-100), 3) := by decide +kernel
theorem dX8_findLeast_117 : decode cX8_findLeast 117 = .ok (.bipush (-109), 2) := by decide +kernel
theorem dX8_findLeast_119 : decode cX8_findLeast 119 = .ok (.ireturn, 1) := by decide +kernel
set_option maxRecDepth 20000 in
theorem ggX8_arranges_X8_paint : GoodIn wsX8_arranges wsX8_paint := goodIn_r _ [8, 9, 10, 11, 7, 12, 1, 13, 14, 15, 16, 17, 18, 19, 20, 21, 22, 64, 65, 66, 67, 68, 69, 70, 71, 72, 73, 74, 75, 76, 77, 78, 79, 80, 81, 82] (by decide +kernel) (by decide +kernel)
set_option maxRecDepth 20000 in
theorem gX8_arranges_X8_paint : GoodIn wsX8_arranges (wsV RX8 69 RX8 yX8_paint wsX8_paint) := goodIn_app (goodIn_of _ (by decide +kernel)) ggX8_arranges_X8_paint
set_option maxRecDepth 20000 in
theorem ggX8_arranges_X8_isContent : GoodIn wsX8_arranges wsX8_isContent := goodIn_r _ [26, 14, 19, 20, 21, 7, 22, 1, 27, 28, 29, 30, 64, 65, 66, 67, 68, 69, 70, 71, 72, 73, 74, 75, 76, 77, 78, 79, 80, 81, 82] (by decide +kernel) (by decide +kernel)
set_option maxRecDepth 20000 in
theorem gX8_arranges_X8_isContent : GoodIn wsX8_arranges (wsV RX8 61 RX8 yX8_isContent wsX8_isContent) := goodIn_app (goodIn_of _ (by decide +kernel)) ggX8_arranges_X8_isContent
set_option maxRecDepth 20000 in
theorem ggX8_arranges_X8_findLeast : GoodIn wsX8_arranges wsX8_findLeast := goodIn_r _ [34, 2, 3, 4, 5, 6, 7, 8, 9, 10, 11, 12, 1, 13, 14, 15, 16, 17, 18, 19, 20, 21, 22, 35, 36, 37, 38, 23, 24, 25, 26, 27, 28, 29, 30, 39, 40, 41, 42, 43, 44, 45, 46, 47, 48, 49, 50, 51, 52, 53, 54, 55, 56, 57, 58, 59, 60, 61, 62, 63, 64, 65, 66, 67, 68, 69, 70, 71, 72, 73, 74, 75, 76, 77, 78, 79, 80, 81, 82] (by decide +kernel) (by decide +kernel)
set_option maxRecDepth 20000 in
theorem gX8_arranges_X8_findLeast : GoodIn wsX8_arranges (wsV RX8 120 RX8 yX8_findLeast wsX8_findLeast) := goodIn_app (goodIn_of _ (by decide +kernel)) ggX8_arranges_X8_findLeast
set_option maxRecDepth 20000 in
theorem ggX8_arranges_X8_shifts : GoodIn wsX8_arranges wsX8_shifts := goodIn_r _ [59, 1, 64, 65, 66, 67, 68, 69, 70, 71, 72, 73, 74, 75, 76, 77, 78, 79, 80, 81, 82] (by decide +kernel) (by decide +kernel)
set_option maxRecDepth 20000 in
theorem gX8_arranges_X8_shifts : GoodIn wsX8_arranges (wsV RX8 97 RX8 yX8_shifts wsX8_shifts) := goodIn_app (goodIn_of _ (by decide +kernel)) ggX8_arranges_X8_shifts
theorem dX8_arranges_0 : decode cX8_arranges 0 = .ok (.bipush (-109), 2) := by decide +kernel
theorem dX8_arranges_2 : decode cX8_arranges 2 = .ok (.istore_n 1, 1) := by decide +kernel
theorem dX8_arranges_3 : decode cX8_arranges 3 = .ok (.bipush 9, 2) := by decide +kernel
theorem dX8_arranges_5 : decode cX8_arranges 5 = .ok (.istore_n 2, 1) := by decide +kernel
theorem dX8_arranges_6 : decode cX8_arranges 6 = .ok (.iconst 0, 1) := by decide +kernel
theorem dX8_arranges_7 : decode cX8_arranges 7 = .ok (.istore_n 3, 1) := by decide +kernel
theorem dX8_arranges_8 : decode cX8_arranges 8 = .ok (.iconst 0, 1) := by decide +kernel
theorem dX8_arranges_9 : decode cX8_arranges 9 = .ok (.istore 4, 2) := by decide +kernel
theorem dX8_arranges_11 : decode cX8_arranges 11 = .ok (.iconst 0, 1) := by decide +kernel
theorem dX8_arranges_12 : decode cX8_arranges 12 = .ok (.istore 5, 2) := by decide +kernel
theorem dX8_arranges_14 : decode cX8_arranges 14 = .ok (.iload 5, 2) := by decide +kernel
theorem dX8_arranges_16 : decode cX8_arranges 16 = .ok (.aload_n 0, 1) := by decide +kernel
theorem dX8_arranges_17 : decode cX8_arranges 17 = .ok (.getfield 7, 3) := by decide +kernel
theorem dX8_arranges_20 : decode cX8_arranges 20 = .ok (.iconst 2, 1) := by decide +kernel
theorem dX8_arranges_21 : decode cX8_arranges 21 = .ok (.iaload, 1) := by decide +kernel
theorem dX8_arranges_22 : decode cX8_arranges 22 = .ok (.if_icmp .ge 66, 3) := by decide +kernel
theorem dX8_arranges_25 : decode cX8_arranges 25 = .ok (.aload_n 0, 1) := by decide +kernel
theorem dX8_arranges_26 : decode cX8_arranges 26 = .ok (.invokevirtual 69, 3) := by decide +kernel
theorem dX8_arranges_29 : decode cX8_arranges 29 = .ok (.aload_n 0, 1) := by decide +kernel
theorem dX8_arranges_30 : decode cX8_arranges 30 = .ok (.iload 5, 2) := by decide +kernel
theorem dX8_arranges_32 : decode cX8_arranges 32 = .ok (.invokevirtual 61, 3) := by decide +kernel
theorem dX8_arranges_35 : decode cX8_arranges 35 = .ok (.ifCond .eq 8, 3) := by decide +kernel
theorem dX8_arranges_38 : decode cX8_arranges 38 = .ok (.bipush (-109), 2) := by decide +kernel
theorem dX8_arranges_40 : decode cX8_arranges 40 = .ok (.goto 10, 3) := by decide +kernel
theorem dX8_arranges_43 : decode cX8_arranges 43 = .ok (.aload_n 0, 1) := by decide +kernel
theorem dX8_arranges_44 : decode cX8_arranges 44 = .ok (.iload 5, 2) := by decide +kernel
theorem dX8_arranges_46 : decode cX8_arranges 46 = .ok (.iconst 1, 1) := by decide +kernel
theorem dX8_arranges_47 : decode cX8_arranges 47 = .ok (.invokevirtual 120, 3) := by decide +kernel
theorem dX8_arranges_50 : decode cX8_arranges 50 = .ok (.istore 6, 2) := by decide +kernel
theorem dX8_arranges_52 : decode cX8_arranges 52 = .ok (.iload 6, 2) := by decide +kernel
theorem dX8_arranges_54 : decode cX8_arranges 54 = .ok (.bipush (-109), 2) := by decide +kernel
theorem dX8_arranges_56 : decode cX8_arranges 56 = .ok (.if_icmp .eq 26, 3) := by decide +kernel
theorem dX8_arranges_59 : decode cX8_arranges 59 = .ok (.iload 6, 2) := by decide +kernel
theorem dX8_arranges_61 : decode cX8_arranges 61 = .ok (.iload_n 2, 1) := by decide +kernel
theorem dX8_arranges_62 : decode cX8_arranges 62 = .ok (.if_icmp .ge 20, 3) := by decide +kernel
theorem dX8_arranges_65 : decode cX8_arranges 65 = .ok (.iload 5, 2) := by decide +kernel
theorem dX8_arranges_67 : decode cX8_arranges 67 = .ok (.istore_n 1, 1) := by decide +kernel
theorem dX8_arranges_68 : decode cX8_arranges 68 = .ok (.iload 6, 2) := by decide +kernel
theorem dX8_arranges_70 : decode cX8_arranges 70 = .ok (.istore_n 2, 1) := by decide +kernel
theorem dX8_arranges_71 : decode cX8_arranges 71 = .ok (.aload_n 0, 1) := by decide +kernel
theorem dX8_arranges_72 : decode cX8_arranges 72 = .ok (.getfield 114, 3) := by decide +kernel
theorem dX8_arranges_75 : decode cX8_arranges 75 = .ok (.istore_n 3, 1) := by decide +kernel
theorem dX8_arranges_76 : decode cX8_arranges 76 = .ok (.aload_n 0, 1) := by decide +kernel
theorem dX8_arranges_77 : decode cX8_arranges 77 = .ok (.getfield 117, 3) := by decide +kernel
theorem dX8_arranges_80 : decode cX8_arranges 80 = .ok (.istore 4, 2) := by decide +kernel
theorem dX8_arranges_82 : decode cX8_arranges 82 = .ok (.iinc 5 1, 3) := by decide +kernel
theorem dX8_arranges_85 : decode cX8_arranges 85 = .ok (.goto (-71), 3) := by decide +kernel
theorem dX8_arranges_88 : decode cX8_arranges 88 = .ok (.iload_n 1, 1) := by decide +kernel
theorem dX8_arranges_89 : decode cX8_arranges 89 = .ok (.bipush (-109), 2) := by decide +kernel
theorem dX8_arranges_91 : decode cX8_arranges 91 = .ok (.if_icmp .eq 21, 3) := by decide +kernel
theorem dX8_arranges_94 : decode cX8_arranges 94 = .ok (.aload_n 0, 1) := by decide +kernel
theorem dX8_arranges_95 : decode cX8_arranges 95 = .ok (.iload_n 1, 1) := by decide +kernel
theorem dX8_arranges_96 : decode cX8_arranges 96 = .ok (.iload_n 3, 1) := by decide +kernel
theorem dX8_arranges_97 : decode cX8_arranges 97 = .ok (.iload 4, 2) := by decide +kernel
theorem dX8_arranges_99 : decode cX8_arranges 99 = .ok (.invokevirtual 97, 3) := by decide +kernel
theorem dX8_arranges_102 : decode cX8_arranges 102 = .ok (.aload_n 0, 1) := by decide +kernel
theorem dX8_arranges_103 : decode cX8_arranges 103 = .ok (.getfield 7, 3) := by decide +kernel
theorem dX8_arranges_106 : decode cX8_arranges 106 = .ok (.iconst 3, 1) := by decide +kernel
theorem dX8_arranges_107 : decode cX8_arranges 107 = .ok (.dup2, 1) := by decide +kernel
theorem dX8_arranges_108 : decode cX8_arranges 108 = .ok (.iaload, 1) := by decide +kernel
theorem dX8_arranges_109 : decode cX8_arranges 109 = .ok (.iload_n 2, 1) := by decide +kernel
theorem dX8_arranges_110 : decode cX8_arranges 110 = .ok (.iadd, 1) := by decide +kernel
theorem dX8_arranges_111 : decode cX8_arranges 111 = .ok (.iastore, 1) := by decide +kernel
theorem dX8_arranges_112 : decode cX8_arranges 112 = .ok (.iload_n 1, 1) := by decide +kernel
theorem dX8_arranges_113 : decode cX8_arranges 113 = .ok (.bipush (-109), 2) := by decide +kernel
theorem dX8_arranges_115 : decode cX8_arranges 115 = .ok (.if_icmp .eq 7, 3) := by decide +kernel
theorem dX8_arranges_118 : decode cX8_arranges 118 = .ok (.iconst 1, 1) := by decide +kernel
theorem dX8_arranges_119 : decode cX8_arranges 119 = .ok (.goto 4, 3) := by decide +kernel
theorem dX8_arranges_122 : decode cX8_arranges 122 = .ok (.iconst 0, 1) := by decide +kernel
theorem dX8_arranges_123 : decode cX8_arranges 123 = .ok (.ireturn, 1) := by decide +kernel
set_option maxRecDepth 20000 in
theorem ggX8_arrange_X8_paint : GoodIn wsX8_arrange wsX8_paint := goodIn_r _ [6, 7, 8, 9, 5, 10, 1, 11, 12, 13, 14, 15, 16, 17, 18, 19, 20, 74, 75, 76, 77, 78, 79, 80, 81, 82, 83, 84, 85, 86, 87, 88, 89, 90, 91, 92] (by decide +kernel) (by decide +kernel)
set_option maxRecDepth 20000 in
theorem gX8_arrange_X8_paint : GoodIn wsX8_arrange (wsV RX8 69 RX8 yX8_paint wsX8_paint) := goodIn_app (goodIn_of _ (by decide +kernel)) ggX8_arrange_X8_paint
set_option maxRecDepth 20000 in
theorem ggX8_arrange_X8_contents : GoodIn wsX8_arrange wsX8_contents := goodIn_r _ [24, 1, 25, 26, 27, 5, 28, 12, 17, 18, 19, 20, 29, 30, 31, 32, 74, 75, 76, 77, 78, 79, 80, 81, 82, 83, 84, 85, 86, 87, 88, 89, 90, 91, 92] (by decide +kernel) (by decide +kernel)
set_option maxRecDepth 20000 in
theorem gX8_arrange_X8_contents : GoodIn wsX8_arrange (wsV RX8 72 RX8 yX8_contents wsX8_contents) := goodIn_app (goodIn_of _ (by decide +kernel)) ggX8_arrange_X8_contents
set_option maxRecDepth 20000 in
theorem ggX8_arrange_X8_record : GoodIn wsX8_arrange wsX8_record := goodIn_r _ [36, 37, 38, 74, 75, 76, 77, 78, 79, 80, 81, 82, 83, 84, 85, 86, 87, 88, 89, 90, 91, 92] (by decide +kernel) (by decide +kernel)
set_option maxRecDepth 20000 in
theorem gX8_arrange_X8_record : GoodIn wsX8_arrange (wsV RX8 65 RX8 yX8_record wsX8_record) := goodIn_app (goodIn_of _ (by decide +kernel)) ggX8_arrange_X8_record
set_option maxRecDepth 20000 in
theorem ggX8_arrange_X8_arranges : GoodIn wsX8_arrange wsX8_arranges := goodIn_r _ [42, 1, 43, 44, 2, 3, 4, 5, 6, 7, 8, 9, 10, 11, 12, 13, 14, 15, 16, 17, 18, 19, 20, 25, 26, 27, 28, 29, 30, 31, 32, 45, 46, 47, 48, 21, 22, 23, 24, 49, 50, 51, 52, 53, 54, 55, 56, 57, 58, 59, 60, 61, 62, 63, 64, 65, 66, 67, 68, 69, 70, 71, 72, 73, 74, 75, 76, 77, 78, 79, 80, 81, 82, 83, 84, 85, 86, 87, 88, 89, 90, 91, 92] (by decide +kernel) (by decide +kernel)
set_option maxRecDepth 20000 in
theorem gX8_arrange_X8_arranges : GoodIn wsX8_arrange (wsV RX8 123 RX8 yX8_arranges wsX8_arranges) := goodIn_app (goodIn_of _ (by decide +kernel)) ggX8_arrange_X8_arranges
theorem dX8_arrange_0 : decode cX8_arrange 0 = .ok (.aload_n 0, 1) := by decide +kernel
theorem dX8_arrange_1 : decode cX8_arrange 1 = .ok (.invokevirtual 69, 3) := by decide +kernel
theorem dX8_arrange_4 : decode cX8_arrange 4 = .ok (.aload_n 0, 1) := by decide +kernel
theorem dX8_arrange_5 : decode cX8_arrange 5 = .ok (.bipush (-109), 2) := by decide +kernel
theorem dX8_arrange_7 : decode cX8_arrange 7 = .ok (.invokevirtual 72, 3) := by decide +kernel
theorem dX8_arrange_10 : decode cX8_arrange 10 = .ok (.aload_n 0, 1) := by decide +kernel
theorem dX8_arrange_11 : decode cX8_arrange 11 = .ok (.getfield 7, 3) := by decide +kernel
theorem dX8_arrange_14 : decode cX8_arrange 14 = .ok (.iconst 2, 1) := by decide +kernel
theorem dX8_arrange_15 : decode cX8_arrange 15 = .ok (.iaload, 1) := by decide +kernel
theorem dX8_arrange_16 : decode cX8_arrange 16 = .ok (.if_icmp .ne 6, 3) := by decide +kernel
theorem dX8_arrange_19 : decode cX8_arrange 19 = .ok (.bipush (-102), 2) := by decide +kernel
theorem dX8_arrange_21 : decode cX8_arrange 21 = .ok (.ireturn, 1) := by decide +kernel
theorem dX8_arrange_22 : decode cX8_arrange 22 = .ok (.aload_n 0, 1) := by decide +kernel
theorem dX8_arrange_23 : decode cX8_arrange 23 = .ok (.aload_n 0, 1) := by decide +kernel
theorem dX8_arrange_24 : decode cX8_arrange 24 = .ok (.getfield 7, 3) := by decide +kernel
theorem dX8_arrange_27 : decode cX8_arrange 27 = .ok (.invokevirtual 65, 3) := by decide +kernel
theorem dX8_arrange_30 : decode cX8_arrange 30 = .ok (.iconst 0, 1) := by decide +kernel
theorem dX8_arrange_31 : decode cX8_arrange 31 = .ok (.istore_n 1, 1) := by decide +kernel
theorem dX8_arrange_32 : decode cX8_arrange 32 = .ok (.iconst 1, 1) := by decide +kernel
theorem dX8_arrange_33 : decode cX8_arrange 33 = .ok (.istore_n 2, 1) := by decide +kernel
theorem dX8_arrange_34 : decode cX8_arrange 34 = .ok (.iload_n 2, 1) := by decide +kernel
theorem dX8_arrange_35 : decode cX8_arrange 35 = .ok (.ifCond .eq 58, 3) := by decide +kernel
theorem dX8_arrange_38 : decode cX8_arrange 38 = .ok (.iload_n 1, 1) := by decide +kernel
theorem dX8_arrange_39 : decode cX8_arrange 39 = .ok (.bipush 12, 2) := by decide +kernel
theorem dX8_arrange_41 : decode cX8_arrange 41 = .ok (.if_icmp .ge 52, 3) := by decide +kernel
theorem dX8_arrange_44 : decode cX8_arrange 44 = .ok (.aload_n 0, 1) := by decide +kernel
theorem dX8_arrange_45 : decode cX8_arrange 45 = .ok (.invokevirtual 123, 3) := by decide +kernel
theorem dX8_arrange_48 : decode cX8_arrange 48 = .ok (.istore_n 2, 1) := by decide +kernel
theorem dX8_arrange_49 : decode cX8_arrange 49 = .ok (.iload_n 1, 1) := by decide +kernel
theorem dX8_arrange_50 : decode cX8_arrange 50 = .ok (.iload_n 2, 1) := by decide +kernel
theorem dX8_arrange_51 : decode cX8_arrange 51 = .ok (.ifCond .eq 7, 3) := by decide +kernel
theorem dX8_arrange_54 : decode cX8_arrange 54 = .ok (.iconst 1, 1) := by decide +kernel
theorem dX8_arrange_55 : decode cX8_arrange 55 = .ok (.goto 4, 3) := by decide +kernel
theorem dX8_arrange_58 : decode cX8_arrange 58 = .ok (.iconst 0, 1) := by decide +kernel
theorem dX8_arrange_59 : decode cX8_arrange 59 = .ok (.iadd, 1) := by decide +kernel
theorem dX8_arrange_60 : decode cX8_arrange 60 = .ok (.istore_n 1, 1) := by decide +kernel
theorem dX8_arrange_61 : decode cX8_arrange 61 = .ok (.aload_n 0, 1) := by decide +kernel
theorem dX8_arrange_62 : decode cX8_arrange 62 = .ok (.invokevirtual 69, 3) := by decide +kernel
theorem dX8_arrange_65 : decode cX8_arrange 65 = .ok (.iload_n 2, 1) := by decide +kernel
theorem dX8_arrange_66 : decode cX8_arrange 66 = .ok (.ifCond .eq 22, 3) := by decide +kernel
theorem dX8_arrange_69 : decode cX8_arrange 69 = .ok (.aload_n 0, 1) := by decide +kernel
theorem dX8_arrange_70 : decode cX8_arrange 70 = .ok (.bipush (-109), 2) := by decide +kernel
theorem dX8_arrange_72 : decode cX8_arrange 72 = .ok (.invokevirtual 72, 3) := by decide +kernel
theorem dX8_arrange_75 : decode cX8_arrange 75 = .ok (.aload_n 0, 1) := by decide +kernel
theorem dX8_arrange_76 : decode cX8_arrange 76 = .ok (.getfield 7, 3) := by decide +kernel
theorem dX8_arrange_79 : decode cX8_arrange 79 = .ok (.iconst 2, 1) := by decide +kernel
theorem dX8_arrange_80 : decode cX8_arrange 80 = .ok (.iaload, 1) := by decide +kernel
theorem dX8_arrange_81 : decode cX8_arrange 81 = .ok (.if_icmp .ge 7, 3) := by decide +kernel
theorem dX8_arrange_84 : decode cX8_arrange 84 = .ok (.iconst 1, 1) := by decide +kernel
theorem dX8_arrange_85 : decode cX8_arrange 85 = .ok (.goto 4, 3) := by decide +kernel
theorem dX8_arrange_88 : decode cX8_arrange 88 = .ok (.iconst 0, 1) := by decide +kernel
theorem dX8_arrange_89 : decode cX8_arrange 89 = .ok (.istore_n 2, 1) := by decide +kernel
theorem dX8_arrange_90 : decode cX8_arrange 90 = .ok (.goto (-56), 3) := by decide +kernel
theorem dX8_arrange_93 : decode cX8_arrange 93 = .ok (.iload_n 1, 1) := by decide +kernel
theorem dX8_arrange_94 : decode cX8_arrange 94 = .ok (.ireturn, 1) := by decide +kernel
set_option maxRecDepth 20000 in
theorem ggX8_append_X8_in : GoodIn wsX8_append wsX8_in := goodIn_r _ [6] (by decide +kernel) (by decide +kernel)
set_option maxRecDepth 20000 in
theorem gX8_append_X8_in : GoodIn wsX8_append (va_wsS RX8 42 yX8_in wsX8_in) := goodIn_app (goodIn_of _ (by decide +kernel)) ggX8_append_X8_in
theorem dX8_append_0 : decode cX8_append 0 = .ok (.iload_n 1, 1) := by decide +kernel
theorem dX8_append_1 : decode cX8_append 1 = .ok (.iconst 1, 1) := by decide +kernel
theorem dX8_append_2 : decode cX8_append 2 = .ok (.sipush 255, 3) := by decide +kernel
theorem dX8_append_5 : decode cX8_append 5 = .ok (.invokestatic 42, 3) := by decide +kernel
theorem dX8_append_8 : decode cX8_append 8 = .ok (.ifCond .ne 6, 3) := by decide +kernel
theorem dX8_append_11 : decode cX8_append 11 = .ok (.bipush (-101), 2) := by decide +kernel
theorem dX8_append_13 : decode cX8_append 13 = .ok (.ireturn, 1) := by decide +kernel
theorem dX8_append_14 : decode cX8_append 14 = .ok (.aload_n 0, 1) := by decide +kernel
theorem dX8_append_15 : decode cX8_append 15 = .ok (.getfield 127, 3) := by decide +kernel
theorem dX8_append_18 : decode cX8_append 18 = .ok (.bipush 120, 2) := by decide +kernel
theorem dX8_append_20 : decode cX8_append 20 = .ok (.if_icmp .ne 6, 3) := by decide +kernel
theorem dX8_append_23 : decode cX8_append 23 = .ok (.bipush (-103), 2) := by decide +kernel
theorem dX8_append_25 : decode cX8_append 25 = .ok (.ireturn, 1) := by decide +kernel
theorem dX8_append_26 : decode cX8_append 26 = .ok (.aload_n 0, 1) := by decide +kernel
theorem dX8_append_27 : decode cX8_append 27 = .ok (.getfield 16, 3) := by decide +kernel
theorem dX8_append_30 : decode cX8_append 30 = .ok (.aload_n 0, 1) := by decide +kernel
theorem dX8_append_31 : decode cX8_append 31 = .ok (.getfield 127, 3) := by decide +kernel
theorem dX8_append_34 : decode cX8_append 34 = .ok (.iload_n 1, 1) := by decide +kernel
theorem dX8_append_35 : decode cX8_append 35 = .ok (.iastore, 1) := by decide +kernel
theorem dX8_append_36 : decode cX8_append 36 = .ok (.aload_n 0, 1) := by decide +kernel
theorem dX8_append_37 : decode cX8_append 37 = .ok (.dup, 1) := by decide +kernel
theorem dX8_append_38 : decode cX8_append 38 = .ok (.getfield 127, 3) := by decide +kernel
theorem dX8_append_41 : decode cX8_append 41 = .ok (.iconst 1, 1) := by decide +kernel
theorem dX8_append_42 : decode cX8_append 42 = .ok (.iadd, 1) := by decide +kernel
theorem dX8_append_43 : decode cX8_append 43 = .ok (.putfield 127, 3) := by decide +kernel
theorem dX8_append_46 : decode cX8_append 46 = .ok (.aload_n 0, 1) := by decide +kernel
theorem dX8_append_47 : decode cX8_append 47 = .ok (.getfield 127, 3) := by decide +kernel
theorem dX8_append_50 : decode cX8_append 50 = .ok (.ireturn, 1) := by decide +kernel
theorem dX8_clearText_0 : decode cX8_clearText 0 = .ok (.aload_n 0, 1) := by decide +kernel
theorem dX8_clearText_1 : decode cX8_clearText 1 = .ok (.getfield 127, 3) := by decide +kernel
theorem dX8_clearText_4 : decode cX8_clearText 4 = .ok (.istore_n 1, 1) := by decide +kernel
theorem dX8_clearText_5 : decode cX8_clearText 5 = .ok (.aload_n 0, 1) := by decide +kernel
theorem dX8_clearText_6 : decode cX8_clearText 6 = .ok (.iconst 0, 1) := by decide +kernel
theorem dX8_clearText_7 : decode cX8_clearText 7 = .ok (.putfield 127, 3) := by decide +kernel
theorem dX8_clearText_10 : decode cX8_clearText 10 = .ok (.iload_n 1, 1) := by decide +kernel
theorem dX8_clearText_11 : decode cX8_clearText 11 = .ok (.ireturn, 1) := by decide +kernel
theorem dX8_here_0 : decode cX8_here 0 = .ok (.aload_n 0, 1) := by decide +kernel
theorem dX8_here_1 : decode cX8_here 1 = .ok (.getfield 130, 3) := by decide +kernel
theorem dX8_here_4 : decode cX8_here 4 = .ok (.aload_n 0, 1) := by decide +kernel
theorem dX8_here_5 : decode cX8_here 5 = .ok (.getfield 127, 3) := by decide +kernel
theorem dX8_here_8 : decode cX8_here 8 = .ok (.if_icmp .ge 15, 3) := by decide +kernel
theorem dX8_here_11 : decode cX8_here 11 = .ok (.aload_n 0, 1) := by decide +kernel
theorem dX8_here_12 : decode cX8_here 12 = .ok (.getfield 16, 3) := by decide +kernel
theorem dX8_here_15 : decode cX8_here 15 = .ok (.aload_n 0, 1) := by decide +kernel
theorem dX8_here_16 : decode cX8_here 16 = .ok (.getfield 130, 3) := by decide +kernel
theorem dX8_here_19 : decode cX8_here 19 = .ok (.iaload, 1) := by decide +kernel
theorem dX8_here_20 : decode cX8_here 20 = .ok (.goto 4, 3) := by decide +kernel
theorem dX8_here_23 : decode cX8_here 23 = .ok (.iconst 0, 1) := by decide +kernel
theorem dX8_here_24 : decode cX8_here 24 = .ok (.ireturn, 1) := by decide +kernel
set_option maxRecDepth 20000 in
theorem ggX8_isDigit_X8_here : GoodIn wsX8_isDigit wsX8_here := goodIn_r _ [5, 6, 7, 8, 12, 13, 14, 15, 16, 17, 18, 19, 20, 21, 22, 23, 24, 25, 26, 27, 28, 29, 30] (by decide +kernel) (by decide +kernel)
set_option maxRecDepth 20000 in
theorem gX8_isDigit_X8_here : GoodIn wsX8_isDigit (wsV RX8 133 RX8 yX8_here wsX8_here) := goodIn_app (goodIn_of _ (by decide +kernel)) ggX8_isDigit_X8_here
set_option maxRecDepth 20000 in
theorem ggX8_isDigit_X8_in : GoodIn wsX8_isDigit wsX8_in := goodIn_r _ [11] (by decide +kernel) (by decide +kernel)
set_option maxRecDepth 20000 in
theorem gX8_isDigit_X8_in : GoodIn wsX8_isDigit (va_wsS RX8 42 yX8_in wsX8_in) := goodIn_app (goodIn_of _ (by decide +kernel)) ggX8_isDigit_X8_in
theorem dX8_isDigit_0 : decode cX8_isDigit 0 = .ok (.aload_n 0, 1) := by decide +kernel
theorem dX8_isDigit_1 : decode cX8_isDigit 1 = .ok (.invokevirtual 133, 3) := by decide +kernel
theorem dX8_isDigit_4 : decode cX8_isDigit 4 = .ok (.bipush 48, 2) := by decide +kernel
theorem dX8_isDigit_6 : decode cX8_isDigit 6 = .ok (.bipush 57, 2) := by decide +kernel
theorem dX8_isDigit_8 : decode cX8_isDigit 8 = .ok (.invokestatic 42, 3) := by decide +kernel
theorem dX8_isDigit_11 : decode cX8_isDigit 11 = .ok (.ireturn, 1) := by decide +kernel
set_option maxRecDepth 20000 in
theorem ggX8_readWord_X8_here : GoodIn wsX8_readWord wsX8_here := goodIn_r _ [13, 4, 14, 15, 19, 20, 21, 22, 23, 24, 25, 26, 27, 28, 29, 30, 31, 32, 33, 34, 35, 36, 37] (by decide +kernel) (by decide +kernel)
set_option maxRecDepth 20000 in
theorem gX8_readWord_X8_here : GoodIn wsX8_readWord (wsV RX8 133 RX8 yX8_here wsX8_here) := goodIn_app (goodIn_of _ (by decide +kernel)) ggX8_readWord_X8_here
set_option maxRecDepth 20000 in
theorem ggX8_readWord_X8_in : GoodIn wsX8_readWord wsX8_in := goodIn_r _ [18] (by decide +kernel) (by decide +kernel)
set_option maxRecDepth 20000 in
theorem gX8_readWord_X8_in : GoodIn wsX8_readWord (va_wsS RX8 42 yX8_in wsX8_in) := goodIn_app (goodIn_of _ (by decide +kernel)) ggX8_readWord_X8_in
theorem dX8_readWord_0 : decode cX8_readWord 0 = .ok (.lconst 0, 1) := by decide +kernel
theorem dX8_readWord_1 : decode cX8_readWord 1 = .ok (.lstore_n 1, 1) := by decide +kernel
theorem dX8_readWord_2 : decode cX8_readWord 2 = .ok (.aload_n 0, 1) := by decide +kernel
theorem dX8_readWord_3 : decode cX8_readWord 3 = .ok (.invokevirtual 133, 3) := by decide +kernel
theorem dX8_readWord_6 : decode cX8_readWord 6 = .ok (.bipush 97, 2) := by decide +kernel
theorem dX8_readWord_8 : decode cX8_readWord 8 = .ok (.bipush 122, 2) := by decide +kernel
theorem dX8_readWord_10 : decode cX8_readWord 10 = .ok (.invokestatic 42, 3) := by decide +kernel
theorem dX8_readWord_13 : decode cX8_readWord 13 = .ok (.ifCond .eq 44, 3) := by decide +kernel
theorem dX8_readWord_16 : decode cX8_readWord 16 = .ok (.lload_n 1, 1) := by decide +kernel
theorem dX8_readWord_17 : decode cX8_readWord 17 = .ok (.ldc2_w 137, 3) := by decide +kernel
theorem dX8_readWord_20 : decode cX8_readWord 20 = .ok (.lcmp, 1) := by decide +kernel
theorem dX8_readWord_21 : decode cX8_readWord 21 = .ok (.ifCond .le 7, 3) := by decide +kernel
theorem dX8_readWord_24 : decode cX8_readWord 24 = .ok (.lload_n 1, 1) := by decide +kernel
theorem dX8_readWord_25 : decode cX8_readWord 25 = .ok (.goto 18, 3) := by decide +kernel
theorem dX8_readWord_28 : decode cX8_readWord 28 = .ok (.lload_n 1, 1) := by decide +kernel
theorem dX8_readWord_29 : decode cX8_readWord 29 = .ok (.ldc2_w 139, 3) := by decide +kernel
theorem dX8_readWord_32 : decode cX8_readWord 32 = .ok (.lmul, 1) := by decide +kernel
theorem dX8_readWord_33 : decode cX8_readWord 33 = .ok (.aload_n 0, 1) := by decide +kernel
theorem dX8_readWord_34 : decode cX8_readWord 34 = .ok (.invokevirtual 133, 3) := by decide +kernel
theorem dX8_readWord_37 : decode cX8_readWord 37 = .ok (.i2l, 1) := by decide +kernel
theorem dX8_readWord_38 : decode cX8_readWord 38 = .ok (.ladd, 1) := by decide +kernel
theorem dX8_readWord_39 : decode cX8_readWord 39 = .ok (.ldc2_w 141, 3) := by decide +kernel
theorem dX8_readWord_42 : decode cX8_readWord 42 = .ok (.lsub, 1) := by decide +kernel
theorem dX8_readWord_43 : decode cX8_readWord 43 = .ok (.lstore_n 1, 1) := by decide +kernel
theorem dX8_readWord_44 : decode cX8_readWord 44 = .ok (.aload_n 0, 1) := by decide +kernel
theorem dX8_readWord_45 : decode cX8_readWord 45 = .ok (.dup, 1) := by decide +kernel
theorem dX8_readWord_46 : decode cX8_readWord 46 = .ok (.getfield 130, 3) := by decide +kernel
theorem dX8_readWord_49 : decode cX8_readWord 49 = .ok (.iconst 1, 1) := by decide +kernel
theorem dX8_readWord_50 : decode cX8_readWord 50 = .ok (.iadd, 1) := by decide +kernel
theorem dX8_readWord_51 : decode cX8_readWord 51 = .ok (.putfield 130, 3) := by decide +kernel
theorem dX8_readWord_54 : decode cX8_readWord 54 = .ok (.goto (-52), 3) := by decide +kernel
theorem dX8_readWord_57 : decode cX8_readWord 57 = .ok (.aload_n 0, 1) := by decide +kernel
theorem dX8_readWord_58 : decode cX8_readWord 58 = .ok (.lload_n 1, 1) := by decide +kernel
theorem dX8_readWord_59 : decode cX8_readWord 59 = .ok (.ldc2_w 143, 3) := by decide +kernel
theorem dX8_readWord_62 : decode cX8_readWord 62 = .ok (.lcmp, 1) := by decide +kernel
theorem dX8_readWord_63 : decode cX8_readWord 63 = .ok (.ifCond .ne 7, 3) := by decide +kernel
theorem dX8_readWord_66 : decode cX8_readWord 66 = .ok (.iconst 1, 1) := by decide +kernel
theorem dX8_readWord_67 : decode cX8_readWord 67 = .ok (.goto 28, 3) := by decide +kernel
theorem dX8_readWord_70 : decode cX8_readWord 70 = .ok (.lload_n 1, 1) := by decide +kernel
theorem dX8_readWord_71 : decode cX8_readWord 71 = .ok (.ldc2_w 145, 3) := by decide +kernel
theorem dX8_readWord_74 : decode cX8_readWord 74 = .ok (.lcmp, 1) := by decide +kernel
theorem dX8_readWord_75 : decode cX8_readWord 75 = .ok (.ifCond .ne 7, 3) := by decide +kernel
theorem dX8_readWord_78 : decode cX8_readWord 78 = .ok (.iconst 2, 1) := by decide +kernel
theorem dX8_readWord_79 : decode cX8_readWord 79 = .ok (.goto 16, 3) := by decide +kernel
theorem dX8_readWord_82 : decode cX8_readWord 82 = .ok (.lload_n 1, 1) := by decide +kernel
theorem dX8_readWord_83 : decode cX8_readWord 83 = .ok (.ldc2_w 147, 3) := by decide +kernel
theorem dX8_readWord_86 : decode cX8_readWord 86 = .ok (.lcmp, 1) := by decide +kernel
theorem dX8_readWord_87 : decode cX8_readWord 87 = .ok (.ifCond .ne 7, 3) := by decide +kernel
theorem dX8_readWord_90 : decode cX8_readWord 90 = .ok (.iconst 3, 1) := by decide +kernel
theorem dX8_readWord_91 : decode cX8_readWord 91 = .ok (.goto 4, 3) := by decide +kernel
theorem dX8_readWord_94 : decode cX8_readWord 94 = .ok (.iconst 4, 1) := by decide +kernel
theorem dX8_readWord_95 : decode cX8_readWord 95 = .ok (.putfield 149, 3) := by decide +kernel
theorem dX8_readWord_98 : decode cX8_readWord 98 = .ok (.return_, 1) := by decide +kernel
set_option maxRecDepth 20000 in
theorem ggX8_readNumber_X8_here : GoodIn wsX8_readNumber wsX8_here := goodIn_r _ [9, 1, 10, 3, 18, 19, 20, 21, 22, 23, 24, 25, 26, 27, 28, 29, 30, 31, 32, 33, 34, 35, 36] (by decide +kernel) (by decide +kernel)
set_option maxRecDepth 20000 in
theorem gX8_readNumber_X8_here : GoodIn wsX8_readNumber (wsV RX8 133 RX8 yX8_here wsX8_here) := goodIn_app (goodIn_of _ (by decide +kernel)) ggX8_readNumber_X8_here
set_option maxRecDepth 20000 in
theorem ggX8_readNumber_X8_isDigit : GoodIn wsX8_readNumber wsX8_isDigit := goodIn_r _ [14, 5, 6, 7, 8, 9, 1, 10, 3, 15, 16, 17, 18, 19, 20, 21, 22, 23, 24, 25, 26, 27, 28, 29, 30, 31, 32, 33, 34, 35, 36] (by decide +kernel) (by decide +kernel)
set_option maxRecDepth 20000 in
theorem gX8_readNumber_X8_isDigit : GoodIn wsX8_readNumber (wsV RX8 155 RX8 yX8_isDigit wsX8_isDigit) := goodIn_app (goodIn_of _ (by decide +kernel)) ggX8_readNumber_X8_isDigit
theorem dX8_readNumber_0 : decode cX8_readNumber 0 = .ok (.aload_n 0, 1) := by decide +kernel
theorem dX8_readNumber_1 : decode cX8_readNumber 1 = .ok (.invokevirtual 133, 3) := by decide +kernel
theorem dX8_readNumber_4 : decode cX8_readNumber 4 = .ok (.bipush 45, 2) := by decide +kernel
theorem dX8_readNumber_6 : decode cX8_readNumber 6 = .ok (.if_icmp .ne 7, 3) := by decide +kernel
theorem dX8_readNumber_9 : decode cX8_readNumber 9 = .ok (.iconst 1, 1) := by decide +kernel
theorem dX8_readNumber_10 : decode cX8_readNumber 10 = .ok (.goto 4, 3) := by decide +kernel
theorem dX8_readNumber_13 : decode cX8_readNumber 13 = .ok (.iconst 0, 1) := by decide +kernel
theorem dX8_readNumber_14 : decode cX8_readNumber 14 = .ok (.istore_n 1, 1) := by decide +kernel
theorem dX8_readNumber_15 : decode cX8_readNumber 15 = .ok (.aload_n 0, 1) := by decide +kernel
theorem dX8_readNumber_16 : decode cX8_readNumber 16 = .ok (.dup, 1) := by decide +kernel
theorem dX8_readNumber_17 : decode cX8_readNumber 17 = .ok (.getfield 130, 3) := by decide +kernel
theorem dX8_readNumber_20 : decode cX8_readNumber 20 = .ok (.iload_n 1, 1) := by decide +kernel
theorem dX8_readNumber_21 : decode cX8_readNumber 21 = .ok (.ifCond .eq 7, 3) := by decide +kernel
theorem dX8_readNumber_24 : decode cX8_readNumber 24 = .ok (.iconst 1, 1) := by decide +kernel
theorem dX8_readNumber_25 : decode cX8_readNumber 25 = .ok (.goto 4, 3) := by decide +kernel
theorem dX8_readNumber_28 : decode cX8_readNumber 28 = .ok (.iconst 0, 1) := by decide +kernel
theorem dX8_readNumber_29 : decode cX8_readNumber 29 = .ok (.iadd, 1) := by decide +kernel
theorem dX8_readNumber_30 : decode cX8_readNumber 30 = .ok (.putfield 130, 3) := by decide +kernel
theorem dX8_readNumber_33 : decode cX8_readNumber 33 = .ok (.aload_n 0, 1) := by decide +kernel
theorem dX8_readNumber_34 : decode cX8_readNumber 34 = .ok (.getfield 130, 3) := by decide +kernel
theorem dX8_readNumber_37 : decode cX8_readNumber 37 = .ok (.istore_n 2, 1) := by decide +kernel
theorem dX8_readNumber_38 : decode cX8_readNumber 38 = .ok (.aload_n 0, 1) := by decide +kernel
theorem dX8_readNumber_39 : decode cX8_readNumber 39 = .ok (.iconst 0, 1) := by decide +kernel
theorem dX8_readNumber_40 : decode cX8_readNumber 40 = .ok (.putfield 152, 3) := by decide +kernel
theorem dX8_readNumber_43 : decode cX8_readNumber 43 = .ok (.aload_n 0, 1) := by decide +kernel
theorem dX8_readNumber_44 : decode cX8_readNumber 44 = .ok (.invokevirtual 155, 3) := by decide +kernel
theorem dX8_readNumber_47 : decode cX8_readNumber 47 = .ok (.ifCond .eq 52, 3) := by decide +kernel
theorem dX8_readNumber_50 : decode cX8_readNumber 50 = .ok (.aload_n 0, 1) := by decide +kernel
theorem dX8_readNumber_51 : decode cX8_readNumber 51 = .ok (.aload_n 0, 1) := by decide +kernel
theorem dX8_readNumber_52 : decode cX8_readNumber 52 = .ok (.getfield 152, 3) := by decide +kernel
theorem dX8_readNumber_55 : decode cX8_readNumber 55 = .ok (.sipush 1000, 3) := by decide +kernel
theorem dX8_readNumber_58 : decode cX8_readNumber 58 = .ok (.if_icmp .le 10, 3) := by decide +kernel
theorem dX8_readNumber_61 : decode cX8_readNumber 61 = .ok (.aload_n 0, 1) := by decide +kernel
theorem dX8_readNumber_62 : decode cX8_readNumber 62 = .ok (.getfield 152, 3) := by decide +kernel
theorem dX8_readNumber_65 : decode cX8_readNumber 65 = .ok (.goto 18, 3) := by decide +kernel
theorem dX8_readNumber_68 : decode cX8_readNumber 68 = .ok (.bipush 10, 2) := by decide +kernel
theorem dX8_readNumber_70 : decode cX8_readNumber 70 = .ok (.aload_n 0, 1) := by decide +kernel
theorem dX8_readNumber_71 : decode cX8_readNumber 71 = .ok (.getfield 152, 3) := by decide +kernel
theorem dX8_readNumber_74 : decode cX8_readNumber 74 = .ok (.imul, 1) := by decide +kernel
theorem dX8_readNumber_75 : decode cX8_readNumber 75 = .ok (.aload_n 0, 1) := by decide +kernel
theorem dX8_readNumber_76 : decode cX8_readNumber 76 = .ok (.invokevirtual 133, 3) := by decide +kernel
theorem dX8_readNumber_79 : decode cX8_readNumber 79 = .ok (.iadd, 1) := by decide +kernel
theorem dX8_readNumber_80 : decode cX8_readNumber 80 = .ok (.bipush 48, 2) := by decide +kernel
theorem dX8_readNumber_82 : decode cX8_readNumber 82 = .ok (.isub, 1) := by decide +kernel
theorem dX8_readNumber_83 : decode cX8_readNumber 83 = .ok (.putfield 152, 3) := by decide +kernel
theorem dX8_readNumber_86 : decode cX8_readNumber 86 = .ok (.aload_n 0, 1) := by decide +kernel
theorem dX8_readNumber_87 : decode cX8_readNumber 87 = .ok (.dup, 1) := by decide +kernel
theorem dX8_readNumber_88 : decode cX8_readNumber 88 = .ok (.getfield 130, 3) := by decide +kernel
theorem dX8_readNumber_91 : decode cX8_readNumber 91 = .ok (.iconst 1, 1) := by decide +kernel
theorem dX8_readNumber_92 : decode cX8_readNumber 92 = .ok (.iadd, 1) := by decide +kernel
theorem dX8_readNumber_93 : decode cX8_readNumber 93 = .ok (.putfield 130, 3) := by decide +kernel
theorem dX8_readNumber_96 : decode cX8_readNumber 96 = .ok (.goto (-53), 3) := by decide +kernel
theorem dX8_readNumber_99 : decode cX8_readNumber 99 = .ok (.aload_n 0, 1) := by decide +kernel
theorem dX8_readNumber_100 : decode cX8_readNumber 100 = .ok (.getfield 130, 3) := by decide +kernel
theorem dX8_readNumber_103 : decode cX8_readNumber 103 = .ok (.iload_n 2, 1) := by decide +kernel
theorem dX8_readNumber_104 : decode cX8_readNumber 104 = .ok (.if_icmp .eq 24, 3) := by decide +kernel
theorem dX8_readNumber_107 : decode cX8_readNumber 107 = .ok (.aload_n 0, 1) := by decide +kernel
theorem dX8_readNumber_108 : decode cX8_readNumber 108 = .ok (.getfield 16, 3) := by decide +kernel
theorem dX8_readNumber_111 : decode cX8_readNumber 111 = .ok (.iload_n 2, 1) := by decide +kernel
theorem dX8_readNumber_112 : decode cX8_readNumber 112 = .ok (.iaload, 1) := by decide +kernel
theorem dX8_readNumber_113 : decode cX8_readNumber 113 = .ok (.bipush 48, 2) := by decide +kernel
theorem dX8_readNumber_115 : decode cX8_readNumber 115 = .ok (.if_icmp .ne 17, 3) := by decide +kernel
theorem dX8_readNumber_118 : decode cX8_readNumber 118 = .ok (.aload_n 0, 1) := by decide +kernel
theorem dX8_readNumber_119 : decode cX8_readNumber 119 = .ok (.getfield 130, 3) := by decide +kernel
theorem dX8_readNumber_122 : decode cX8_readNumber 122 = .ok (.iload_n 2, 1) := by decide +kernel
theorem dX8_readNumber_123 : decode cX8_readNumber 123 = .ok (.iconst 1, 1) := by decide +kernel
theorem dX8_readNumber_124 : decode cX8_readNumber 124 = .ok (.iadd, 1) := by decide +kernel
theorem dX8_readNumber_125 : decode cX8_readNumber 125 = .ok (.if_icmp .le 7, 3) := by decide +kernel
theorem dX8_readNumber_128 : decode cX8_readNumber 128 = .ok (.iconst 1, 1) := by decide +kernel
theorem dX8_readNumber_129 : decode cX8_readNumber 129 = .ok (.goto 4, 3) := by decide +kernel
theorem dX8_readNumber_132 : decode cX8_readNumber 132 = .ok (.iconst 0, 1) := by decide +kernel
theorem dX8_readNumber_133 : decode cX8_readNumber 133 = .ok (.istore_n 3, 1) := by decide +kernel
theorem dX8_readNumber_134 : decode cX8_readNumber 134 = .ok (.aload_n 0, 1) := by decide +kernel
theorem dX8_readNumber_135 : decode cX8_readNumber 135 = .ok (.iload_n 3, 1) := by decide +kernel
theorem dX8_readNumber_136 : decode cX8_readNumber 136 = .ok (.ifCond .eq 8, 3) := by decide +kernel
theorem dX8_readNumber_139 : decode cX8_readNumber 139 = .ok (.bipush 8, 2) := by decide +kernel
theorem dX8_readNumber_141 : decode cX8_readNumber 141 = .ok (.goto 4, 3) := by decide +kernel
theorem dX8_readNumber_144 : decode cX8_readNumber 144 = .ok (.iconst 5, 1) := by decide +kernel
theorem dX8_readNumber_145 : decode cX8_readNumber 145 = .ok (.putfield 149, 3) := by decide +kernel
theorem dX8_readNumber_148 : decode cX8_readNumber 148 = .ok (.aload_n 0, 1) := by decide +kernel
theorem dX8_readNumber_149 : decode cX8_readNumber 149 = .ok (.iload_n 1, 1) := by decide +kernel
theorem dX8_readNumber_150 : decode cX8_readNumber 150 = .ok (.ifCond .eq 11, 3) := by decide +kernel
theorem dX8_readNumber_153 : decode cX8_readNumber 153 = .ok (.aload_n 0, 1) := by decide +kernel
theorem dX8_readNumber_154 : decode cX8_readNumber 154 = .ok (.getfield 152, 3) := by decide +kernel
theorem dX8_readNumber_157 : decode cX8_readNumber 157 = .ok (.ineg, 1) := by decide +kernel
theorem dX8_readNumber_158 : decode cX8_readNumber 158 = .ok (.goto 7, 3) := by decide +kernel
theorem dX8_readNumber_161 : decode cX8_readNumber 161 = .ok (.aload_n 0, 1) := by decide +kernel
theorem dX8_readNumber_162 : decode cX8_readNumber 162 = .ok (.getfield 152, 3) := by decide +kernel
theorem dX8_readNumber_165 : decode cX8_readNumber 165 = .ok (.putfield 152, 3) := by decide +kernel
theorem dX8_readNumber_168 : decode cX8_readNumber 168 = .ok (.return_, 1) := by decide +kernel
set_option maxRecDepth 20000 in
theorem ggX8_next_X8_here : GoodIn wsX8_next wsX8_here := goodIn_r _ [9, 1, 3, 10, 33, 34, 35, 36, 37, 38, 39, 40, 41, 42, 43, 44, 45, 46, 47, 48, 49, 50, 51] (by decide +kernel) (by decide +kernel)
set_option maxRecDepth 20000 in
theorem gX8_next_X8_here : GoodIn wsX8_next (wsV RX8 133 RX8 yX8_here wsX8_here) := goodIn_app (goodIn_of _ (by decide +kernel)) ggX8_next_X8_here
set_option maxRecDepth 20000 in
theorem ggX8_next_X8_in : GoodIn wsX8_next wsX8_in := goodIn_r _ [13] (by decide +kernel) (by decide +kernel)
set_option maxRecDepth 20000 in
theorem gX8_next_X8_in : GoodIn wsX8_next (va_wsS RX8 42 yX8_in wsX8_in) := goodIn_app (goodIn_of _ (by decide +kernel)) ggX8_next_X8_in
set_option maxRecDepth 20000 in
theorem ggX8_next_X8_readWord : GoodIn wsX8_next wsX8_readWord := goodIn_r _ [17, 18, 19, 20, 1, 21, 22, 23, 4, 5, 6, 7, 8, 9, 3, 10, 11, 12, 13, 33, 34, 35, 36, 37, 38, 39, 40, 41, 42, 43, 44, 45, 46, 47, 48, 49, 50, 51] (by decide +kernel) (by decide +kernel)
set_option maxRecDepth 20000 in
theorem gX8_next_X8_readWord : GoodIn wsX8_next (wsV RX8 161 RX8 yX8_readWord wsX8_readWord) := goodIn_app (goodIn_of _ (by decide +kernel)) ggX8_next_X8_readWord
set_option maxRecDepth 20000 in
theorem ggX8_next_X8_isDigit : GoodIn wsX8_next wsX8_isDigit := goodIn_r _ [27, 5, 6, 7, 8, 9, 1, 3, 10, 11, 12, 13, 33, 34, 35, 36, 37, 38, 39, 40, 41, 42, 43, 44, 45, 46, 47, 48, 49, 50, 51] (by decide +kernel) (by decide +kernel)
set_option maxRecDepth 20000 in
theorem gX8_next_X8_isDigit : GoodIn wsX8_next (wsV RX8 155 RX8 yX8_isDigit wsX8_isDigit) := goodIn_app (goodIn_of _ (by decide +kernel)) ggX8_next_X8_isDigit
set_option maxRecDepth 20000 in
theorem ggX8_next_X8_readNumber : GoodIn wsX8_next wsX8_readNumber := goodIn_r _ [31, 1, 32, 10, 4, 5, 6, 7, 8, 9, 3, 24, 25, 26, 27, 11, 12, 13, 33, 34, 35, 36, 37, 38, 39, 40, 41, 42, 43, 44, 45, 46, 47, 48, 49, 50, 51] (by decide +kernel) (by decide +kernel)
set_option maxRecDepth 20000 in
theorem gX8_next_X8_readNumber : GoodIn wsX8_next (wsV RX8 164 RX8 yX8_readNumber wsX8_readNumber) := goodIn_app (goodIn_of _ (by decide +kernel)) ggX8_next_X8_readNumber
theorem dX8_next_0 : decode cX8_next 0 = .ok (.aload_n 0, 1) := by decide +kernel
theorem dX8_next_1 : decode cX8_next 1 = .ok (.invokevirtual 133, 3) := by decide +kernel
theorem dX8_next_4 : decode cX8_next 4 = .ok (.bipush 32, 2) := by decide +kernel
theorem dX8_next_6 : decode cX8_next 6 = .ok (.if_icmp .ne 16, 3) := by decide +kernel
theorem dX8_next_9 : decode cX8_next 9 = .ok (.aload_n 0, 1) := by decide +kernel
theorem dX8_next_10 : decode cX8_next 10 = .ok (.dup, 1) := by decide +kernel
theorem dX8_next_11 : decode cX8_next 11 = .ok (.getfield 130, 3) := by decide +kernel
theorem dX8_next_14 : decode cX8_next 14 = .ok (.iconst 1, 1) := by decide +kernel
theorem dX8_next_15 : decode cX8_next 15 = .ok (.iadd, 1) := by decide +kernel
theorem dX8_next_16 : decode cX8_next 16 = .ok (.putfield 130, 3) := by decide +kernel
theorem dX8_next_19 : decode cX8_next 19 = .ok (.goto (-19), 3) := by decide +kernel
theorem dX8_next_22 : decode cX8_next 22 = .ok (.aload_n 0, 1) := by decide +kernel
theorem dX8_next_23 : decode cX8_next 23 = .ok (.aload_n 0, 1) := by decide +kernel
theorem dX8_next_24 : decode cX8_next 24 = .ok (.getfield 130, 3) := by decide +kernel
theorem dX8_next_27 : decode cX8_next 27 = .ok (.putfield 158, 3) := by decide +kernel
theorem dX8_next_30 : decode cX8_next 30 = .ok (.aload_n 0, 1) := by decide +kernel
theorem dX8_next_31 : decode cX8_next 31 = .ok (.getfield 130, 3) := by decide +kernel
theorem dX8_next_34 : decode cX8_next 34 = .ok (.aload_n 0, 1) := by decide +kernel
theorem dX8_next_35 : decode cX8_next 35 = .ok (.getfield 127, 3) := by decide +kernel
theorem dX8_next_38 : decode cX8_next 38 = .ok (.if_icmp .ne 12, 3) := by decide +kernel
theorem dX8_next_41 : decode cX8_next 41 = .ok (.aload_n 0, 1) := by decide +kernel
theorem dX8_next_42 : decode cX8_next 42 = .ok (.bipush 7, 2) := by decide +kernel
theorem dX8_next_44 : decode cX8_next 44 = .ok (.putfield 149, 3) := by decide +kernel
theorem dX8_next_47 : decode cX8_next 47 = .ok (.goto 77, 3) := by decide +kernel
theorem dX8_next_50 : decode cX8_next 50 = .ok (.aload_n 0, 1) := by decide +kernel
theorem dX8_next_51 : decode cX8_next 51 = .ok (.invokevirtual 133, 3) := by decide +kernel
theorem dX8_next_54 : decode cX8_next 54 = .ok (.bipush 97, 2) := by decide +kernel
theorem dX8_next_56 : decode cX8_next 56 = .ok (.bipush 122, 2) := by decide +kernel
theorem dX8_next_58 : decode cX8_next 58 = .ok (.invokestatic 42, 3) := by decide +kernel
theorem dX8_next_61 : decode cX8_next 61 = .ok (.ifCond .eq 10, 3) := by decide +kernel
theorem dX8_next_64 : decode cX8_next 64 = .ok (.aload_n 0, 1) := by decide +kernel
theorem dX8_next_65 : decode cX8_next 65 = .ok (.invokevirtual 161, 3) := by decide +kernel
theorem dX8_next_68 : decode cX8_next 68 = .ok (.goto 56, 3) := by decide +kernel
theorem dX8_next_71 : decode cX8_next 71 = .ok (.aload_n 0, 1) := by decide +kernel
theorem dX8_next_72 : decode cX8_next 72 = .ok (.invokevirtual 155, 3) := by decide +kernel
theorem dX8_next_75 : decode cX8_next 75 = .ok (.ifCond .ne 12, 3) := by decide +kernel
theorem dX8_next_78 : decode cX8_next 78 = .ok (.aload_n 0, 1) := by decide +kernel
theorem dX8_next_79 : decode cX8_next 79 = .ok (.invokevirtual 133, 3) := by decide +kernel
theorem dX8_next_82 : decode cX8_next 82 = .ok (.bipush 45, 2) := by decide +kernel
theorem dX8_next_84 : decode cX8_next 84 = .ok (.if_icmp .ne 10, 3) := by decide +kernel
theorem dX8_next_87 : decode cX8_next 87 = .ok (.aload_n 0, 1) := by decide +kernel
theorem dX8_next_88 : decode cX8_next 88 = .ok (.invokevirtual 164, 3) := by decide +kernel
theorem dX8_next_91 : decode cX8_next 91 = .ok (.goto 33, 3) := by decide +kernel
theorem dX8_next_94 : decode cX8_next 94 = .ok (.aload_n 0, 1) := by decide +kernel
theorem dX8_next_95 : decode cX8_next 95 = .ok (.aload_n 0, 1) := by decide +kernel
theorem dX8_next_96 : decode cX8_next 96 = .ok (.invokevirtual 133, 3) := by decide +kernel
theorem dX8_next_99 : decode cX8_next 99 = .ok (.bipush 59, 2) := by decide +kernel
theorem dX8_next_101 : decode cX8_next 101 = .ok (.if_icmp .ne 8, 3) := by decide +kernel
theorem dX8_next_104 : decode cX8_next 104 = .ok (.bipush 6, 2) := by decide +kernel
theorem dX8_next_106 : decode cX8_next 106 = .ok (.goto 5, 3) := by decide +kernel
theorem dX8_next_109 : decode cX8_next 109 = .ok (.bipush 8, 2) := by decide +kernel
theorem dX8_next_111 : decode cX8_next 111 = .ok (.putfield 149, 3) := by decide +kernel
theorem dX8_next_114 : decode cX8_next 114 = .ok (.aload_n 0, 1) := by decide +kernel
theorem dX8_next_115 : decode cX8_next 115 = .ok (.dup, 1) := by decide +kernel
theorem dX8_next_116 : decode cX8_next 116 = .ok (.getfield 130, 3) := by decide +kernel
theorem dX8_next_119 : decode cX8_next 119 = .ok (.iconst 1, 1) := by decide +kernel
theorem dX8_next_120 : decode cX8_next 120 = .ok (.iadd, 1) := by decide +kernel
theorem dX8_next_121 : decode cX8_next 121 = .ok (.putfield 130, 3) := by decide +kernel
theorem dX8_next_124 : decode cX8_next 124 = .ok (.return_, 1) := by decide +kernel
set_option maxRecDepth 20000 in
theorem ggX8_takes_X8_in : GoodIn wsX8_takes wsX8_in := goodIn_r _ [7] (by decide +kernel) (by decide +kernel)
set_option maxRecDepth 20000 in
theorem gX8_takes_X8_in : GoodIn wsX8_takes (va_wsS RX8 42 yX8_in wsX8_in) := goodIn_app (goodIn_of _ (by decide +kernel)) ggX8_takes_X8_in
set_option maxRecDepth 20000 in
theorem ggX8_takes_X8_next : GoodIn wsX8_takes wsX8_next := goodIn_r _ [11, 12, 13, 14, 1, 15, 16, 17, 6, 18, 19, 4, 5, 7, 20, 21, 22, 23, 24, 25, 26, 27, 28, 29, 30, 31, 32, 33, 34, 35, 36, 37, 2, 38, 39, 40, 41, 42, 43, 44, 45, 46, 47, 48, 49, 50, 51, 52, 53, 54, 55, 56] (by decide +kernel) (by decide +kernel)
set_option maxRecDepth 20000 in
theorem gX8_takes_X8_next : GoodIn wsX8_takes (wsV RX8 167 RX8 yX8_next wsX8_next) := goodIn_app (goodIn_of _ (by decide +kernel)) ggX8_takes_X8_next
theorem dX8_takes_0 : decode cX8_takes 0 = .ok (.aload_n 0, 1) := by decide +kernel
theorem dX8_takes_1 : decode cX8_takes 1 = .ok (.getfield 149, 3) := by decide +kernel
theorem dX8_takes_4 : decode cX8_takes 4 = .ok (.iconst 5, 1) := by decide +kernel
theorem dX8_takes_5 : decode cX8_takes 5 = .ok (.if_icmp .ne 19, 3) := by decide +kernel
theorem dX8_takes_8 : decode cX8_takes 8 = .ok (.aload_n 0, 1) := by decide +kernel
theorem dX8_takes_9 : decode cX8_takes 9 = .ok (.getfield 152, 3) := by decide +kernel
theorem dX8_takes_12 : decode cX8_takes 12 = .ok (.iload_n 2, 1) := by decide +kernel
theorem dX8_takes_13 : decode cX8_takes 13 = .ok (.iload_n 3, 1) := by decide +kernel
theorem dX8_takes_14 : decode cX8_takes 14 = .ok (.invokestatic 42, 3) := by decide +kernel
theorem dX8_takes_17 : decode cX8_takes 17 = .ok (.ifCond .eq 7, 3) := by decide +kernel
theorem dX8_takes_20 : decode cX8_takes 20 = .ok (.iconst 1, 1) := by decide +kernel
theorem dX8_takes_21 : decode cX8_takes 21 = .ok (.goto 4, 3) := by decide +kernel
theorem dX8_takes_24 : decode cX8_takes 24 = .ok (.iconst 0, 1) := by decide +kernel
theorem dX8_takes_25 : decode cX8_takes 25 = .ok (.istore 4, 2) := by decide +kernel
theorem dX8_takes_27 : decode cX8_takes 27 = .ok (.aload_n 0, 1) := by decide +kernel
theorem dX8_takes_28 : decode cX8_takes 28 = .ok (.getfield 25, 3) := by decide +kernel
theorem dX8_takes_31 : decode cX8_takes 31 = .ok (.iload_n 1, 1) := by decide +kernel
theorem dX8_takes_32 : decode cX8_takes 32 = .ok (.aload_n 0, 1) := by decide +kernel
theorem dX8_takes_33 : decode cX8_takes 33 = .ok (.getfield 152, 3) := by decide +kernel
theorem dX8_takes_36 : decode cX8_takes 36 = .ok (.iastore, 1) := by decide +kernel
theorem dX8_takes_37 : decode cX8_takes 37 = .ok (.iload 4, 2) := by decide +kernel
theorem dX8_takes_39 : decode cX8_takes 39 = .ok (.ifCond .eq 7, 3) := by decide +kernel
theorem dX8_takes_42 : decode cX8_takes 42 = .ok (.aload_n 0, 1) := by decide +kernel
theorem dX8_takes_43 : decode cX8_takes 43 = .ok (.invokevirtual 167, 3) := by decide +kernel
theorem dX8_takes_46 : decode cX8_takes 46 = .ok (.iload 4, 2) := by decide +kernel
theorem dX8_takes_48 : decode cX8_takes 48 = .ok (.ireturn, 1) := by decide +kernel
set_option maxRecDepth 20000 in
theorem ggX8_readPiece_X8_next : GoodIn wsX8_readPiece wsX8_next := goodIn_r _ [8, 9, 10, 11, 2, 12, 13, 14, 7, 15, 16, 17, 18, 19, 20, 21, 22, 23, 24, 25, 26, 27, 28, 29, 30, 31, 32, 33, 34, 35, 36, 37, 38, 47, 48, 49, 50, 51, 52, 53, 54, 55, 56, 57, 58, 59, 60, 61, 62, 63, 64, 65] (by decide +kernel) (by decide +kernel)
set_option maxRecDepth 20000 in
theorem gX8_readPiece_X8_next : GoodIn wsX8_readPiece (wsV RX8 167 RX8 yX8_next wsX8_next) := goodIn_app (goodIn_of _ (by decide +kernel)) ggX8_readPiece_X8_next
set_option maxRecDepth 20000 in
theorem ggX8_readPiece_X8_takes : GoodIn wsX8_readPiece wsX8_takes := goodIn_r _ [42, 2, 38, 3, 17, 18, 7, 19, 4, 5, 6, 8, 9, 10, 11, 12, 13, 14, 15, 16, 20, 21, 22, 23, 24, 25, 26, 27, 28, 29, 30, 31, 32, 33, 34, 35, 36, 37, 47, 48, 49, 50, 51, 52, 53, 54, 55, 56, 57, 58, 59, 60, 61, 62, 63, 64, 65] (by decide +kernel) (by decide +kernel)
set_option maxRecDepth 20000 in
theorem gX8_readPiece_X8_takes : GoodIn wsX8_readPiece (wsV RX8 170 RX8 yX8_takes wsX8_takes) := goodIn_app (goodIn_of _ (by decide +kernel)) ggX8_readPiece_X8_takes
set_option maxRecDepth 20000 in
theorem ggX8_readPiece_X8_adds : GoodIn wsX8_readPiece wsX8_adds := goodIn_r _ [46, 1, 47, 48, 49, 50, 51, 52, 53, 54, 55, 56, 57, 58, 59, 60, 61, 62, 63, 64, 65] (by decide +kernel) (by decide +kernel)
set_option maxRecDepth 20000 in
theorem gX8_readPiece_X8_adds : GoodIn wsX8_readPiece (wsV RX8 81 RX8 yX8_adds wsX8_adds) := goodIn_app (goodIn_of _ (by decide +kernel)) ggX8_readPiece_X8_adds
theorem dX8_readPiece_0 : decode cX8_readPiece 0 = .ok (.aload_n 0, 1) := by decide +kernel
theorem dX8_readPiece_1 : decode cX8_readPiece 1 = .ok (.getfield 7, 3) := by decide +kernel
theorem dX8_readPiece_4 : decode cX8_readPiece 4 = .ok (.iconst 2, 1) := by decide +kernel
theorem dX8_readPiece_5 : decode cX8_readPiece 5 = .ok (.iaload, 1) := by decide +kernel
theorem dX8_readPiece_6 : decode cX8_readPiece 6 = .ok (.bipush 12, 2) := by decide +kernel
theorem dX8_readPiece_8 : decode cX8_readPiece 8 = .ok (.if_icmp .ne 5, 3) := by decide +kernel
theorem dX8_readPiece_11 : decode cX8_readPiece 11 = .ok (.iconst 0, 1) := by decide +kernel
theorem dX8_readPiece_12 : decode cX8_readPiece 12 = .ok (.ireturn, 1) := by decide +kernel
theorem dX8_readPiece_13 : decode cX8_readPiece 13 = .ok (.aload_n 0, 1) := by decide +kernel
theorem dX8_readPiece_14 : decode cX8_readPiece 14 = .ok (.invokevirtual 167, 3) := by decide +kernel
theorem dX8_readPiece_17 : decode cX8_readPiece 17 = .ok (.aload_n 0, 1) := by decide +kernel
theorem dX8_readPiece_18 : decode cX8_readPiece 18 = .ok (.iconst 0, 1) := by decide +kernel
theorem dX8_readPiece_19 : decode cX8_readPiece 19 = .ok (.bipush (-20), 2) := by decide +kernel
theorem dX8_readPiece_21 : decode cX8_readPiece 21 = .ok (.bipush 40, 2) := by decide +kernel
theorem dX8_readPiece_23 : decode cX8_readPiece 23 = .ok (.invokevirtual 170, 3) := by decide +kernel
theorem dX8_readPiece_26 : decode cX8_readPiece 26 = .ok (.ifCond .eq 52, 3) := by decide +kernel
theorem dX8_readPiece_29 : decode cX8_readPiece 29 = .ok (.aload_n 0, 1) := by decide +kernel
theorem dX8_readPiece_30 : decode cX8_readPiece 30 = .ok (.iconst 1, 1) := by decide +kernel
theorem dX8_readPiece_31 : decode cX8_readPiece 31 = .ok (.bipush (-20), 2) := by decide +kernel
theorem dX8_readPiece_33 : decode cX8_readPiece 33 = .ok (.bipush 40, 2) := by decide +kernel
theorem dX8_readPiece_35 : decode cX8_readPiece 35 = .ok (.invokevirtual 170, 3) := by decide +kernel
theorem dX8_readPiece_38 : decode cX8_readPiece 38 = .ok (.ifCond .eq 40, 3) := by decide +kernel
theorem dX8_readPiece_41 : decode cX8_readPiece 41 = .ok (.aload_n 0, 1) := by decide +kernel
theorem dX8_readPiece_42 : decode cX8_readPiece 42 = .ok (.iconst 2, 1) := by decide +kernel
theorem dX8_readPiece_43 : decode cX8_readPiece 43 = .ok (.iconst 1, 1) := by decide +kernel
theorem dX8_readPiece_44 : decode cX8_readPiece 44 = .ok (.bipush 12, 2) := by decide +kernel
theorem dX8_readPiece_46 : decode cX8_readPiece 46 = .ok (.invokevirtual 170, 3) := by decide +kernel
theorem dX8_readPiece_49 : decode cX8_readPiece 49 = .ok (.ifCond .eq 29, 3) := by decide +kernel
theorem dX8_readPiece_52 : decode cX8_readPiece 52 = .ok (.aload_n 0, 1) := by decide +kernel
theorem dX8_readPiece_53 : decode cX8_readPiece 53 = .ok (.iconst 3, 1) := by decide +kernel
theorem dX8_readPiece_54 : decode cX8_readPiece 54 = .ok (.iconst 1, 1) := by decide +kernel
theorem dX8_readPiece_55 : decode cX8_readPiece 55 = .ok (.bipush 12, 2) := by decide +kernel
theorem dX8_readPiece_57 : decode cX8_readPiece 57 = .ok (.invokevirtual 170, 3) := by decide +kernel
theorem dX8_readPiece_60 : decode cX8_readPiece 60 = .ok (.ifCond .eq 18, 3) := by decide +kernel
theorem dX8_readPiece_63 : decode cX8_readPiece 63 = .ok (.aload_n 0, 1) := by decide +kernel
theorem dX8_readPiece_64 : decode cX8_readPiece 64 = .ok (.iconst 4, 1) := by decide +kernel
theorem dX8_readPiece_65 : decode cX8_readPiece 65 = .ok (.iconst 0, 1) := by decide +kernel
theorem dX8_readPiece_66 : decode cX8_readPiece 66 = .ok (.bipush 100, 2) := by decide +kernel
theorem dX8_readPiece_68 : decode cX8_readPiece 68 = .ok (.invokevirtual 170, 3) := by decide +kernel
theorem dX8_readPiece_71 : decode cX8_readPiece 71 = .ok (.ifCond .eq 7, 3) := by decide +kernel
theorem dX8_readPiece_74 : decode cX8_readPiece 74 = .ok (.iconst 1, 1) := by decide +kernel
theorem dX8_readPiece_75 : decode cX8_readPiece 75 = .ok (.goto 4, 3) := by decide +kernel
theorem dX8_readPiece_78 : decode cX8_readPiece 78 = .ok (.iconst 0, 1) := by decide +kernel
theorem dX8_readPiece_79 : decode cX8_readPiece 79 = .ok (.istore_n 1, 1) := by decide +kernel
theorem dX8_readPiece_80 : decode cX8_readPiece 80 = .ok (.iload_n 1, 1) := by decide +kernel
theorem dX8_readPiece_81 : decode cX8_readPiece 81 = .ok (.ifCond .ne 5, 3) := by decide +kernel
theorem dX8_readPiece_84 : decode cX8_readPiece 84 = .ok (.iconst 0, 1) := by decide +kernel
theorem dX8_readPiece_85 : decode cX8_readPiece 85 = .ok (.ireturn, 1) := by decide +kernel
theorem dX8_readPiece_86 : decode cX8_readPiece 86 = .ok (.iconst 0, 1) := by decide +kernel
theorem dX8_readPiece_87 : decode cX8_readPiece 87 = .ok (.istore_n 2, 1) := by decide +kernel
theorem dX8_readPiece_88 : decode cX8_readPiece 88 = .ok (.aload_n 0, 1) := by decide +kernel
theorem dX8_readPiece_89 : decode cX8_readPiece 89 = .ok (.getfield 149, 3) := by decide +kernel
theorem dX8_readPiece_92 : decode cX8_readPiece 92 = .ok (.iconst 3, 1) := by decide +kernel
theorem dX8_readPiece_93 : decode cX8_readPiece 93 = .ok (.if_icmp .ne 26, 3) := by decide +kernel
theorem dX8_readPiece_96 : decode cX8_readPiece 96 = .ok (.aload_n 0, 1) := by decide +kernel
theorem dX8_readPiece_97 : decode cX8_readPiece 97 = .ok (.invokevirtual 167, 3) := by decide +kernel
theorem dX8_readPiece_100 : decode cX8_readPiece 100 = .ok (.aload_n 0, 1) := by decide +kernel
theorem dX8_readPiece_101 : decode cX8_readPiece 101 = .ok (.iconst 5, 1) := by decide +kernel
theorem dX8_readPiece_102 : decode cX8_readPiece 102 = .ok (.iconst 0, 1) := by decide +kernel
theorem dX8_readPiece_103 : decode cX8_readPiece 103 = .ok (.iconst 3, 1) := by decide +kernel
theorem dX8_readPiece_104 : decode cX8_readPiece 104 = .ok (.invokevirtual 170, 3) := by decide +kernel
theorem dX8_readPiece_107 : decode cX8_readPiece 107 = .ok (.ifCond .ne 5, 3) := by decide +kernel
theorem dX8_readPiece_110 : decode cX8_readPiece 110 = .ok (.iconst 0, 1) := by decide +kernel
theorem dX8_readPiece_111 : decode cX8_readPiece 111 = .ok (.ireturn, 1) := by decide +kernel
theorem dX8_readPiece_112 : decode cX8_readPiece 112 = .ok (.aload_n 0, 1) := by decide +kernel
theorem dX8_readPiece_113 : decode cX8_readPiece 113 = .ok (.getfield 25, 3) := by decide +kernel
theorem dX8_readPiece_116 : decode cX8_readPiece 116 = .ok (.iconst 5, 1) := by decide +kernel
theorem dX8_readPiece_117 : decode cX8_readPiece 117 = .ok (.iaload, 1) := by decide +kernel
theorem dX8_readPiece_118 : decode cX8_readPiece 118 = .ok (.istore_n 2, 1) := by decide +kernel
theorem dX8_readPiece_119 : decode cX8_readPiece 119 = .ok (.aload_n 0, 1) := by decide +kernel
theorem dX8_readPiece_120 : decode cX8_readPiece 120 = .ok (.getfield 149, 3) := by decide +kernel
theorem dX8_readPiece_123 : decode cX8_readPiece 123 = .ok (.bipush 6, 2) := by decide +kernel
theorem dX8_readPiece_125 : decode cX8_readPiece 125 = .ok (.if_icmp .eq 5, 3) := by decide +kernel
theorem dX8_readPiece_128 : decode cX8_readPiece 128 = .ok (.iconst 0, 1) := by decide +kernel
theorem dX8_readPiece_129 : decode cX8_readPiece 129 = .ok (.ireturn, 1) := by decide +kernel
