theorem dX8_isSeen_0 : decode cX8_isSeen 0 = .ok (.iload_n 2, 1) := by decide +kernel
theorem dX8_isSeen_1 : decode cX8_isSeen 1 = .ok (.iconst 0, 1) := by decide +kernel
theorem dX8_isSeen_2 : decode cX8_isSeen 2 = .ok (.aload_n 0, 1) := by decide +kernel
theorem dX8_isSeen_3 : decode cX8_isSeen 3 = .ok (.getfield 7, 3) := by decide +kernel
theorem dX8_isSeen_6 : decode cX8_isSeen 6 = .ok (.iconst 0, 1) := by decide +kernel
theorem dX8_isSeen_7 : decode cX8_isSeen 7 = .ok (.iaload, 1) := by decide +kernel
theorem dX8_isSeen_8 : decode cX8_isSeen 8 = .ok (.iconst 1, 1) := by decide +kernel
theorem dX8_isSeen_9 : decode cX8_isSeen 9 = .ok (.isub, 1) := by decide +kernel
theorem dX8_isSeen_10 : decode cX8_isSeen 10 = .ok (.invokestatic 42, 3) := by decide +kernel
theorem dX8_isSeen_13 : decode cX8_isSeen 13 = .ok (.ifCond .eq 42, 3) := by decide +kernel
theorem dX8_isSeen_16 : decode cX8_isSeen 16 = .ok (.iload_n 3, 1) := by decide +kernel
theorem dX8_isSeen_17 : decode cX8_isSeen 17 = .ok (.iconst 0, 1) := by decide +kernel
theorem dX8_isSeen_18 : decode cX8_isSeen 18 = .ok (.aload_n 0, 1) := by decide +kernel
theorem dX8_isSeen_19 : decode cX8_isSeen 19 = .ok (.getfield 7, 3) := by decide +kernel
theorem dX8_isSeen_22 : decode cX8_isSeen 22 = .ok (.iconst 1, 1) := by decide +kernel
theorem dX8_isSeen_23 : decode cX8_isSeen 23 = .ok (.iaload, 1) := by decide +kernel
theorem dX8_isSeen_24 : decode cX8_isSeen 24 = .ok (.iconst 1, 1) := by decide +kernel
theorem dX8_isSeen_25 : decode cX8_isSeen 25 = .ok (.isub, 1) := by decide +kernel
theorem dX8_isSeen_26 : decode cX8_isSeen 26 = .ok (.invokestatic 42, 3) := by decide +kernel
theorem dX8_isSeen_29 : decode cX8_isSeen 29 = .ok (.ifCond .eq 26, 3) := by decide +kernel
theorem dX8_isSeen_32 : decode cX8_isSeen 32 = .ok (.aload_n 0, 1) := by decide +kernel
theorem dX8_isSeen_33 : decode cX8_isSeen 33 = .ok (.getfield 19, 3) := by decide +kernel
theorem dX8_isSeen_36 : decode cX8_isSeen 36 = .ok (.aload_n 0, 1) := by decide +kernel
theorem dX8_isSeen_37 : decode cX8_isSeen 37 = .ok (.getfield 7, 3) := by decide +kernel
theorem dX8_isSeen_40 : decode cX8_isSeen 40 = .ok (.iconst 0, 1) := by decide +kernel
theorem dX8_isSeen_41 : decode cX8_isSeen 41 = .ok (.iaload, 1) := by decide +kernel
theorem dX8_isSeen_42 : decode cX8_isSeen 42 = .ok (.iload_n 3, 1) := by decide +kernel
theorem dX8_isSeen_43 : decode cX8_isSeen 43 = .ok (.imul, 1) := by decide +kernel
theorem dX8_isSeen_44 : decode cX8_isSeen 44 = .ok (.iload_n 2, 1) := by decide +kernel
theorem dX8_isSeen_45 : decode cX8_isSeen 45 = .ok (.iadd, 1) := by decide +kernel
theorem dX8_isSeen_46 : decode cX8_isSeen 46 = .ok (.iaload, 1) := by decide +kernel
theorem dX8_isSeen_47 : decode cX8_isSeen 47 = .ok (.iload_n 1, 1) := by decide +kernel
theorem dX8_isSeen_48 : decode cX8_isSeen 48 = .ok (.if_icmp .ne 7, 3) := by decide +kernel
theorem dX8_isSeen_51 : decode cX8_isSeen 51 = .ok (.iconst 1, 1) := by decide +kernel
theorem dX8_isSeen_52 : decode cX8_isSeen 52 = .ok (.goto 4, 3) := by decide +kernel
theorem dX8_isSeen_55 : decode cX8_isSeen 55 = .ok (.iconst 0, 1) := by decide +kernel
theorem dX8_isSeen_56 : decode cX8_isSeen 56 = .ok (.ireturn, 1) := by decide +kernel
set_option maxRecDepth 20000 in
theorem ggX8_setPage_X8_in : GoodIn wsX8_setPage wsX8_in := goodIn_r _ [5] (by decide +kernel) (by decide +kernel)
set_option maxRecDepth 20000 in
theorem gX8_setPage_X8_in : GoodIn wsX8_setPage (va_wsS RX8 42 yX8_in wsX8_in) := goodIn_app (goodIn_of _ (by decide +kernel)) ggX8_setPage_X8_in
set_option maxRecDepth 20000 in
theorem ggX8_setPage_X8_record : GoodIn wsX8_setPage wsX8_record := goodIn_r _ [9, 10, 11, 42, 43, 44, 45, 46, 47, 48, 49, 50, 51, 52, 53, 54, 55, 56, 57, 58, 59, 60] (by decide +kernel) (by decide +kernel)
set_option maxRecDepth 20000 in
theorem gX8_setPage_X8_record : GoodIn wsX8_setPage (wsV RX8 65 RX8 yX8_record wsX8_record) := goodIn_app (goodIn_of _ (by decide +kernel)) ggX8_setPage_X8_record
set_option maxRecDepth 20000 in
theorem ggX8_setPage_X8_paint : GoodIn wsX8_setPage wsX8_paint := goodIn_r _ [15, 16, 17, 18, 4, 19, 1, 20, 21, 22, 23, 24, 25, 26, 27, 28, 29, 42, 43, 44, 45, 46, 47, 48, 49, 50, 51, 52, 53, 54, 55, 56, 57, 58, 59, 60] (by decide +kernel) (by decide +kernel)
set_option maxRecDepth 20000 in
theorem gX8_setPage_X8_paint : GoodIn wsX8_setPage (wsV RX8 69 RX8 yX8_paint wsX8_paint) := goodIn_app (goodIn_of _ (by decide +kernel)) ggX8_setPage_X8_paint
set_option maxRecDepth 20000 in
theorem ggX8_setPage_X8_contents : GoodIn wsX8_setPage wsX8_contents := goodIn_r _ [33, 1, 34, 35, 36, 4, 37, 21, 26, 27, 28, 29, 38, 39, 40, 41, 42, 43, 44, 45, 46, 47, 48, 49, 50, 51, 52, 53, 54, 55, 56, 57, 58, 59, 60] (by decide +kernel) (by decide +kernel)
set_option maxRecDepth 20000 in
theorem gX8_setPage_X8_contents : GoodIn wsX8_setPage (wsV RX8 72 RX8 yX8_contents wsX8_contents) := goodIn_app (goodIn_of _ (by decide +kernel)) ggX8_setPage_X8_contents
theorem dX8_setPage_0 : decode cX8_setPage 0 = .ok (.iload_n 1, 1) := by decide +kernel
theorem dX8_setPage_1 : decode cX8_setPage 1 = .ok (.iconst 4, 1) := by decide +kernel
theorem dX8_setPage_2 : decode cX8_setPage 2 = .ok (.bipush 24, 2) := by decide +kernel
theorem dX8_setPage_4 : decode cX8_setPage 4 = .ok (.invokestatic 42, 3) := by decide +kernel
theorem dX8_setPage_7 : decode cX8_setPage 7 = .ok (.ifCond .eq 13, 3) := by decide +kernel
theorem dX8_setPage_10 : decode cX8_setPage 10 = .ok (.iload_n 2, 1) := by decide +kernel
theorem dX8_setPage_11 : decode cX8_setPage 11 = .ok (.iconst 4, 1) := by decide +kernel
theorem dX8_setPage_12 : decode cX8_setPage 12 = .ok (.bipush 24, 2) := by decide +kernel
theorem dX8_setPage_14 : decode cX8_setPage 14 = .ok (.invokestatic 42, 3) := by decide +kernel
theorem dX8_setPage_17 : decode cX8_setPage 17 = .ok (.ifCond .ne 6, 3) := by decide +kernel
theorem dX8_setPage_20 : decode cX8_setPage 20 = .ok (.bipush (-101), 2) := by decide +kernel
theorem dX8_setPage_22 : decode cX8_setPage 22 = .ok (.ireturn, 1) := by decide +kernel
theorem dX8_setPage_23 : decode cX8_setPage 23 = .ok (.aload_n 0, 1) := by decide +kernel
theorem dX8_setPage_24 : decode cX8_setPage 24 = .ok (.aload_n 0, 1) := by decide +kernel
theorem dX8_setPage_25 : decode cX8_setPage 25 = .ok (.getfield 7, 3) := by decide +kernel
theorem dX8_setPage_28 : decode cX8_setPage 28 = .ok (.invokevirtual 65, 3) := by decide +kernel
theorem dX8_setPage_31 : decode cX8_setPage 31 = .ok (.aload_n 0, 1) := by decide +kernel
theorem dX8_setPage_32 : decode cX8_setPage 32 = .ok (.getfield 7, 3) := by decide +kernel
theorem dX8_setPage_35 : decode cX8_setPage 35 = .ok (.iconst 0, 1) := by decide +kernel
theorem dX8_setPage_36 : decode cX8_setPage 36 = .ok (.iload_n 1, 1) := by decide +kernel
theorem dX8_setPage_37 : decode cX8_setPage 37 = .ok (.iastore, 1) := by decide +kernel
theorem dX8_setPage_38 : decode cX8_setPage 38 = .ok (.aload_n 0, 1) := by decide +kernel
theorem dX8_setPage_39 : decode cX8_setPage 39 = .ok (.getfield 7, 3) := by decide +kernel
theorem dX8_setPage_42 : decode cX8_setPage 42 = .ok (.iconst 1, 1) := by decide +kernel
theorem dX8_setPage_43 : decode cX8_setPage 43 = .ok (.iload_n 2, 1) := by decide +kernel
theorem dX8_setPage_44 : decode cX8_setPage 44 = .ok (.iastore, 1) := by decide +kernel
theorem dX8_setPage_45 : decode cX8_setPage 45 = .ok (.aload_n 0, 1) := by decide +kernel
theorem dX8_setPage_46 : decode cX8_setPage 46 = .ok (.invokevirtual 69, 3) := by decide +kernel
theorem dX8_setPage_49 : decode cX8_setPage 49 = .ok (.aload_n 0, 1) := by decide +kernel
theorem dX8_setPage_50 : decode cX8_setPage 50 = .ok (.bipush (-109), 2) := by decide +kernel
theorem dX8_setPage_52 : decode cX8_setPage 52 = .ok (.invokevirtual 72, 3) := by decide +kernel
theorem dX8_setPage_55 : decode cX8_setPage 55 = .ok (.ireturn, 1) := by decide +kernel
theorem dX8_adds_0 : decode cX8_adds 0 = .ok (.iconst 4, 1) := by decide +kernel
theorem dX8_adds_1 : decode cX8_adds 1 = .ok (.bipush 6, 2) := by decide +kernel
theorem dX8_adds_3 : decode cX8_adds 3 = .ok (.aload_n 0, 1) := by decide +kernel
theorem dX8_adds_4 : decode cX8_adds 4 = .ok (.getfield 7, 3) := by decide +kernel
theorem dX8_adds_7 : decode cX8_adds 7 = .ok (.iconst 2, 1) := by decide +kernel
theorem dX8_adds_8 : decode cX8_adds 8 = .ok (.iaload, 1) := by decide +kernel
theorem dX8_adds_9 : decode cX8_adds 9 = .ok (.imul, 1) := by decide +kernel
theorem dX8_adds_10 : decode cX8_adds 10 = .ok (.iadd, 1) := by decide +kernel
theorem dX8_adds_11 : decode cX8_adds 11 = .ok (.istore 7, 2) := by decide +kernel
theorem dX8_adds_13 : decode cX8_adds 13 = .ok (.aload_n 0, 1) := by decide +kernel
theorem dX8_adds_14 : decode cX8_adds 14 = .ok (.getfield 7, 3) := by decide +kernel
theorem dX8_adds_17 : decode cX8_adds 17 = .ok (.iload 7, 2) := by decide +kernel
theorem dX8_adds_19 : decode cX8_adds 19 = .ok (.iconst 0, 1) := by decide +kernel
theorem dX8_adds_20 : decode cX8_adds 20 = .ok (.iadd, 1) := by decide +kernel
theorem dX8_adds_21 : decode cX8_adds 21 = .ok (.iload_n 1, 1) := by decide +kernel
theorem dX8_adds_22 : decode cX8_adds 22 = .ok (.iastore, 1) := by decide +kernel
theorem dX8_adds_23 : decode cX8_adds 23 = .ok (.aload_n 0, 1) := by decide +kernel
theorem dX8_adds_24 : decode cX8_adds 24 = .ok (.getfield 7, 3) := by decide +kernel
theorem dX8_adds_27 : decode cX8_adds 27 = .ok (.iload 7, 2) := by decide +kernel
theorem dX8_adds_29 : decode cX8_adds 29 = .ok (.iconst 1, 1) := by decide +kernel
theorem dX8_adds_30 : decode cX8_adds 30 = .ok (.iadd, 1) := by decide +kernel
theorem dX8_adds_31 : decode cX8_adds 31 = .ok (.iload_n 2, 1) := by decide +kernel
theorem dX8_adds_32 : decode cX8_adds 32 = .ok (.iastore, 1) := by decide +kernel
theorem dX8_adds_33 : decode cX8_adds 33 = .ok (.aload_n 0, 1) := by decide +kernel
theorem dX8_adds_34 : decode cX8_adds 34 = .ok (.getfield 7, 3) := by decide +kernel
theorem dX8_adds_37 : decode cX8_adds 37 = .ok (.iload 7, 2) := by decide +kernel
theorem dX8_adds_39 : decode cX8_adds 39 = .ok (.iconst 2, 1) := by decide +kernel
theorem dX8_adds_40 : decode cX8_adds 40 = .ok (.iadd, 1) := by decide +kernel
theorem dX8_adds_41 : decode cX8_adds 41 = .ok (.iload_n 3, 1) := by decide +kernel
theorem dX8_adds_42 : decode cX8_adds 42 = .ok (.iastore, 1) := by decide +kernel
theorem dX8_adds_43 : decode cX8_adds 43 = .ok (.aload_n 0, 1) := by decide +kernel
theorem dX8_adds_44 : decode cX8_adds 44 = .ok (.getfield 7, 3) := by decide +kernel
theorem dX8_adds_47 : decode cX8_adds 47 = .ok (.iload 7, 2) := by decide +kernel
theorem dX8_adds_49 : decode cX8_adds 49 = .ok (.iconst 3, 1) := by decide +kernel
theorem dX8_adds_50 : decode cX8_adds 50 = .ok (.iadd, 1) := by decide +kernel
theorem dX8_adds_51 : decode cX8_adds 51 = .ok (.iload 4, 2) := by decide +kernel
theorem dX8_adds_53 : decode cX8_adds 53 = .ok (.iastore, 1) := by decide +kernel
theorem dX8_adds_54 : decode cX8_adds 54 = .ok (.aload_n 0, 1) := by decide +kernel
theorem dX8_adds_55 : decode cX8_adds 55 = .ok (.getfield 7, 3) := by decide +kernel
theorem dX8_adds_58 : decode cX8_adds 58 = .ok (.iload 7, 2) := by decide +kernel
theorem dX8_adds_60 : decode cX8_adds 60 = .ok (.iconst 4, 1) := by decide +kernel
theorem dX8_adds_61 : decode cX8_adds 61 = .ok (.iadd, 1) := by decide +kernel
theorem dX8_adds_62 : decode cX8_adds 62 = .ok (.iload 5, 2) := by decide +kernel
theorem dX8_adds_64 : decode cX8_adds 64 = .ok (.iastore, 1) := by decide +kernel
theorem dX8_adds_65 : decode cX8_adds 65 = .ok (.aload_n 0, 1) := by decide +kernel
theorem dX8_adds_66 : decode cX8_adds 66 = .ok (.getfield 7, 3) := by decide +kernel
theorem dX8_adds_69 : decode cX8_adds 69 = .ok (.iload 7, 2) := by decide +kernel
theorem dX8_adds_71 : decode cX8_adds 71 = .ok (.iconst 5, 1) := by decide +kernel
theorem dX8_adds_72 : decode cX8_adds 72 = .ok (.iadd, 1) := by decide +kernel
theorem dX8_adds_73 : decode cX8_adds 73 = .ok (.iload 6, 2) := by decide +kernel
theorem dX8_adds_75 : decode cX8_adds 75 = .ok (.iastore, 1) := by decide +kernel
theorem dX8_adds_76 : decode cX8_adds 76 = .ok (.aload_n 0, 1) := by decide +kernel
theorem dX8_adds_77 : decode cX8_adds 77 = .ok (.getfield 7, 3) := by decide +kernel
theorem dX8_adds_80 : decode cX8_adds 80 = .ok (.bipush 76, 2) := by decide +kernel
theorem dX8_adds_82 : decode cX8_adds 82 = .ok (.aload_n 0, 1) := by decide +kernel
theorem dX8_adds_83 : decode cX8_adds 83 = .ok (.getfield 7, 3) := by decide +kernel
theorem dX8_adds_86 : decode cX8_adds 86 = .ok (.iconst 2, 1) := by decide +kernel
theorem dX8_adds_87 : decode cX8_adds 87 = .ok (.iaload, 1) := by decide +kernel
theorem dX8_adds_88 : decode cX8_adds 88 = .ok (.iadd, 1) := by decide +kernel
theorem dX8_adds_89 : decode cX8_adds 89 = .ok (.aload_n 0, 1) := by decide +kernel
theorem dX8_adds_90 : decode cX8_adds 90 = .ok (.getfield 7, 3) := by decide +kernel
theorem dX8_adds_93 : decode cX8_adds 93 = .ok (.iconst 2, 1) := by decide +kernel
theorem dX8_adds_94 : decode cX8_adds 94 = .ok (.iaload, 1) := by decide +kernel
theorem dX8_adds_95 : decode cX8_adds 95 = .ok (.iastore, 1) := by decide +kernel
theorem dX8_adds_96 : decode cX8_adds 96 = .ok (.aload_n 0, 1) := by decide +kernel
theorem dX8_adds_97 : decode cX8_adds 97 = .ok (.getfield 7, 3) := by decide +kernel
theorem dX8_adds_100 : decode cX8_adds 100 = .ok (.iconst 2, 1) := by decide +kernel
theorem dX8_adds_101 : decode cX8_adds 101 = .ok (.dup2, 1) := by decide +kernel
theorem dX8_adds_102 : decode cX8_adds 102 = .ok (.iaload, 1) := by decide +kernel
theorem dX8_adds_103 : decode cX8_adds 103 = .ok (.iconst 1, 1) := by decide +kernel
theorem dX8_adds_104 : decode cX8_adds 104 = .ok (.iadd, 1) := by decide +kernel
theorem dX8_adds_105 : decode cX8_adds 105 = .ok (.iastore, 1) := by decide +kernel
theorem dX8_adds_106 : decode cX8_adds 106 = .ok (.return_, 1) := by decide +kernel
set_option maxRecDepth 20000 in
theorem ggX8_isPlace_X8_in : GoodIn wsX8_isPlace wsX8_in := goodIn_r _ [4] (by decide +kernel) (by decide +kernel)
set_option maxRecDepth 20000 in
theorem gX8_isPlace_X8_in : GoodIn wsX8_isPlace (va_wsS RX8 42 yX8_in wsX8_in) := goodIn_app (goodIn_of _ (by decide +kernel)) ggX8_isPlace_X8_in
theorem dX8_isPlace_0 : decode cX8_isPlace 0 = .ok (.iload_n 0, 1) := by decide +kernel
theorem dX8_isPlace_1 : decode cX8_isPlace 1 = .ok (.bipush (-20), 2) := by decide +kernel
theorem dX8_isPlace_3 : decode cX8_isPlace 3 = .ok (.bipush 40, 2) := by decide +kernel
theorem dX8_isPlace_5 : decode cX8_isPlace 5 = .ok (.invokestatic 42, 3) := by decide +kernel
theorem dX8_isPlace_8 : decode cX8_isPlace 8 = .ok (.ireturn, 1) := by decide +kernel
set_option maxRecDepth 20000 in
theorem ggX8_isSize_X8_in : GoodIn wsX8_isSize wsX8_in := goodIn_r _ [4] (by decide +kernel) (by decide +kernel)
set_option maxRecDepth 20000 in
theorem gX8_isSize_X8_in : GoodIn wsX8_isSize (va_wsS RX8 42 yX8_in wsX8_in) := goodIn_app (goodIn_of _ (by decide +kernel)) ggX8_isSize_X8_in
theorem dX8_isSize_0 : decode cX8_isSize 0 = .ok (.iload_n 0, 1) := by decide +kernel
theorem dX8_isSize_1 : decode cX8_isSize 1 = .ok (.iconst 1, 1) := by decide +kernel
theorem dX8_isSize_2 : decode cX8_isSize 2 = .ok (.bipush 12, 2) := by decide +kernel
theorem dX8_isSize_4 : decode cX8_isSize 4 = .ok (.invokestatic 42, 3) := by decide +kernel
theorem dX8_isSize_7 : decode cX8_isSize 7 = .ok (.ireturn, 1) := by decide +kernel
set_option maxRecDepth 20000 in
theorem ggX8_addPiece_X8_isPlace : GoodIn wsX8_addPiece wsX8_isPlace := goodIn_r _ [5, 6, 7, 4, 8] (by decide +kernel) (by decide +kernel)
set_option maxRecDepth 20000 in
theorem gX8_addPiece_X8_isPlace : GoodIn wsX8_addPiece (va_wsS RX8 75 yX8_isPlace wsX8_isPlace) := goodIn_app (goodIn_of _ (by decide +kernel)) ggX8_addPiece_X8_isPlace
set_option maxRecDepth 20000 in
theorem ggX8_addPiece_X8_isSize : GoodIn wsX8_addPiece wsX8_isSize := goodIn_r _ [11, 6, 7, 4, 8] (by decide +kernel) (by decide +kernel)
set_option maxRecDepth 20000 in
theorem gX8_addPiece_X8_isSize : GoodIn wsX8_addPiece (va_wsS RX8 78 yX8_isSize wsX8_isSize) := goodIn_app (goodIn_of _ (by decide +kernel)) ggX8_addPiece_X8_isSize
set_option maxRecDepth 20000 in
theorem ggX8_addPiece_X8_in : GoodIn wsX8_addPiece wsX8_in := goodIn_r _ [8] (by decide +kernel) (by decide +kernel)
set_option maxRecDepth 20000 in
theorem gX8_addPiece_X8_in : GoodIn wsX8_addPiece (va_wsS RX8 42 yX8_in wsX8_in) := goodIn_app (goodIn_of _ (by decide +kernel)) ggX8_addPiece_X8_in
set_option maxRecDepth 20000 in
theorem ggX8_addPiece_X8_record : GoodIn wsX8_addPiece wsX8_record := goodIn_r _ [15, 16, 17, 22, 23, 24, 25, 26, 27, 28, 29, 30, 31, 32, 33, 34, 35, 36, 37, 38, 39, 40] (by decide +kernel) (by decide +kernel)
set_option maxRecDepth 20000 in
theorem gX8_addPiece_X8_record : GoodIn wsX8_addPiece (wsV RX8 65 RX8 yX8_record wsX8_record) := goodIn_app (goodIn_of _ (by decide +kernel)) ggX8_addPiece_X8_record
set_option maxRecDepth 20000 in
theorem ggX8_addPiece_X8_adds : GoodIn wsX8_addPiece wsX8_adds := goodIn_r _ [21, 1, 22, 23, 24, 25, 26, 27, 28, 29, 30, 31, 32, 33, 34, 35, 36, 37, 38, 39, 40] (by decide +kernel) (by decide +kernel)
set_option maxRecDepth 20000 in
theorem gX8_addPiece_X8_adds : GoodIn wsX8_addPiece (wsV RX8 81 RX8 yX8_adds wsX8_adds) := goodIn_app (goodIn_of _ (by decide +kernel)) ggX8_addPiece_X8_adds
theorem dX8_addPiece_0 : decode cX8_addPiece 0 = .ok (.iload_n 1, 1) := by decide +kernel
theorem dX8_addPiece_1 : decode cX8_addPiece 1 = .ok (.invokestatic 75, 3) := by decide +kernel
theorem dX8_addPiece_4 : decode cX8_addPiece 4 = .ok (.ifCond .eq 36, 3) := by decide +kernel
theorem dX8_addPiece_7 : decode cX8_addPiece 7 = .ok (.iload_n 2, 1) := by decide +kernel
theorem dX8_addPiece_8 : decode cX8_addPiece 8 = .ok (.invokestatic 75, 3) := by decide +kernel
theorem dX8_addPiece_11 : decode cX8_addPiece 11 = .ok (.ifCond .eq 29, 3) := by decide +kernel
theorem dX8_addPiece_14 : decode cX8_addPiece 14 = .ok (.iload_n 3, 1) := by decide +kernel
theorem dX8_addPiece_15 : decode cX8_addPiece 15 = .ok (.invokestatic 78, 3) := by decide +kernel
theorem dX8_addPiece_18 : decode cX8_addPiece 18 = .ok (.ifCond .eq 22, 3) := by decide +kernel
theorem dX8_addPiece_21 : decode cX8_addPiece 21 = .ok (.iload 4, 2) := by decide +kernel
theorem dX8_addPiece_23 : decode cX8_addPiece 23 = .ok (.invokestatic 78, 3) := by decide +kernel
theorem dX8_addPiece_26 : decode cX8_addPiece 26 = .ok (.ifCond .eq 14, 3) := by decide +kernel
theorem dX8_addPiece_29 : decode cX8_addPiece 29 = .ok (.iload 5, 2) := by decide +kernel
theorem dX8_addPiece_31 : decode cX8_addPiece 31 = .ok (.iconst 0, 1) := by decide +kernel
theorem dX8_addPiece_32 : decode cX8_addPiece 32 = .ok (.bipush 100, 2) := by decide +kernel
theorem dX8_addPiece_34 : decode cX8_addPiece 34 = .ok (.invokestatic 42, 3) := by decide +kernel
theorem dX8_addPiece_37 : decode cX8_addPiece 37 = .ok (.ifCond .ne 6, 3) := by decide +kernel
theorem dX8_addPiece_40 : decode cX8_addPiece 40 = .ok (.bipush (-101), 2) := by decide +kernel
theorem dX8_addPiece_42 : decode cX8_addPiece 42 = .ok (.ireturn, 1) := by decide +kernel
theorem dX8_addPiece_43 : decode cX8_addPiece 43 = .ok (.aload_n 0, 1) := by decide +kernel
theorem dX8_addPiece_44 : decode cX8_addPiece 44 = .ok (.getfield 7, 3) := by decide +kernel
theorem dX8_addPiece_47 : decode cX8_addPiece 47 = .ok (.iconst 2, 1) := by decide +kernel
theorem dX8_addPiece_48 : decode cX8_addPiece 48 = .ok (.iaload, 1) := by decide +kernel
theorem dX8_addPiece_49 : decode cX8_addPiece 49 = .ok (.bipush 12, 2) := by decide +kernel
theorem dX8_addPiece_51 : decode cX8_addPiece 51 = .ok (.if_icmp .ne 6, 3) := by decide +kernel
theorem dX8_addPiece_54 : decode cX8_addPiece 54 = .ok (.bipush (-103), 2) := by decide +kernel
theorem dX8_addPiece_56 : decode cX8_addPiece 56 = .ok (.ireturn, 1) := by decide +kernel
theorem dX8_addPiece_57 : decode cX8_addPiece 57 = .ok (.aload_n 0, 1) := by decide +kernel
theorem dX8_addPiece_58 : decode cX8_addPiece 58 = .ok (.aload_n 0, 1) := by decide +kernel
theorem dX8_addPiece_59 : decode cX8_addPiece 59 = .ok (.getfield 7, 3) := by decide +kernel
theorem dX8_addPiece_62 : decode cX8_addPiece 62 = .ok (.invokevirtual 65, 3) := by decide +kernel
theorem dX8_addPiece_65 : decode cX8_addPiece 65 = .ok (.aload_n 0, 1) := by decide +kernel
theorem dX8_addPiece_66 : decode cX8_addPiece 66 = .ok (.iload_n 1, 1) := by decide +kernel
theorem dX8_addPiece_67 : decode cX8_addPiece 67 = .ok (.iload_n 2, 1) := by decide +kernel
theorem dX8_addPiece_68 : decode cX8_addPiece 68 = .ok (.iload_n 3, 1) := by decide +kernel
theorem dX8_addPiece_69 : decode cX8_addPiece 69 = .ok (.iload 4, 2) := by decide +kernel
theorem dX8_addPiece_71 : decode cX8_addPiece 71 = .ok (.iload 5, 2) := by decide +kernel
theorem dX8_addPiece_73 : decode cX8_addPiece 73 = .ok (.iconst 0, 1) := by decide +kernel
theorem dX8_addPiece_74 : decode cX8_addPiece 74 = .ok (.invokevirtual 81, 3) := by decide +kernel
theorem dX8_addPiece_77 : decode cX8_addPiece 77 = .ok (.aload_n 0, 1) := by decide +kernel
theorem dX8_addPiece_78 : decode cX8_addPiece 78 = .ok (.getfield 7, 3) := by decide +kernel
theorem dX8_addPiece_81 : decode cX8_addPiece 81 = .ok (.iconst 2, 1) := by decide +kernel
theorem dX8_addPiece_82 : decode cX8_addPiece 82 = .ok (.iaload, 1) := by decide +kernel
theorem dX8_addPiece_83 : decode cX8_addPiece 83 = .ok (.iconst 1, 1) := by decide +kernel
theorem dX8_addPiece_84 : decode cX8_addPiece 84 = .ok (.isub, 1) := by decide +kernel
theorem dX8_addPiece_85 : decode cX8_addPiece 85 = .ok (.ireturn, 1) := by decide +kernel
set_option maxRecDepth 20000 in
theorem ggX8_removePiece_X8_isPiece : GoodIn wsX8_removePiece wsX8_isPiece := goodIn_r _ [6, 1, 7, 8, 5, 9, 20, 21, 22, 23, 24, 25, 26, 27, 28, 29, 30, 31, 32, 33, 34, 35, 36, 37, 38] (by decide +kernel) (by decide +kernel)
set_option maxRecDepth 20000 in
theorem gX8_removePiece_X8_isPiece : GoodIn wsX8_removePiece (wsV RX8 85 RX8 yX8_isPiece wsX8_isPiece) := goodIn_app (goodIn_of _ (by decide +kernel)) ggX8_removePiece_X8_isPiece
set_option maxRecDepth 20000 in
theorem ggX8_removePiece_X8_record : GoodIn wsX8_removePiece wsX8_record := goodIn_r _ [13, 14, 15, 20, 21, 22, 23, 24, 25, 26, 27, 28, 29, 30, 31, 32, 33, 34, 35, 36, 37, 38] (by decide +kernel) (by decide +kernel)
set_option maxRecDepth 20000 in
theorem gX8_removePiece_X8_record : GoodIn wsX8_removePiece (wsV RX8 65 RX8 yX8_record wsX8_record) := goodIn_app (goodIn_of _ (by decide +kernel)) ggX8_removePiece_X8_record
set_option maxRecDepth 20000 in
theorem ggX8_removePiece_X8_layerOf : GoodIn wsX8_removePiece wsX8_layerOf := goodIn_r _ [19, 1, 20, 21, 22, 23, 24, 25, 26, 27, 28, 29, 30, 31, 32, 33, 34, 35, 36, 37, 38] (by decide +kernel) (by decide +kernel)
set_option maxRecDepth 20000 in
theorem gX8_removePiece_X8_layerOf : GoodIn wsX8_removePiece (wsV RX8 88 RX8 yX8_layerOf wsX8_layerOf) := goodIn_app (goodIn_of _ (by decide +kernel)) ggX8_removePiece_X8_layerOf
theorem dX8_removePiece_0 : decode cX8_removePiece 0 = .ok (.aload_n 0, 1) := by decide +kernel
theorem dX8_removePiece_1 : decode cX8_removePiece 1 = .ok (.iload_n 1, 1) := by decide +kernel
theorem dX8_removePiece_2 : decode cX8_removePiece 2 = .ok (.invokevirtual 85, 3) := by decide +kernel
theorem dX8_removePiece_5 : decode cX8_removePiece 5 = .ok (.ifCond .ne 6, 3) := by decide +kernel
theorem dX8_removePiece_8 : decode cX8_removePiece 8 = .ok (.bipush (-101), 2) := by decide +kernel
theorem dX8_removePiece_10 : decode cX8_removePiece 10 = .ok (.ireturn, 1) := by decide +kernel
theorem dX8_removePiece_11 : decode cX8_removePiece 11 = .ok (.aload_n 0, 1) := by decide +kernel
theorem dX8_removePiece_12 : decode cX8_removePiece 12 = .ok (.aload_n 0, 1) := by decide +kernel
theorem dX8_removePiece_13 : decode cX8_removePiece 13 = .ok (.getfield 7, 3) := by decide +kernel
theorem dX8_removePiece_16 : decode cX8_removePiece 16 = .ok (.invokevirtual 65, 3) := by decide +kernel
theorem dX8_removePiece_19 : decode cX8_removePiece 19 = .ok (.aload_n 0, 1) := by decide +kernel
theorem dX8_removePiece_20 : decode cX8_removePiece 20 = .ok (.iload_n 1, 1) := by decide +kernel
theorem dX8_removePiece_21 : decode cX8_removePiece 21 = .ok (.invokevirtual 88, 3) := by decide +kernel
theorem dX8_removePiece_24 : decode cX8_removePiece 24 = .ok (.istore_n 2, 1) := by decide +kernel
theorem dX8_removePiece_25 : decode cX8_removePiece 25 = .ok (.aload_n 0, 1) := by decide +kernel
theorem dX8_removePiece_26 : decode cX8_removePiece 26 = .ok (.getfield 7, 3) := by decide +kernel
theorem dX8_removePiece_29 : decode cX8_removePiece 29 = .ok (.iconst 2, 1) := by decide +kernel
theorem dX8_removePiece_30 : decode cX8_removePiece 30 = .ok (.dup2, 1) := by decide +kernel
theorem dX8_removePiece_31 : decode cX8_removePiece 31 = .ok (.iaload, 1) := by decide +kernel
theorem dX8_removePiece_32 : decode cX8_removePiece 32 = .ok (.iconst 1, 1) := by decide +kernel
theorem dX8_removePiece_33 : decode cX8_removePiece 33 = .ok (.isub, 1) := by decide +kernel
theorem dX8_removePiece_34 : decode cX8_removePiece 34 = .ok (.iastore, 1) := by decide +kernel
theorem dX8_removePiece_35 : decode cX8_removePiece 35 = .ok (.bipush 6, 2) := by decide +kernel
theorem dX8_removePiece_37 : decode cX8_removePiece 37 = .ok (.iload_n 1, 1) := by decide +kernel
theorem dX8_removePiece_38 : decode cX8_removePiece 38 = .ok (.imul, 1) := by decide +kernel
theorem dX8_removePiece_39 : decode cX8_removePiece 39 = .ok (.istore_n 3, 1) := by decide +kernel
theorem dX8_removePiece_40 : decode cX8_removePiece 40 = .ok (.iload_n 3, 1) := by decide +kernel
theorem dX8_removePiece_41 : decode cX8_removePiece 41 = .ok (.bipush 6, 2) := by decide +kernel
theorem dX8_removePiece_43 : decode cX8_removePiece 43 = .ok (.aload_n 0, 1) := by decide +kernel
theorem dX8_removePiece_44 : decode cX8_removePiece 44 = .ok (.getfield 7, 3) := by decide +kernel
theorem dX8_removePiece_47 : decode cX8_removePiece 47 = .ok (.iconst 2, 1) := by decide +kernel
theorem dX8_removePiece_48 : decode cX8_removePiece 48 = .ok (.iaload, 1) := by decide +kernel
theorem dX8_removePiece_49 : decode cX8_removePiece 49 = .ok (.imul, 1) := by decide +kernel
theorem dX8_removePiece_50 : decode cX8_removePiece 50 = .ok (.if_icmp .ge 28, 3) := by decide +kernel
theorem dX8_removePiece_53 : decode cX8_removePiece 53 = .ok (.aload_n 0, 1) := by decide +kernel
theorem dX8_removePiece_54 : decode cX8_removePiece 54 = .ok (.getfield 7, 3) := by decide +kernel
theorem dX8_removePiece_57 : decode cX8_removePiece 57 = .ok (.iconst 4, 1) := by decide +kernel
theorem dX8_removePiece_58 : decode cX8_removePiece 58 = .ok (.iload_n 3, 1) := by decide +kernel
theorem dX8_removePiece_59 : decode cX8_removePiece 59 = .ok (.iadd, 1) := by decide +kernel
theorem dX8_removePiece_60 : decode cX8_removePiece 60 = .ok (.aload_n 0, 1) := by decide +kernel
theorem dX8_removePiece_61 : decode cX8_removePiece 61 = .ok (.getfield 7, 3) := by decide +kernel
theorem dX8_removePiece_64 : decode cX8_removePiece 64 = .ok (.iconst 4, 1) := by decide +kernel
theorem dX8_removePiece_65 : decode cX8_removePiece 65 = .ok (.iload_n 3, 1) := by decide +kernel
theorem dX8_removePiece_66 : decode cX8_removePiece 66 = .ok (.iadd, 1) := by decide +kernel
theorem dX8_removePiece_67 : decode cX8_removePiece 67 = .ok (.bipush 6, 2) := by decide +kernel
theorem dX8_removePiece_69 : decode cX8_removePiece 69 = .ok (.iadd, 1) := by decide +kernel
theorem dX8_removePiece_70 : decode cX8_removePiece 70 = .ok (.iaload, 1) := by decide +kernel
theorem dX8_removePiece_71 : decode cX8_removePiece 71 = .ok (.iastore, 1) := by decide +kernel
theorem dX8_removePiece_72 : decode cX8_removePiece 72 = .ok (.iinc 3 1, 3) := by decide +kernel
theorem dX8_removePiece_75 : decode cX8_removePiece 75 = .ok (.goto (-35), 3) := by decide +kernel
theorem dX8_removePiece_78 : decode cX8_removePiece 78 = .ok (.iconst 0, 1) := by decide +kernel
theorem dX8_removePiece_79 : decode cX8_removePiece 79 = .ok (.istore_n 3, 1) := by decide +kernel
theorem dX8_removePiece_80 : decode cX8_removePiece 80 = .ok (.iload_n 3, 1) := by decide +kernel
theorem dX8_removePiece_81 : decode cX8_removePiece 81 = .ok (.aload_n 0, 1) := by decide +kernel
theorem dX8_removePiece_82 : decode cX8_removePiece 82 = .ok (.getfield 7, 3) := by decide +kernel
theorem dX8_removePiece_85 : decode cX8_removePiece 85 = .ok (.iconst 2, 1) := by decide +kernel
theorem dX8_removePiece_86 : decode cX8_removePiece 86 = .ok (.iaload, 1) := by decide +kernel
theorem dX8_removePiece_87 : decode cX8_removePiece 87 = .ok (.if_icmp .ge 55, 3) := by decide +kernel
theorem dX8_removePiece_90 : decode cX8_removePiece 90 = .ok (.aload_n 0, 1) := by decide +kernel
theorem dX8_removePiece_91 : decode cX8_removePiece 91 = .ok (.getfield 7, 3) := by decide +kernel
theorem dX8_removePiece_94 : decode cX8_removePiece 94 = .ok (.bipush 76, 2) := by decide +kernel
theorem dX8_removePiece_96 : decode cX8_removePiece 96 = .ok (.iload_n 3, 1) := by decide +kernel
theorem dX8_removePiece_97 : decode cX8_removePiece 97 = .ok (.iload_n 2, 1) := by decide +kernel
theorem dX8_removePiece_98 : decode cX8_removePiece 98 = .ok (.if_icmp .ge 7, 3) := by decide +kernel
theorem dX8_removePiece_101 : decode cX8_removePiece 101 = .ok (.iload_n 3, 1) := by decide +kernel
theorem dX8_removePiece_102 : decode cX8_removePiece 102 = .ok (.goto 6, 3) := by decide +kernel
theorem dX8_removePiece_105 : decode cX8_removePiece 105 = .ok (.iload_n 3, 1) := by decide +kernel
theorem dX8_removePiece_106 : decode cX8_removePiece 106 = .ok (.iconst 1, 1) := by decide +kernel
theorem dX8_removePiece_107 : decode cX8_removePiece 107 = .ok (.iadd, 1) := by decide +kernel
theorem dX8_removePiece_108 : decode cX8_removePiece 108 = .ok (.iadd, 1) := by decide +kernel
theorem dX8_removePiece_109 : decode cX8_removePiece 109 = .ok (.iaload, 1) := by decide +kernel
theorem dX8_removePiece_110 : decode cX8_removePiece 110 = .ok (.istore 4, 2) := by decide +kernel
theorem dX8_removePiece_112 : decode cX8_removePiece 112 = .ok (.aload_n 0, 1) := by decide +kernel
theorem dX8_removePiece_113 : decode cX8_removePiece 113 = .ok (.getfield 7, 3) := by decide +kernel
theorem dX8_removePiece_116 : decode cX8_removePiece 116 = .ok (.bipush 76, 2) := by decide +kernel
theorem dX8_removePiece_118 : decode cX8_removePiece 118 = .ok (.iload_n 3, 1) := by decide +kernel
theorem dX8_removePiece_119 : decode cX8_removePiece 119 = .ok (.iadd, 1) := by decide +kernel
theorem dX8_removePiece_120 : decode cX8_removePiece 120 = .ok (.iload 4, 2) := by decide +kernel
theorem dX8_removePiece_122 : decode cX8_removePiece 122 = .ok (.iload_n 1, 1) := by decide +kernel
theorem dX8_removePiece_123 : decode cX8_removePiece 123 = .ok (.if_icmp .le 10, 3) := by decide +kernel
theorem dX8_removePiece_126 : decode cX8_removePiece 126 = .ok (.iload 4, 2) := by decide +kernel
theorem dX8_removePiece_128 : decode cX8_removePiece 128 = .ok (.iconst 1, 1) := by decide +kernel
theorem dX8_removePiece_129 : decode cX8_removePiece 129 = .ok (.isub, 1) := by decide +kernel
theorem dX8_removePiece_130 : decode cX8_removePiece 130 = .ok (.goto 5, 3) := by decide +kernel
theorem dX8_removePiece_133 : decode cX8_removePiece 133 = .ok (.iload 4, 2) := by decide +kernel
theorem dX8_removePiece_135 : decode cX8_removePiece 135 = .ok (.iastore, 1) := by decide +kernel
theorem dX8_removePiece_136 : decode cX8_removePiece 136 = .ok (.iinc 3 1, 3) := by decide +kernel
theorem dX8_removePiece_139 : decode cX8_removePiece 139 = .ok (.goto (-59), 3) := by decide +kernel
theorem dX8_removePiece_142 : decode cX8_removePiece 142 = .ok (.aload_n 0, 1) := by decide +kernel
theorem dX8_removePiece_143 : decode cX8_removePiece 143 = .ok (.getfield 7, 3) := by decide +kernel
theorem dX8_removePiece_146 : decode cX8_removePiece 146 = .ok (.iconst 2, 1) := by decide +kernel
theorem dX8_removePiece_147 : decode cX8_removePiece 147 = .ok (.iaload, 1) := by decide +kernel
theorem dX8_removePiece_148 : decode cX8_removePiece 148 = .ok (.ireturn, 1) := by decide +kernel
set_option maxRecDepth 20000 in
theorem ggX8_put_X8_record : GoodIn wsX8_put wsX8_record := goodIn_r _ [6, 7, 8, 9, 10, 11, 12, 13, 14, 15, 16, 17, 18, 19, 20, 21, 22, 23, 24, 25, 26, 27] (by decide +kernel) (by decide +kernel)
set_option maxRecDepth 20000 in
theorem gX8_put_X8_record : GoodIn wsX8_put (wsV RX8 65 RX8 yX8_record wsX8_record) := goodIn_app (goodIn_of _ (by decide +kernel)) ggX8_put_X8_record
theorem dX8_put_0 : decode cX8_put 0 = .ok (.aload_n 0, 1) := by decide +kernel
theorem dX8_put_1 : decode cX8_put 1 = .ok (.aload_n 0, 1) := by decide +kernel
theorem dX8_put_2 : decode cX8_put 2 = .ok (.getfield 7, 3) := by decide +kernel
theorem dX8_put_5 : decode cX8_put 5 = .ok (.invokevirtual 65, 3) := by decide +kernel
theorem dX8_put_8 : decode cX8_put 8 = .ok (.aload_n 0, 1) := by decide +kernel
theorem dX8_put_9 : decode cX8_put 9 = .ok (.getfield 7, 3) := by decide +kernel
theorem dX8_put_12 : decode cX8_put 12 = .ok (.iload_n 1, 1) := by decide +kernel
theorem dX8_put_13 : decode cX8_put 13 = .ok (.iaload, 1) := by decide +kernel
theorem dX8_put_14 : decode cX8_put 14 = .ok (.istore_n 3, 1) := by decide +kernel
theorem dX8_put_15 : decode cX8_put 15 = .ok (.aload_n 0, 1) := by decide +kernel
theorem dX8_put_16 : decode cX8_put 16 = .ok (.getfield 7, 3) := by decide +kernel
theorem dX8_put_19 : decode cX8_put 19 = .ok (.iload_n 1, 1) := by decide +kernel
theorem dX8_put_20 : decode cX8_put 20 = .ok (.iload_n 2, 1) := by decide +kernel
theorem dX8_put_21 : decode cX8_put 21 = .ok (.iastore, 1) := by decide +kernel
theorem dX8_put_22 : decode cX8_put 22 = .ok (.iload_n 3, 1) := by decide +kernel
theorem dX8_put_23 : decode cX8_put 23 = .ok (.ireturn, 1) := by decide +kernel
set_option maxRecDepth 20000 in
theorem ggX8_setShare_X8_isPiece : GoodIn wsX8_setShare wsX8_isPiece := goodIn_r _ [5, 6, 7, 8, 4, 9, 20, 21, 22, 23, 24, 25, 26, 27, 28, 29, 30, 31, 32, 33, 34, 35, 36, 37, 38] (by decide +kernel) (by decide +kernel)
set_option maxRecDepth 20000 in
theorem gX8_setShare_X8_isPiece : GoodIn wsX8_setShare (wsV RX8 85 RX8 yX8_isPiece wsX8_isPiece) := goodIn_app (goodIn_of _ (by decide +kernel)) ggX8_setShare_X8_isPiece
set_option maxRecDepth 20000 in
theorem ggX8_setShare_X8_in : GoodIn wsX8_setShare wsX8_in := goodIn_r _ [9] (by decide +kernel) (by decide +kernel)
set_option maxRecDepth 20000 in
theorem gX8_setShare_X8_in : GoodIn wsX8_setShare (va_wsS RX8 42 yX8_in wsX8_in) := goodIn_app (goodIn_of _ (by decide +kernel)) ggX8_setShare_X8_in
set_option maxRecDepth 20000 in
theorem ggX8_setShare_X8_put : GoodIn wsX8_setShare wsX8_put := goodIn_r _ [13, 6, 14, 15, 16, 4, 17, 18, 19, 20, 21, 22, 23, 24, 25, 26, 27, 28, 29, 30, 31, 32, 33, 34, 35, 36, 37, 38] (by decide +kernel) (by decide +kernel)
set_option maxRecDepth 20000 in
theorem gX8_setShare_X8_put : GoodIn wsX8_setShare (wsV RX8 91 RX8 yX8_put wsX8_put) := goodIn_app (goodIn_of _ (by decide +kernel)) ggX8_setShare_X8_put
theorem dX8_setShare_0 : decode cX8_setShare 0 = .ok (.aload_n 0, 1) := by decide +kernel
theorem dX8_setShare_1 : decode cX8_setShare 1 = .ok (.iload_n 1, 1) := by decide +kernel
theorem dX8_setShare_2 : decode cX8_setShare 2 = .ok (.invokevirtual 85, 3) := by decide +kernel
theorem dX8_setShare_5 : decode cX8_setShare 5 = .ok (.ifCond .eq 29, 3) := by decide +kernel
theorem dX8_setShare_8 : decode cX8_setShare 8 = .ok (.iload_n 2, 1) := by decide +kernel
theorem dX8_setShare_9 : decode cX8_setShare 9 = .ok (.iconst 0, 1) := by decide +kernel
theorem dX8_setShare_10 : decode cX8_setShare 10 = .ok (.bipush 100, 2) := by decide +kernel
theorem dX8_setShare_12 : decode cX8_setShare 12 = .ok (.invokestatic 42, 3) := by decide +kernel
theorem dX8_setShare_15 : decode cX8_setShare 15 = .ok (.ifCond .eq 19, 3) := by decide +kernel
theorem dX8_setShare_18 : decode cX8_setShare 18 = .ok (.aload_n 0, 1) := by decide +kernel
theorem dX8_setShare_19 : decode cX8_setShare 19 = .ok (.iconst 4, 1) := by decide +kernel
theorem dX8_setShare_20 : decode cX8_setShare 20 = .ok (.bipush 6, 2) := by decide +kernel
theorem dX8_setShare_22 : decode cX8_setShare 22 = .ok (.iload_n 1, 1) := by decide +kernel
theorem dX8_setShare_23 : decode cX8_setShare 23 = .ok (.imul, 1) := by decide +kernel
theorem dX8_setShare_24 : decode cX8_setShare 24 = .ok (.iadd, 1) := by decide +kernel
theorem dX8_setShare_25 : decode cX8_setShare 25 = .ok (.iconst 4, 1) := by decide +kernel
theorem dX8_setShare_26 : decode cX8_setShare 26 = .ok (.iadd, 1) := by decide +kernel
theorem dX8_setShare_27 : decode cX8_setShare 27 = .ok (.iload_n 2, 1) := by decide +kernel
theorem dX8_setShare_28 : decode cX8_setShare 28 = .ok (.invokevirtual 91, 3) := by decide +kernel
theorem dX8_setShare_31 : decode cX8_setShare 31 = .ok (.goto 5, 3) := by decide +kernel
theorem dX8_setShare_34 : decode cX8_setShare 34 = .ok (.bipush (-101), 2) := by decide +kernel
theorem dX8_setShare_36 : decode cX8_setShare 36 = .ok (.ireturn, 1) := by decide +kernel
set_option maxRecDepth 20000 in
theorem ggX8_setFrame_X8_isPiece : GoodIn wsX8_setFrame wsX8_isPiece := goodIn_r _ [5, 6, 7, 8, 4, 9, 20, 21, 22, 23, 24, 25, 26, 27, 28, 29, 30, 31, 32, 33, 34, 35, 36, 37, 38] (by decide +kernel) (by decide +kernel)
set_option maxRecDepth 20000 in
theorem gX8_setFrame_X8_isPiece : GoodIn wsX8_setFrame (wsV RX8 85 RX8 yX8_isPiece wsX8_isPiece) := goodIn_app (goodIn_of _ (by decide +kernel)) ggX8_setFrame_X8_isPiece
set_option maxRecDepth 20000 in
theorem ggX8_setFrame_X8_in : GoodIn wsX8_setFrame wsX8_in := goodIn_r _ [9] (by decide +kernel) (by decide +kernel)
set_option maxRecDepth 20000 in
theorem gX8_setFrame_X8_in : GoodIn wsX8_setFrame (va_wsS RX8 42 yX8_in wsX8_in) := goodIn_app (goodIn_of _ (by decide +kernel)) ggX8_setFrame_X8_in
set_option maxRecDepth 20000 in
theorem ggX8_setFrame_X8_put : GoodIn wsX8_setFrame wsX8_put := goodIn_r _ [13, 6, 14, 15, 16, 4, 17, 18, 19, 20, 21, 22, 23, 24, 25, 26, 27, 28, 29, 30, 31, 32, 33, 34, 35, 36, 37, 38] (by decide +kernel) (by decide +kernel)
set_option maxRecDepth 20000 in
theorem gX8_setFrame_X8_put : GoodIn wsX8_setFrame (wsV RX8 91 RX8 yX8_put wsX8_put) := goodIn_app (goodIn_of _ (by decide +kernel)) ggX8_setFrame_X8_put
theorem dX8_setFrame_0 : decode cX8_setFrame 0 = .ok (.aload_n 0, 1) := by decide +kernel
theorem dX8_setFrame_1 : decode cX8_setFrame 1 = .ok (.iload_n 1, 1) := by decide +kernel
theorem dX8_setFrame_2 : decode cX8_setFrame 2 = .ok (.invokevirtual 85, 3) := by decide +kernel
theorem dX8_setFrame_5 : decode cX8_setFrame 5 = .ok (.ifCond .eq 28, 3) := by decide +kernel
theorem dX8_setFrame_8 : decode cX8_setFrame 8 = .ok (.iload_n 2, 1) := by decide +kernel
theorem dX8_setFrame_9 : decode cX8_setFrame 9 = .ok (.iconst 0, 1) := by decide +kernel
theorem dX8_setFrame_10 : decode cX8_setFrame 10 = .ok (.iconst 3, 1) := by decide +kernel
theorem dX8_setFrame_11 : decode cX8_setFrame 11 = .ok (.invokestatic 42, 3) := by decide +kernel
theorem dX8_setFrame_14 : decode cX8_setFrame 14 = .ok (.ifCond .eq 19, 3) := by decide +kernel
theorem dX8_setFrame_17 : decode cX8_setFrame 17 = .ok (.aload_n 0, 1) := by decide +kernel
theorem dX8_setFrame_18 : decode cX8_setFrame 18 = .ok (.iconst 4, 1) := by decide +kernel
theorem dX8_setFrame_19 : decode cX8_setFrame 19 = .ok (.bipush 6, 2) := by decide +kernel
theorem dX8_setFrame_21 : decode cX8_setFrame 21 = .ok (.iload_n 1, 1) := by decide +kernel
theorem dX8_setFrame_22 : decode cX8_setFrame 22 = .ok (.imul, 1) := by decide +kernel
theorem dX8_setFrame_23 : decode cX8_setFrame 23 = .ok (.iadd, 1) := by decide +kernel
theorem dX8_setFrame_24 : decode cX8_setFrame 24 = .ok (.iconst 5, 1) := by decide +kernel
theorem dX8_setFrame_25 : decode cX8_setFrame 25 = .ok (.iadd, 1) := by decide +kernel
theorem dX8_setFrame_26 : decode cX8_setFrame 26 = .ok (.iload_n 2, 1) := by decide +kernel
theorem dX8_setFrame_27 : decode cX8_setFrame 27 = .ok (.invokevirtual 91, 3) := by decide +kernel
theorem dX8_setFrame_30 : decode cX8_setFrame 30 = .ok (.goto 5, 3) := by decide +kernel
theorem dX8_setFrame_33 : decode cX8_setFrame 33 = .ok (.bipush (-101), 2) := by decide +kernel
theorem dX8_setFrame_35 : decode cX8_setFrame 35 = .ok (.ireturn, 1) := by decide +kernel
set_option maxRecDepth 20000 in
theorem ggX8_isPossible_X8_of : GoodIn wsX8_isPossible wsX8_of := goodIn_r _ [5, 6, 13, 14, 15, 16, 17, 18, 19, 20, 21, 22, 23, 24, 25, 26, 27, 28, 29, 30, 31] (by decide +kernel) (by decide +kernel)
set_option maxRecDepth 20000 in
theorem gX8_isPossible_X8_of : GoodIn wsX8_isPossible (wsV RX8 46 RX8 yX8_of wsX8_of) := goodIn_app (goodIn_of _ (by decide +kernel)) ggX8_isPossible_X8_of
set_option maxRecDepth 20000 in
theorem ggX8_isPossible_X8_isPlace : GoodIn wsX8_isPossible wsX8_isPlace := goodIn_r _ [9, 10, 11, 4, 12] (by decide +kernel) (by decide +kernel)
set_option maxRecDepth 20000 in
theorem gX8_isPossible_X8_isPlace : GoodIn wsX8_isPossible (va_wsS RX8 75 yX8_isPlace wsX8_isPlace) := goodIn_app (goodIn_of _ (by decide +kernel)) ggX8_isPossible_X8_isPlace
theorem dX8_isPossible_0 : decode cX8_isPossible 0 = .ok (.aload_n 0, 1) := by decide +kernel
theorem dX8_isPossible_1 : decode cX8_isPossible 1 = .ok (.iload_n 1, 1) := by decide +kernel
theorem dX8_isPossible_2 : decode cX8_isPossible 2 = .ok (.iconst 0, 1) := by decide +kernel
theorem dX8_isPossible_3 : decode cX8_isPossible 3 = .ok (.invokevirtual 46, 3) := by decide +kernel
theorem dX8_isPossible_6 : decode cX8_isPossible 6 = .ok (.iload_n 2, 1) := by decide +kernel
theorem dX8_isPossible_7 : decode cX8_isPossible 7 = .ok (.iadd, 1) := by decide +kernel
theorem dX8_isPossible_8 : decode cX8_isPossible 8 = .ok (.invokestatic 75, 3) := by decide +kernel
theorem dX8_isPossible_11 : decode cX8_isPossible 11 = .ok (.ifCond .eq 21, 3) := by decide +kernel
theorem dX8_isPossible_14 : decode cX8_isPossible 14 = .ok (.aload_n 0, 1) := by decide +kernel
theorem dX8_isPossible_15 : decode cX8_isPossible 15 = .ok (.iload_n 1, 1) := by decide +kernel
theorem dX8_isPossible_16 : decode cX8_isPossible 16 = .ok (.iconst 1, 1) := by decide +kernel
theorem dX8_isPossible_17 : decode cX8_isPossible 17 = .ok (.invokevirtual 46, 3) := by decide +kernel
theorem dX8_isPossible_20 : decode cX8_isPossible 20 = .ok (.iload_n 3, 1) := by decide +kernel
theorem dX8_isPossible_21 : decode cX8_isPossible 21 = .ok (.iadd, 1) := by decide +kernel
theorem dX8_isPossible_22 : decode cX8_isPossible 22 = .ok (.invokestatic 75, 3) := by decide +kernel
theorem dX8_isPossible_25 : decode cX8_isPossible 25 = .ok (.ifCond .eq 7, 3) := by decide +kernel
theorem dX8_isPossible_28 : decode cX8_isPossible 28 = .ok (.iconst 1, 1) := by decide +kernel
theorem dX8_isPossible_29 : decode cX8_isPossible 29 = .ok (.goto 4, 3) := by decide +kernel
theorem dX8_isPossible_32 : decode cX8_isPossible 32 = .ok (.iconst 0, 1) := by decide +kernel
theorem dX8_isPossible_33 : decode cX8_isPossible 33 = .ok (.ireturn, 1) := by decide +kernel
theorem dX8_shifts_0 : decode cX8_shifts 0 = .ok (.aload_n 0, 1) := by decide +kernel
theorem dX8_shifts_1 : decode cX8_shifts 1 = .ok (.getfield 7, 3) := by decide +kernel
theorem dX8_shifts_4 : decode cX8_shifts 4 = .ok (.iconst 4, 1) := by decide +kernel
theorem dX8_shifts_5 : decode cX8_shifts 5 = .ok (.bipush 6, 2) := by decide +kernel
theorem dX8_shifts_7 : decode cX8_shifts 7 = .ok (.iload_n 1, 1) := by decide +kernel
theorem dX8_shifts_8 : decode cX8_shifts 8 = .ok (.imul, 1) := by decide +kernel
theorem dX8_shifts_9 : decode cX8_shifts 9 = .ok (.iadd, 1) := by decide +kernel
theorem dX8_shifts_10 : decode cX8_shifts 10 = .ok (.iconst 0, 1) := by decide +kernel
theorem dX8_shifts_11 : decode cX8_shifts 11 = .ok (.iadd, 1) := by decide +kernel
theorem dX8_shifts_12 : decode cX8_shifts 12 = .ok (.dup2, 1) := by decide +kernel
theorem dX8_shifts_13 : decode cX8_shifts 13 = .ok (.iaload, 1) := by decide +kernel
theorem dX8_shifts_14 : decode cX8_shifts 14 = .ok (.iload_n 2, 1) := by decide +kernel
theorem dX8_shifts_15 : decode cX8_shifts 15 = .ok (.iadd, 1) := by decide +kernel
theorem dX8_shifts_16 : decode cX8_shifts 16 = .ok (.iastore, 1) := by decide +kernel
theorem dX8_shifts_17 : decode cX8_shifts 17 = .ok (.aload_n 0, 1) := by decide +kernel
theorem dX8_shifts_18 : decode cX8_shifts 18 = .ok (.getfield 7, 3) := by decide +kernel
theorem dX8_shifts_21 : decode cX8_shifts 21 = .ok (.iconst 4, 1) := by decide +kernel
theorem dX8_shifts_22 : decode cX8_shifts 22 = .ok (.bipush 6, 2) := by decide +kernel
theorem dX8_shifts_24 : decode cX8_shifts 24 = .ok (.iload_n 1, 1) := by decide +kernel
theorem dX8_shifts_25 : decode cX8_shifts 25 = .ok (.imul, 1) := by decide +kernel
theorem dX8_shifts_26 : decode cX8_shifts 26 = .ok (.iadd, 1) := by decide +kernel
theorem dX8_shifts_27 : decode cX8_shifts 27 = .ok (.iconst 1, 1) := by decide +kernel
theorem dX8_shifts_28 : decode cX8_shifts 28 = .ok (.iadd, 1) := by decide +kernel
theorem dX8_shifts_29 : decode cX8_shifts 29 = .ok (.dup2, 1) := by decide +kernel
theorem dX8_shifts_30 : decode cX8_shifts 30 = .ok (.iaload, 1) := by decide +kernel
theorem dX8_shifts_31 : decode cX8_shifts 31 = .ok (.iload_n 3, 1) := by decide +kernel
theorem dX8_shifts_32 : decode cX8_shifts 32 = .ok (.iadd, 1) := by decide +kernel
theorem dX8_shifts_33 : decode cX8_shifts 33 = .ok (.iastore, 1) := by decide +kernel
theorem dX8_shifts_34 : decode cX8_shifts 34 = .ok (.return_, 1) := by decide +kernel
set_option maxRecDepth 20000 in
theorem ggX8_shift_X8_isPiece : GoodIn wsX8_shift wsX8_isPiece := goodIn_r _ [6, 1, 7, 8, 5, 9, 34, 35, 36, 37, 38, 39, 40, 41, 42, 43, 44, 45, 46, 47, 48, 49, 50, 51, 52] (by decide +kernel) (by decide +kernel)
set_option maxRecDepth 20000 in
theorem gX8_shift_X8_isPiece : GoodIn wsX8_shift (wsV RX8 85 RX8 yX8_isPiece wsX8_isPiece) := goodIn_app (goodIn_of _ (by decide +kernel)) ggX8_shift_X8_isPiece
set_option maxRecDepth 20000 in
theorem ggX8_shift_X8_in : GoodIn wsX8_shift wsX8_in := goodIn_r _ [9] (by decide +kernel) (by decide +kernel)
set_option maxRecDepth 20000 in
theorem gX8_shift_X8_in : GoodIn wsX8_shift (va_wsS RX8 42 yX8_in wsX8_in) := goodIn_app (goodIn_of _ (by decide +kernel)) ggX8_shift_X8_in
set_option maxRecDepth 20000 in
theorem ggX8_shift_X8_isPossible : GoodIn wsX8_shift wsX8_isPossible := goodIn_r _ [13, 14, 15, 16, 5, 17, 1, 18, 19, 20, 7, 8, 9, 34, 35, 36, 37, 38, 39, 40, 41, 42, 43, 44, 45, 46, 47, 48, 49, 50, 51, 52] (by decide +kernel) (by decide +kernel)
set_option maxRecDepth 20000 in
theorem gX8_shift_X8_isPossible : GoodIn wsX8_shift (wsV RX8 94 RX8 yX8_isPossible wsX8_isPossible) := goodIn_app (goodIn_of _ (by decide +kernel)) ggX8_shift_X8_isPossible
set_option maxRecDepth 20000 in
theorem ggX8_shift_X8_record : GoodIn wsX8_shift wsX8_record := goodIn_r _ [24, 25, 26, 34, 35, 36, 37, 38, 39, 40, 41, 42, 43, 44, 45, 46, 47, 48, 49, 50, 51, 52] (by decide +kernel) (by decide +kernel)
set_option maxRecDepth 20000 in
theorem gX8_shift_X8_record : GoodIn wsX8_shift (wsV RX8 65 RX8 yX8_record wsX8_record) := goodIn_app (goodIn_of _ (by decide +kernel)) ggX8_shift_X8_record
set_option maxRecDepth 20000 in
theorem ggX8_shift_X8_shifts : GoodIn wsX8_shift wsX8_shifts := goodIn_r _ [30, 1, 34, 35, 36, 37, 38, 39, 40, 41, 42, 43, 44, 45, 46, 47, 48, 49, 50, 51, 52] (by decide +kernel) (by decide +kernel)
set_option maxRecDepth 20000 in
theorem gX8_shift_X8_shifts : GoodIn wsX8_shift (wsV RX8 97 RX8 yX8_shifts wsX8_shifts) := goodIn_app (goodIn_of _ (by decide +kernel)) ggX8_shift_X8_shifts
set_option maxRecDepth 20000 in
theorem ggX8_shift_X8_size : GoodIn wsX8_shift wsX8_size := goodIn_r _ [33] (by decide +kernel) (by decide +kernel)
set_option maxRecDepth 20000 in
theorem gX8_shift_X8_size : GoodIn wsX8_shift (va_wsS RX8 101 yX8_size wsX8_size) := goodIn_app (goodIn_of _ (by decide +kernel)) ggX8_shift_X8_size
theorem dX8_shift_0 : decode cX8_shift 0 = .ok (.aload_n 0, 1) := by decide +kernel
theorem dX8_shift_1 : decode cX8_shift 1 = .ok (.iload_n 1, 1) := by decide +kernel
theorem dX8_shift_2 : decode cX8_shift 2 = .ok (.invokevirtual 85, 3) := by decide +kernel
theorem dX8_shift_5 : decode cX8_shift 5 = .ok (.ifCond .eq 25, 3) := by decide +kernel
theorem dX8_shift_8 : decode cX8_shift 8 = .ok (.iload_n 2, 1) := by decide +kernel
theorem dX8_shift_9 : decode cX8_shift 9 = .ok (.bipush (-60), 2) := by decide +kernel
theorem dX8_shift_11 : decode cX8_shift 11 = .ok (.bipush 60, 2) := by decide +kernel
theorem dX8_shift_13 : decode cX8_shift 13 = .ok (.invokestatic 42, 3) := by decide +kernel
theorem dX8_shift_16 : decode cX8_shift 16 = .ok (.ifCond .eq 14, 3) := by decide +kernel
theorem dX8_shift_19 : decode cX8_shift 19 = .ok (.iload_n 3, 1) := by decide +kernel
theorem dX8_shift_20 : decode cX8_shift 20 = .ok (.bipush (-60), 2) := by decide +kernel
theorem dX8_shift_22 : decode cX8_shift 22 = .ok (.bipush 60, 2) := by decide +kernel
theorem dX8_shift_24 : decode cX8_shift 24 = .ok (.invokestatic 42, 3) := by decide +kernel
theorem dX8_shift_27 : decode cX8_shift 27 = .ok (.ifCond .ne 6, 3) := by decide +kernel
theorem dX8_shift_30 : decode cX8_shift 30 = .ok (.bipush (-101), 2) := by decide +kernel
theorem dX8_shift_32 : decode cX8_shift 32 = .ok (.ireturn, 1) := by decide +kernel
theorem dX8_shift_33 : decode cX8_shift 33 = .ok (.aload_n 0, 1) := by decide +kernel
theorem dX8_shift_34 : decode cX8_shift 34 = .ok (.iload_n 1, 1) := by decide +kernel
theorem dX8_shift_35 : decode cX8_shift 35 = .ok (.iload_n 2, 1) := by decide +kernel
theorem dX8_shift_36 : decode cX8_shift 36 = .ok (.iload_n 3, 1) := by decide +kernel
theorem dX8_shift_37 : decode cX8_shift 37 = .ok (.invokevirtual 94, 3) := by decide +kernel
theorem dX8_shift_40 : decode cX8_shift 40 = .ok (.ifCond .ne 6, 3) := by decide +kernel
theorem dX8_shift_43 : decode cX8_shift 43 = .ok (.bipush (-102), 2) := by decide +kernel
theorem dX8_shift_45 : decode cX8_shift 45 = .ok (.ireturn, 1) := by decide +kernel
theorem dX8_shift_46 : decode cX8_shift 46 = .ok (.aload_n 0, 1) := by decide +kernel
theorem dX8_shift_47 : decode cX8_shift 47 = .ok (.aload_n 0, 1) := by decide +kernel
theorem dX8_shift_48 : decode cX8_shift 48 = .ok (.getfield 7, 3) := by decide +kernel
theorem dX8_shift_51 : decode cX8_shift 51 = .ok (.invokevirtual 65, 3) := by decide +kernel
theorem dX8_shift_54 : decode cX8_shift 54 = .ok (.aload_n 0, 1) := by decide +kernel
theorem dX8_shift_55 : decode cX8_shift 55 = .ok (.iload_n 1, 1) := by decide +kernel
theorem dX8_shift_56 : decode cX8_shift 56 = .ok (.iload_n 2, 1) := by decide +kernel
theorem dX8_shift_57 : decode cX8_shift 57 = .ok (.iload_n 3, 1) := by decide +kernel
theorem dX8_shift_58 : decode cX8_shift 58 = .ok (.invokevirtual 97, 3) := by decide +kernel
theorem dX8_shift_61 : decode cX8_shift 61 = .ok (.aload_n 0, 1) := by decide +kernel
theorem dX8_shift_62 : decode cX8_shift 62 = .ok (.getfield 7, 3) := by decide +kernel
theorem dX8_shift_65 : decode cX8_shift 65 = .ok (.iconst 3, 1) := by decide +kernel
theorem dX8_shift_66 : decode cX8_shift 66 = .ok (.dup2, 1) := by decide +kernel
theorem dX8_shift_67 : decode cX8_shift 67 = .ok (.iaload, 1) := by decide +kernel
theorem dX8_shift_68 : decode cX8_shift 68 = .ok (.iload_n 2, 1) := by decide +kernel
theorem dX8_shift_69 : decode cX8_shift 69 = .ok (.invokestatic 101, 3) := by decide +kernel
theorem dX8_shift_72 : decode cX8_shift 72 = .ok (.iload_n 3, 1) := by decide +kernel
theorem dX8_shift_73 : decode cX8_shift 73 = .ok (.invokestatic 101, 3) := by decide +kernel
theorem dX8_shift_76 : decode cX8_shift 76 = .ok (.iadd, 1) := by decide +kernel
theorem dX8_shift_77 : decode cX8_shift 77 = .ok (.iadd, 1) := by decide +kernel
theorem dX8_shift_78 : decode cX8_shift 78 = .ok (.iastore, 1) := by decide +kernel
theorem dX8_shift_79 : decode cX8_shift 79 = .ok (.iload_n 2, 1) := by decide +kernel
theorem dX8_shift_80 : decode cX8_shift 80 = .ok (.invokestatic 101, 3) := by decide +kernel
theorem dX8_shift_83 : decode cX8_shift 83 = .ok (.iload_n 3, 1) := by decide +kernel
theorem dX8_shift_84 : decode cX8_shift 84 = .ok (.invokestatic 101, 3) := by decide +kernel
theorem dX8_shift_87 : decode cX8_shift 87 = .ok (.iadd, 1) := by decide +kernel
theorem dX8_shift_88 : decode cX8_shift 88 = .ok (.ireturn, 1) := by decide +kernel
set_option maxRecDepth 20000 in
theorem ggX8_lays_X8_layerOf : GoodIn wsX8_lays wsX8_layerOf := goodIn_r _ [6, 1, 7, 8, 9, 10, 11, 12, 13, 14, 15, 16, 17, 18, 19, 20, 21, 22, 23, 24, 25] (by decide +kernel) (by decide +kernel)
set_option maxRecDepth 20000 in
theorem gX8_lays_X8_layerOf : GoodIn wsX8_lays (wsV RX8 88 RX8 yX8_layerOf wsX8_layerOf) := goodIn_app (goodIn_of _ (by decide +kernel)) ggX8_lays_X8_layerOf
theorem dX8_lays_0 : decode cX8_lays 0 = .ok (.aload_n 0, 1) := by decide +kernel
theorem dX8_lays_1 : decode cX8_lays 1 = .ok (.iload_n 1, 1) := by decide +kernel
theorem dX8_lays_2 : decode cX8_lays 2 = .ok (.invokevirtual 88, 3) := by decide +kernel
theorem dX8_lays_5 : decode cX8_lays 5 = .ok (.istore_n 3, 1) := by decide +kernel
theorem dX8_lays_6 : decode cX8_lays 6 = .ok (.iload_n 3, 1) := by decide +kernel
theorem dX8_lays_7 : decode cX8_lays 7 = .ok (.istore 4, 2) := by decide +kernel
theorem dX8_lays_9 : decode cX8_lays 9 = .ok (.iload 4, 2) := by decide +kernel
theorem dX8_lays_11 : decode cX8_lays 11 = .ok (.iload_n 2, 1) := by decide +kernel
theorem dX8_lays_12 : decode cX8_lays 12 = .ok (.if_icmp .le 31, 3) := by decide +kernel
theorem dX8_lays_15 : decode cX8_lays 15 = .ok (.aload_n 0, 1) := by decide +kernel
theorem dX8_lays_16 : decode cX8_lays 16 = .ok (.getfield 7, 3) := by decide +kernel
theorem dX8_lays_19 : decode cX8_lays 19 = .ok (.bipush 76, 2) := by decide +kernel
theorem dX8_lays_21 : decode cX8_lays 21 = .ok (.iload 4, 2) := by decide +kernel
theorem dX8_lays_23 : decode cX8_lays 23 = .ok (.iadd, 1) := by decide +kernel
theorem dX8_lays_24 : decode cX8_lays 24 = .ok (.aload_n 0, 1) := by decide +kernel
theorem dX8_lays_25 : decode cX8_lays 25 = .ok (.getfield 7, 3) := by decide +kernel
theorem dX8_lays_28 : decode cX8_lays 28 = .ok (.bipush 76, 2) := by decide +kernel
theorem dX8_lays_30 : decode cX8_lays 30 = .ok (.iload 4, 2) := by decide +kernel
theorem dX8_lays_32 : decode cX8_lays 32 = .ok (.iadd, 1) := by decide +kernel
theorem dX8_lays_33 : decode cX8_lays 33 = .ok (.iconst 1, 1) := by decide +kernel
theorem dX8_lays_34 : decode cX8_lays 34 = .ok (.isub, 1) := by decide +kernel
theorem dX8_lays_35 : decode cX8_lays 35 = .ok (.iaload, 1) := by decide +kernel
theorem dX8_lays_36 : decode cX8_lays 36 = .ok (.iastore, 1) := by decide +kernel
theorem dX8_lays_37 : decode cX8_lays 37 = .ok (.iinc 4 (-1), 3) := by decide +kernel
theorem dX8_lays_40 : decode cX8_lays 40 = .ok (.goto (-31), 3) := by decide +kernel
theorem dX8_lays_43 : decode cX8_lays 43 = .ok (.iload_n 3, 1) := by decide +kernel
theorem dX8_lays_44 : decode cX8_lays 44 = .ok (.istore 4, 2) := by decide +kernel
theorem dX8_lays_46 : decode cX8_lays 46 = .ok (.iload 4, 2) := by decide +kernel
theorem dX8_lays_48 : decode cX8_lays 48 = .ok (.iload_n 2, 1) := by decide +kernel
theorem dX8_lays_49 : decode cX8_lays 49 = .ok (.if_icmp .ge 31, 3) := by decide +kernel
theorem dX8_lays_52 : decode cX8_lays 52 = .ok (.aload_n 0, 1) := by decide +kernel
theorem dX8_lays_53 : decode cX8_lays 53 = .ok (.getfield 7, 3) := by decide +kernel
theorem dX8_lays_56 : decode cX8_lays 56 = .ok (.bipush 76, 2) := by decide +kernel
theorem dX8_lays_58 : decode cX8_lays 58 = .ok (.iload 4, 2) := by decide +kernel
theorem dX8_lays_60 : decode cX8_lays 60 = .ok (.iadd, 1) := by decide +kernel
theorem dX8_lays_61 : decode cX8_lays 61 = .ok (.aload_n 0, 1) := by decide +kernel
theorem dX8_lays_62 : decode cX8_lays 62 = .ok (.getfield 7, 3) := by decide +kernel
theorem dX8_lays_65 : decode cX8_lays 65 = .ok (.bipush 76, 2) := by decide +kernel
theorem dX8_lays_67 : decode cX8_lays 67 = .ok (.iload 4, 2) := by decide +kernel
theorem dX8_lays_69 : decode cX8_lays 69 = .ok (.iadd, 1) := by decide +kernel
theorem dX8_lays_70 : decode cX8_lays 70 = .ok (.iconst 1, 1) := by decide +kernel
theorem dX8_lays_71 : decode cX8_lays 71 = .ok (.iadd, 1) := by decide +kernel
theorem dX8_lays_72 : decode cX8_lays 72 = .ok (.iaload, 1) := by decide +kernel
theorem dX8_lays_73 : decode cX8_lays 73 = .ok (.iastore, 1) := by decide +kernel
theorem dX8_lays_74 : decode cX8_lays 74 = .ok (.iinc 4 1, 3) := by decide +kernel
theorem dX8_lays_77 : decode cX8_lays 77 = .ok (.goto (-31), 3) := by decide +kernel
theorem dX8_lays_80 : decode cX8_lays 80 = .ok (.aload_n 0, 1) := by decide +kernel
theorem dX8_lays_81 : decode cX8_lays 81 = .ok (.getfield 7, 3) := by decide +kernel
theorem dX8_lays_84 : decode cX8_lays 84 = .ok (.bipush 76, 2) := by decide +kernel
theorem dX8_lays_86 : decode cX8_lays 86 = .ok (.iload_n 2, 1) := by decide +kernel
theorem dX8_lays_87 : decode cX8_lays 87 = .ok (.iadd, 1) := by decide +kernel
theorem dX8_lays_88 : decode cX8_lays 88 = .ok (.iload_n 1, 1) := by decide +kernel
theorem dX8_lays_89 : decode cX8_lays 89 = .ok (.iastore, 1) := by decide +kernel
theorem dX8_lays_90 : decode cX8_lays 90 = .ok (.iload_n 3, 1) := by decide +kernel
theorem dX8_lays_91 : decode cX8_lays 91 = .ok (.ireturn, 1) := by decide +kernel
set_option maxRecDepth 20000 in
theorem ggX8_setLayer_X8_isPiece : GoodIn wsX8_setLayer wsX8_isPiece := goodIn_r _ [6, 1, 7, 8, 5, 9, 24, 25, 26, 27, 28, 29, 30, 31, 32, 33, 34, 35, 36, 37, 38, 39, 40, 41, 42] (by decide +kernel) (by decide +kernel)
set_option maxRecDepth 20000 in
theorem gX8_setLayer_X8_isPiece : GoodIn wsX8_setLayer (wsV RX8 85 RX8 yX8_isPiece wsX8_isPiece) := goodIn_app (goodIn_of _ (by decide +kernel)) ggX8_setLayer_X8_isPiece
set_option maxRecDepth 20000 in
theorem ggX8_setLayer_X8_record : GoodIn wsX8_setLayer wsX8_record := goodIn_r _ [13, 14, 15, 24, 25, 26, 27, 28, 29, 30, 31, 32, 33, 34, 35, 36, 37, 38, 39, 40, 41, 42] (by decide +kernel) (by decide +kernel)
set_option maxRecDepth 20000 in
theorem gX8_setLayer_X8_record : GoodIn wsX8_setLayer (wsV RX8 65 RX8 yX8_record wsX8_record) := goodIn_app (goodIn_of _ (by decide +kernel)) ggX8_setLayer_X8_record
set_option maxRecDepth 20000 in
theorem ggX8_setLayer_X8_lays : GoodIn wsX8_setLayer wsX8_lays := goodIn_r _ [19, 1, 20, 21, 22, 5, 23, 24, 25, 26, 27, 28, 29, 30, 31, 32, 33, 34, 35, 36, 37, 38, 39, 40, 41, 42] (by decide +kernel) (by decide +kernel)
set_option maxRecDepth 20000 in
theorem gX8_setLayer_X8_lays : GoodIn wsX8_setLayer (wsV RX8 104 RX8 yX8_lays wsX8_lays) := goodIn_app (goodIn_of _ (by decide +kernel)) ggX8_setLayer_X8_lays
theorem dX8_setLayer_0 : decode cX8_setLayer 0 = .ok (.aload_n 0, 1) := by decide +kernel
theorem dX8_setLayer_1 : decode cX8_setLayer 1 = .ok (.iload_n 1, 1) := by decide +kernel
theorem dX8_setLayer_2 : decode cX8_setLayer 2 = .ok (.invokevirtual 85, 3) := by decide +kernel
theorem dX8_setLayer_5 : decode cX8_setLayer 5 = .ok (.ifCond .eq 11, 3) := by decide +kernel
theorem dX8_setLayer_8 : decode cX8_setLayer 8 = .ok (.aload_n 0, 1) := by decide +kernel
theorem dX8_setLayer_9 : decode cX8_setLayer 9 = .ok (.iload_n 2, 1) := by decide +kernel
theorem dX8_setLayer_10 : decode cX8_setLayer 10 = .ok (.invokevirtual 85, 3) := by decide +kernel
theorem dX8_setLayer_13 : decode cX8_setLayer 13 = .ok (.ifCond .ne 6, 3) := by decide +kernel
theorem dX8_setLayer_16 : decode cX8_setLayer 16 = .ok (.bipush (-101), 2) := by decide +kernel
theorem dX8_setLayer_18 : decode cX8_setLayer 18 = .ok (.ireturn, 1) := by decide +kernel
theorem dX8_setLayer_19 : decode cX8_setLayer 19 = .ok (.aload_n 0, 1) := by decide +kernel
theorem dX8_setLayer_20 : decode cX8_setLayer 20 = .ok (.aload_n 0, 1) := by decide +kernel
theorem dX8_setLayer_21 : decode cX8_setLayer 21 = .ok (.getfield 7, 3) := by decide +kernel
theorem dX8_setLayer_24 : decode cX8_setLayer 24 = .ok (.invokevirtual 65, 3) := by decide +kernel
theorem dX8_setLayer_27 : decode cX8_setLayer 27 = .ok (.aload_n 0, 1) := by decide +kernel
theorem dX8_setLayer_28 : decode cX8_setLayer 28 = .ok (.iload_n 1, 1) := by decide +kernel
theorem dX8_setLayer_29 : decode cX8_setLayer 29 = .ok (.iload_n 2, 1) := by decide +kernel
theorem dX8_setLayer_30 : decode cX8_setLayer 30 = .ok (.invokevirtual 104, 3) := by decide +kernel
theorem dX8_setLayer_33 : decode cX8_setLayer 33 = .ok (.ireturn, 1) := by decide +kernel
set_option maxRecDepth 20000 in
theorem ggX8_isReached_X8_contents : GoodIn wsX8_isReached wsX8_contents := goodIn_r _ [6, 1, 7, 8, 9, 5, 10, 11, 12, 13, 14, 15, 16, 17, 18, 19, 20, 21, 22, 23, 24, 25, 26, 27, 28, 29, 30, 31, 32, 33, 34, 35, 36, 37, 38] (by decide +kernel) (by decide +kernel)
set_option maxRecDepth 20000 in
theorem gX8_isReached_X8_contents : GoodIn wsX8_isReached (wsV RX8 72 RX8 yX8_contents wsX8_contents) := goodIn_app (goodIn_of _ (by decide +kernel)) ggX8_isReached_X8_contents
set_option maxRecDepth 20000 in
theorem ggX8_isReached_X8_isContent : GoodIn wsX8_isReached wsX8_isContent := goodIn_r _ [10, 11, 12, 13, 14, 5, 15, 1, 16, 17, 18, 19, 20, 21, 22, 23, 24, 25, 26, 27, 28, 29, 30, 31, 32, 33, 34, 35, 36, 37, 38] (by decide +kernel) (by decide +kernel)
set_option maxRecDepth 20000 in
theorem gX8_isReached_X8_isContent : GoodIn wsX8_isReached (wsV RX8 61 RX8 yX8_isContent wsX8_isContent) := goodIn_app (goodIn_of _ (by decide +kernel)) ggX8_isReached_X8_isContent
theorem dX8_isReached_0 : decode cX8_isReached 0 = .ok (.iload_n 2, 1) := by decide +kernel
theorem dX8_isReached_1 : decode cX8_isReached 1 = .ok (.iconst 2, 1) := by decide +kernel
theorem dX8_isReached_2 : decode cX8_isReached 2 = .ok (.if_icmp .ne 26, 3) := by decide +kernel
theorem dX8_isReached_5 : decode cX8_isReached 5 = .ok (.aload_n 0, 1) := by decide +kernel
theorem dX8_isReached_6 : decode cX8_isReached 6 = .ok (.bipush (-109), 2) := by decide +kernel
theorem dX8_isReached_8 : decode cX8_isReached 8 = .ok (.invokevirtual 72, 3) := by decide +kernel
theorem dX8_isReached_11 : decode cX8_isReached 11 = .ok (.aload_n 0, 1) := by decide +kernel
theorem dX8_isReached_12 : decode cX8_isReached 12 = .ok (.getfield 7, 3) := by decide +kernel
theorem dX8_isReached_15 : decode cX8_isReached 15 = .ok (.iconst 2, 1) := by decide +kernel
theorem dX8_isReached_16 : decode cX8_isReached 16 = .ok (.iaload, 1) := by decide +kernel
theorem dX8_isReached_17 : decode cX8_isReached 17 = .ok (.if_icmp .ne 7, 3) := by decide +kernel
theorem dX8_isReached_20 : decode cX8_isReached 20 = .ok (.iconst 1, 1) := by decide +kernel
theorem dX8_isReached_21 : decode cX8_isReached 21 = .ok (.goto 34, 3) := by decide +kernel
theorem dX8_isReached_24 : decode cX8_isReached 24 = .ok (.iconst 0, 1) := by decide +kernel
theorem dX8_isReached_25 : decode cX8_isReached 25 = .ok (.goto 30, 3) := by decide +kernel
theorem dX8_isReached_28 : decode cX8_isReached 28 = .ok (.aload_n 0, 1) := by decide +kernel
theorem dX8_isReached_29 : decode cX8_isReached 29 = .ok (.iload_n 1, 1) := by decide +kernel
theorem dX8_isReached_30 : decode cX8_isReached 30 = .ok (.invokevirtual 61, 3) := by decide +kernel
theorem dX8_isReached_33 : decode cX8_isReached 33 = .ok (.ifCond .eq 21, 3) := by decide +kernel
theorem dX8_isReached_36 : decode cX8_isReached 36 = .ok (.iload_n 2, 1) := by decide +kernel
theorem dX8_isReached_37 : decode cX8_isReached 37 = .ok (.ifCond .eq 13, 3) := by decide +kernel
theorem dX8_isReached_40 : decode cX8_isReached 40 = .ok (.aload_n 0, 1) := by decide +kernel
theorem dX8_isReached_41 : decode cX8_isReached 41 = .ok (.bipush (-109), 2) := by decide +kernel
theorem dX8_isReached_43 : decode cX8_isReached 43 = .ok (.invokevirtual 72, 3) := by decide +kernel
theorem dX8_isReached_46 : decode cX8_isReached 46 = .ok (.iload_n 3, 1) := by decide +kernel
theorem dX8_isReached_47 : decode cX8_isReached 47 = .ok (.if_icmp .lt 7, 3) := by decide +kernel
theorem dX8_isReached_50 : decode cX8_isReached 50 = .ok (.iconst 1, 1) := by decide +kernel
theorem dX8_isReached_51 : decode cX8_isReached 51 = .ok (.goto 4, 3) := by decide +kernel
theorem dX8_isReached_54 : decode cX8_isReached 54 = .ok (.iconst 0, 1) := by decide +kernel
theorem dX8_isReached_55 : decode cX8_isReached 55 = .ok (.ireturn, 1) := by decide +kernel
set_option maxRecDepth 20000 in
theorem ggX8_does_X8_isPossible : GoodIn wsX8_does wsX8_isPossible := goodIn_r _ [5, 6, 7, 8, 4, 9, 10, 11, 12, 13, 14, 15, 16, 51, 52, 53, 54, 55, 56, 57, 58, 59, 60, 61, 62, 63, 64, 65, 66, 67, 68, 69] (by decide +kernel) (by decide +kernel)
set_option maxRecDepth 20000 in
theorem gX8_does_X8_isPossible : GoodIn wsX8_does (wsV RX8 94 RX8 yX8_isPossible wsX8_isPossible) := goodIn_app (goodIn_of _ (by decide +kernel)) ggX8_does_X8_isPossible
set_option maxRecDepth 20000 in
theorem ggX8_does_X8_shifts : GoodIn wsX8_does wsX8_shifts := goodIn_r _ [20, 10, 51, 52, 53, 54, 55, 56, 57, 58, 59, 60, 61, 62, 63, 64, 65, 66, 67, 68, 69] (by decide +kernel) (by decide +kernel)
