theorem dX3_init_14 : decode cX3_init 14 = .ok (.putfield 12, 3) := by decide +kernel
theorem dX3_init_17 : decode cX3_init 17 = .ok (.aload_n 0, 1) := by decide +kernel
theorem dX3_init_18 : decode cX3_init 18 = .ok (.aload_n 2, 1) := by decide +kernel
theorem dX3_init_19 : decode cX3_init 19 = .ok (.putfield 18, 3) := by decide +kernel
theorem dX3_init_22 : decode cX3_init 22 = .ok (.aload_n 0, 1) := by decide +kernel
theorem dX3_init_23 : decode cX3_init 23 = .ok (.new 21, 3) := by decide +kernel
theorem dX3_init_26 : decode cX3_init 26 = .ok (.dup, 1) := by decide +kernel
theorem dX3_init_27 : decode cX3_init 27 = .ok (.aload_n 2, 1) := by decide +kernel
theorem dX3_init_28 : decode cX3_init 28 = .ok (.invokespecial 23, 3) := by decide +kernel
theorem dX3_init_31 : decode cX3_init 31 = .ok (.putfield 26, 3) := by decide +kernel
theorem dX3_init_34 : decode cX3_init 34 = .ok (.aload_n 0, 1) := by decide +kernel
theorem dX3_init_35 : decode cX3_init 35 = .ok (.iconst 0, 1) := by decide +kernel
theorem dX3_init_36 : decode cX3_init 36 = .ok (.putfield 30, 3) := by decide +kernel
theorem dX3_init_39 : decode cX3_init 39 = .ok (.aload_n 0, 1) := by decide +kernel
theorem dX3_init_40 : decode cX3_init 40 = .ok (.iconst 0, 1) := by decide +kernel
theorem dX3_init_41 : decode cX3_init 41 = .ok (.putfield 34, 3) := by decide +kernel
theorem dX3_init_44 : decode cX3_init 44 = .ok (.return_, 1) := by decide +kernel
theorem dX3_dx_0 : decode cX3_dx 0 = .ok (.aload_n 0, 1) := by decide +kernel
theorem dX3_dx_1 : decode cX3_dx 1 = .ok (.getfield 30, 3) := by decide +kernel
theorem dX3_dx_4 : decode cX3_dx 4 = .ok (.ireturn, 1) := by decide +kernel
theorem dX3_dy_0 : decode cX3_dy 0 = .ok (.aload_n 0, 1) := by decide +kernel
theorem dX3_dy_1 : decode cX3_dy 1 = .ok (.getfield 34, 3) := by decide +kernel
theorem dX3_dy_4 : decode cX3_dy 4 = .ok (.ireturn, 1) := by decide +kernel
theorem dX3_cost_0 : decode cX3_cost 0 = .ok (.aload_n 0, 1) := by decide +kernel
theorem dX3_cost_1 : decode cX3_cost 1 = .ok (.getfield 30, 3) := by decide +kernel
theorem dX3_cost_4 : decode cX3_cost 4 = .ok (.invokestatic 37, 3) := by decide +kernel
theorem dX3_cost_7 : decode cX3_cost 7 = .ok (.aload_n 0, 1) := by decide +kernel
theorem dX3_cost_8 : decode cX3_cost 8 = .ok (.getfield 34, 3) := by decide +kernel
theorem dX3_cost_11 : decode cX3_cost 11 = .ok (.invokestatic 37, 3) := by decide +kernel
theorem dX3_cost_14 : decode cX3_cost 14 = .ok (.iadd, 1) := by decide +kernel
theorem dX3_cost_15 : decode cX3_cost 15 = .ok (.ireturn, 1) := by decide +kernel
set_option maxRecDepth 20000 in
theorem ggX3_findShift_X1_take : GoodIn wsX3_findShift wsX1_take := goodIn_r _ [11, 12, 13, 14, 15, 16, 17, 18, 19, 20, 21, 116, 117, 118, 119, 120, 121] (by decide +kernel) (by decide +kernel)
set_option maxRecDepth 20000 in
theorem gX3_findShift_X1_take : GoodIn wsX3_findShift (wsV RX3 43 RX1 yX1_take wsX1_take) := goodIn_app (goodIn_of _ (by decide +kernel)) ggX3_findShift_X1_take
set_option maxRecDepth 20000 in
theorem ggX3_findShift_X3_contentPiecesNeeded : GoodIn wsX3_findShift wsX3_contentPiecesNeeded := goodIn_r _ [26, 27, 2, 28, 29, 30, 31, 32, 33, 34, 35, 36, 37, 38, 39, 40, 41, 10, 42, 20, 43, 44, 45, 46, 17, 47, 48, 49, 50, 51, 52, 53, 54, 55, 56, 57, 58, 59, 12, 60, 61, 62, 63, 18, 64, 65, 66, 67, 19, 68, 69, 70, 71, 72, 73, 74, 75, 76, 77, 78, 79, 80, 81, 82, 83, 84, 85, 111, 112, 113, 114, 115, 122, 123, 124, 125, 116, 117, 118, 119, 120, 121] (by decide +kernel) (by decide +kernel)
set_option maxRecDepth 20000 in
theorem gX3_findShift_X3_contentPiecesNeeded : GoodIn wsX3_findShift (wsV RX3 46 RX3 yX3_contentPiecesNeeded wsX3_contentPiecesNeeded) := goodIn_app (goodIn_of _ (by decide +kernel)) ggX3_findShift_X3_contentPiecesNeeded
set_option maxRecDepth 20000 in
theorem ggX3_findShift_X3_reaches : GoodIn wsX3_findShift wsX3_reaches := goodIn_r _ [89, 2, 90, 91, 1, 27, 92, 93, 94, 10, 95, 96, 57, 58, 59, 12, 97, 48, 98, 99, 100, 101, 47, 49, 102, 103, 104, 105, 106, 107, 108, 109, 68, 69, 28, 29, 30, 31, 32, 33, 34, 35, 36, 37, 38, 39, 40, 41, 42, 20, 43, 44, 45, 46, 17, 50, 51, 52, 53, 54, 55, 56, 60, 61, 62, 63, 18, 64, 65, 66, 67, 19, 70, 71, 72, 73, 74, 75, 76, 110, 82, 83, 84, 77, 78, 79, 80, 81, 111, 112, 113, 114, 115, 116, 117, 118, 119, 120, 121, 122, 123, 124, 125] (by decide +kernel) (by decide +kernel)
set_option maxRecDepth 20000 in
theorem gX3_findShift_X3_reaches : GoodIn wsX3_findShift (wsV RX3 49 RX3 yX3_reaches wsX3_reaches) := goodIn_app (goodIn_of _ (by decide +kernel)) ggX3_findShift_X3_reaches
theorem dX3_findShift_0 : decode cX3_findShift 0 = .ok (.aload_n 0, 1) := by decide +kernel
theorem dX3_findShift_1 : decode cX3_findShift 1 = .ok (.getfield 18, 3) := by decide +kernel
theorem dX3_findShift_4 : decode cX3_findShift 4 = .ok (.aload_n 0, 1) := by decide +kernel
theorem dX3_findShift_5 : decode cX3_findShift 5 = .ok (.getfield 12, 3) := by decide +kernel
theorem dX3_findShift_8 : decode cX3_findShift 8 = .ok (.invokevirtual 43, 3) := by decide +kernel
theorem dX3_findShift_11 : decode cX3_findShift 11 = .ok (.aload_n 0, 1) := by decide +kernel
theorem dX3_findShift_12 : decode cX3_findShift 12 = .ok (.iload_n 2, 1) := by decide +kernel
theorem dX3_findShift_13 : decode cX3_findShift 13 = .ok (.invokevirtual 46, 3) := by decide +kernel
theorem dX3_findShift_16 : decode cX3_findShift 16 = .ok (.istore 4, 2) := by decide +kernel
theorem dX3_findShift_18 : decode cX3_findShift 18 = .ok (.iconst 0, 1) := by decide +kernel
theorem dX3_findShift_19 : decode cX3_findShift 19 = .ok (.istore 5, 2) := by decide +kernel
theorem dX3_findShift_21 : decode cX3_findShift 21 = .ok (.iload 5, 2) := by decide +kernel
theorem dX3_findShift_23 : decode cX3_findShift 23 = .ok (.iload_n 3, 1) := by decide +kernel
theorem dX3_findShift_24 : decode cX3_findShift 24 = .ok (.if_icmp .gt 73, 3) := by decide +kernel
theorem dX3_findShift_27 : decode cX3_findShift 27 = .ok (.iload 5, 2) := by decide +kernel
theorem dX3_findShift_29 : decode cX3_findShift 29 = .ok (.ineg, 1) := by decide +kernel
theorem dX3_findShift_30 : decode cX3_findShift 30 = .ok (.istore 6, 2) := by decide +kernel
theorem dX3_findShift_32 : decode cX3_findShift 32 = .ok (.iload 6, 2) := by decide +kernel
theorem dX3_findShift_34 : decode cX3_findShift 34 = .ok (.iload 5, 2) := by decide +kernel
theorem dX3_findShift_36 : decode cX3_findShift 36 = .ok (.if_icmp .gt 55, 3) := by decide +kernel
theorem dX3_findShift_39 : decode cX3_findShift 39 = .ok (.iload 5, 2) := by decide +kernel
theorem dX3_findShift_41 : decode cX3_findShift 41 = .ok (.iload 6, 2) := by decide +kernel
theorem dX3_findShift_43 : decode cX3_findShift 43 = .ok (.invokestatic 37, 3) := by decide +kernel
theorem dX3_findShift_46 : decode cX3_findShift 46 = .ok (.isub, 1) := by decide +kernel
theorem dX3_findShift_47 : decode cX3_findShift 47 = .ok (.istore 7, 2) := by decide +kernel
theorem dX3_findShift_49 : decode cX3_findShift 49 = .ok (.aload_n 0, 1) := by decide +kernel
theorem dX3_findShift_50 : decode cX3_findShift 50 = .ok (.iload_n 1, 1) := by decide +kernel
theorem dX3_findShift_51 : decode cX3_findShift 51 = .ok (.iload 6, 2) := by decide +kernel
theorem dX3_findShift_53 : decode cX3_findShift 53 = .ok (.iload 7, 2) := by decide +kernel
theorem dX3_findShift_55 : decode cX3_findShift 55 = .ok (.ineg, 1) := by decide +kernel
theorem dX3_findShift_56 : decode cX3_findShift 56 = .ok (.iload 4, 2) := by decide +kernel
theorem dX3_findShift_58 : decode cX3_findShift 58 = .ok (.invokevirtual 49, 3) := by decide +kernel
theorem dX3_findShift_61 : decode cX3_findShift 61 = .ok (.ifCond .ne 22, 3) := by decide +kernel
theorem dX3_findShift_64 : decode cX3_findShift 64 = .ok (.iload 7, 2) := by decide +kernel
theorem dX3_findShift_66 : decode cX3_findShift 66 = .ok (.ifCond .le 19, 3) := by decide +kernel
theorem dX3_findShift_69 : decode cX3_findShift 69 = .ok (.aload_n 0, 1) := by decide +kernel
theorem dX3_findShift_70 : decode cX3_findShift 70 = .ok (.iload_n 1, 1) := by decide +kernel
theorem dX3_findShift_71 : decode cX3_findShift 71 = .ok (.iload 6, 2) := by decide +kernel
theorem dX3_findShift_73 : decode cX3_findShift 73 = .ok (.iload 7, 2) := by decide +kernel
theorem dX3_findShift_75 : decode cX3_findShift 75 = .ok (.iload 4, 2) := by decide +kernel
theorem dX3_findShift_77 : decode cX3_findShift 77 = .ok (.invokevirtual 49, 3) := by decide +kernel
theorem dX3_findShift_80 : decode cX3_findShift 80 = .ok (.ifCond .eq 5, 3) := by decide +kernel
theorem dX3_findShift_83 : decode cX3_findShift 83 = .ok (.iconst 1, 1) := by decide +kernel
theorem dX3_findShift_84 : decode cX3_findShift 84 = .ok (.ireturn, 1) := by decide +kernel
theorem dX3_findShift_85 : decode cX3_findShift 85 = .ok (.iinc 6 1, 3) := by decide +kernel
theorem dX3_findShift_88 : decode cX3_findShift 88 = .ok (.goto (-56), 3) := by decide +kernel
theorem dX3_findShift_91 : decode cX3_findShift 91 = .ok (.iinc 5 1, 3) := by decide +kernel
theorem dX3_findShift_94 : decode cX3_findShift 94 = .ok (.goto (-73), 3) := by decide +kernel
theorem dX3_findShift_97 : decode cX3_findShift 97 = .ok (.iconst 0, 1) := by decide +kernel
theorem dX3_findShift_98 : decode cX3_findShift 98 = .ok (.ireturn, 1) := by decide +kernel
set_option maxRecDepth 20000 in
theorem ggX3_contentPiecesNeeded_X5_look : GoodIn wsX3_contentPiecesNeeded wsX5_look := goodIn_r _ [7, 8, 9, 10, 11, 12, 13, 14, 15, 16, 17, 18, 19, 20, 21, 22, 23, 24, 25, 26, 27, 28, 29, 30, 6, 31, 32, 33, 34, 35, 36, 37, 38, 39, 40, 41, 42, 43, 44, 45, 46, 47, 48, 49, 50, 51, 52, 53, 54, 55, 56, 57, 72, 73, 74, 75, 76, 77, 78, 79, 80, 81] (by decide +kernel) (by decide +kernel)
set_option maxRecDepth 20000 in
theorem gX3_contentPiecesNeeded_X5_look : GoodIn wsX3_contentPiecesNeeded (wsV RX3 53 RX5 yX5_look wsX5_look) := goodIn_app (goodIn_of _ (by decide +kernel)) ggX3_contentPiecesNeeded_X5_look
set_option maxRecDepth 20000 in
theorem ggX3_contentPiecesNeeded_X5_contentPieces : GoodIn wsX3_contentPiecesNeeded wsX5_contentPieces := goodIn_r _ [61, 9, 14, 15, 16, 17, 18, 19, 62, 63, 64, 6, 65, 33, 34, 35, 36, 37, 38, 25, 26, 27, 72, 73, 74, 75, 76, 77, 78, 79, 80, 81] (by decide +kernel) (by decide +kernel)
set_option maxRecDepth 20000 in
theorem gX3_contentPiecesNeeded_X5_contentPieces : GoodIn wsX3_contentPiecesNeeded (wsV RX3 56 RX5 yX5_contentPieces wsX5_contentPieces) := goodIn_app (goodIn_of _ (by decide +kernel)) ggX3_contentPiecesNeeded_X5_contentPieces
set_option maxRecDepth 20000 in
theorem ggX3_contentPiecesNeeded_X1_pieces : GoodIn wsX3_contentPiecesNeeded wsX1_pieces := goodIn_r _ [18, 19, 76, 77, 78, 79, 80, 81] (by decide +kernel) (by decide +kernel)
set_option maxRecDepth 20000 in
theorem gX3_contentPiecesNeeded_X1_pieces : GoodIn wsX3_contentPiecesNeeded (wsV RX3 60 RX1 yX1_pieces wsX1_pieces) := goodIn_app (goodIn_of _ (by decide +kernel)) ggX3_contentPiecesNeeded_X1_pieces
theorem dX3_contentPiecesNeeded_0 : decode cX3_contentPiecesNeeded 0 = .ok (.iload_n 1, 1) := by decide +kernel
theorem dX3_contentPiecesNeeded_1 : decode cX3_contentPiecesNeeded 1 = .ok (.iconst 1, 1) := by decide +kernel
theorem dX3_contentPiecesNeeded_2 : decode cX3_contentPiecesNeeded 2 = .ok (.if_icmp .ne 18, 3) := by decide +kernel
theorem dX3_contentPiecesNeeded_5 : decode cX3_contentPiecesNeeded 5 = .ok (.aload_n 0, 1) := by decide +kernel
theorem dX3_contentPiecesNeeded_6 : decode cX3_contentPiecesNeeded 6 = .ok (.getfield 26, 3) := by decide +kernel
theorem dX3_contentPiecesNeeded_9 : decode cX3_contentPiecesNeeded 9 = .ok (.invokevirtual 53, 3) := by decide +kernel
theorem dX3_contentPiecesNeeded_12 : decode cX3_contentPiecesNeeded 12 = .ok (.aload_n 0, 1) := by decide +kernel
theorem dX3_contentPiecesNeeded_13 : decode cX3_contentPiecesNeeded 13 = .ok (.getfield 26, 3) := by decide +kernel
theorem dX3_contentPiecesNeeded_16 : decode cX3_contentPiecesNeeded 16 = .ok (.invokevirtual 56, 3) := by decide +kernel
theorem dX3_contentPiecesNeeded_19 : decode cX3_contentPiecesNeeded 19 = .ok (.ireturn, 1) := by decide +kernel
theorem dX3_contentPiecesNeeded_20 : decode cX3_contentPiecesNeeded 20 = .ok (.iload_n 1, 1) := by decide +kernel
theorem dX3_contentPiecesNeeded_21 : decode cX3_contentPiecesNeeded 21 = .ok (.iconst 2, 1) := by decide +kernel
theorem dX3_contentPiecesNeeded_22 : decode cX3_contentPiecesNeeded 22 = .ok (.if_icmp .ne 13, 3) := by decide +kernel
theorem dX3_contentPiecesNeeded_25 : decode cX3_contentPiecesNeeded 25 = .ok (.aload_n 0, 1) := by decide +kernel
theorem dX3_contentPiecesNeeded_26 : decode cX3_contentPiecesNeeded 26 = .ok (.getfield 12, 3) := by decide +kernel
theorem dX3_contentPiecesNeeded_29 : decode cX3_contentPiecesNeeded 29 = .ok (.invokevirtual 60, 3) := by decide +kernel
theorem dX3_contentPiecesNeeded_32 : decode cX3_contentPiecesNeeded 32 = .ok (.goto 4, 3) := by decide +kernel
theorem dX3_contentPiecesNeeded_35 : decode cX3_contentPiecesNeeded 35 = .ok (.iconst 0, 1) := by decide +kernel
theorem dX3_contentPiecesNeeded_36 : decode cX3_contentPiecesNeeded 36 = .ok (.ireturn, 1) := by decide +kernel
set_option maxRecDepth 20000 in
theorem ggX3_reaches_X1_canMove : GoodIn wsX3_reaches wsX1_canMove := goodIn_r _ [10, 11, 12, 13, 9, 14, 15, 16, 17, 18, 19, 20, 21, 22, 23, 24, 25, 26, 93, 94, 95, 96, 97, 98] (by decide +kernel) (by decide +kernel)
set_option maxRecDepth 20000 in
theorem gX3_reaches_X1_canMove : GoodIn wsX3_reaches (wsV RX3 63 RX1 yX1_canMove wsX1_canMove) := goodIn_app (goodIn_of _ (by decide +kernel)) ggX3_reaches_X1_canMove
set_option maxRecDepth 20000 in
theorem ggX3_reaches_X1_get : GoodIn wsX3_reaches wsX1_get := goodIn_r _ [14, 15, 93, 94, 95, 96, 97, 98] (by decide +kernel) (by decide +kernel)
set_option maxRecDepth 20000 in
theorem gX3_reaches_X1_get : GoodIn wsX3_reaches (wsV RX3 67 RX1 yX1_get wsX1_get) := goodIn_app (goodIn_of _ (by decide +kernel)) ggX3_reaches_X1_get
set_option maxRecDepth 20000 in
theorem ggX3_reaches_X1_set : GoodIn wsX3_reaches wsX1_set := goodIn_r _ [31, 15, 32, 17, 33, 93, 94, 95, 96, 97, 98] (by decide +kernel) (by decide +kernel)
set_option maxRecDepth 20000 in
theorem gX3_reaches_X1_set : GoodIn wsX3_reaches (wsV RX3 71 RX1 yX1_set wsX1_set) := goodIn_app (goodIn_of _ (by decide +kernel)) ggX3_reaches_X1_set
set_option maxRecDepth 20000 in
theorem ggX3_reaches_X5_look : GoodIn wsX3_reaches wsX5_look := goodIn_r _ [38, 39, 40, 41, 42, 43, 44, 45, 46, 47, 9, 48, 49, 50, 51, 52, 53, 54, 22, 17, 23, 55, 56, 57, 37, 58, 59, 60, 61, 12, 13, 14, 15, 62, 63, 64, 65, 66, 67, 68, 69, 70, 71, 32, 33, 72, 73, 74, 75, 76, 77, 78, 99, 100, 101, 102, 93, 94, 95, 96, 97, 98] (by decide +kernel) (by decide +kernel)
set_option maxRecDepth 20000 in
theorem gX3_reaches_X5_look : GoodIn wsX3_reaches (wsV RX3 53 RX5 yX5_look wsX5_look) := goodIn_app (goodIn_of _ (by decide +kernel)) ggX3_reaches_X5_look
set_option maxRecDepth 20000 in
theorem ggX3_reaches_X5_isContent : GoodIn wsX3_reaches wsX5_isContent := goodIn_r _ [82, 40, 60, 61, 12, 13, 9, 14, 15, 22, 17, 23, 99, 100, 101, 102, 93, 94, 95, 96, 97, 98] (by decide +kernel) (by decide +kernel)
set_option maxRecDepth 20000 in
theorem gX3_reaches_X5_isContent : GoodIn wsX3_reaches (wsV RX3 75 RX5 yX5_isContent wsX5_isContent) := goodIn_app (goodIn_of _ (by decide +kernel)) ggX3_reaches_X5_isContent
set_option maxRecDepth 20000 in
theorem ggX3_reaches_X5_contentPieces : GoodIn wsX3_reaches wsX5_contentPieces := goodIn_r _ [86, 40, 45, 46, 47, 9, 48, 49, 87, 80, 81, 37, 82, 60, 61, 12, 13, 14, 15, 22, 17, 23, 99, 100, 101, 102, 93, 94, 95, 96, 97, 98] (by decide +kernel) (by decide +kernel)
set_option maxRecDepth 20000 in
theorem gX3_reaches_X5_contentPieces : GoodIn wsX3_reaches (wsV RX3 56 RX5 yX5_contentPieces wsX5_contentPieces) := goodIn_app (goodIn_of _ (by decide +kernel)) ggX3_reaches_X5_contentPieces
theorem dX3_reaches_0 : decode cX3_reaches 0 = .ok (.aload_n 0, 1) := by decide +kernel
theorem dX3_reaches_1 : decode cX3_reaches 1 = .ok (.getfield 12, 3) := by decide +kernel
theorem dX3_reaches_4 : decode cX3_reaches 4 = .ok (.iload_n 1, 1) := by decide +kernel
theorem dX3_reaches_5 : decode cX3_reaches 5 = .ok (.iload_n 2, 1) := by decide +kernel
theorem dX3_reaches_6 : decode cX3_reaches 6 = .ok (.iload_n 3, 1) := by decide +kernel
theorem dX3_reaches_7 : decode cX3_reaches 7 = .ok (.invokevirtual 63, 3) := by decide +kernel
theorem dX3_reaches_10 : decode cX3_reaches 10 = .ok (.ifCond .ne 5, 3) := by decide +kernel
theorem dX3_reaches_13 : decode cX3_reaches 13 = .ok (.iconst 0, 1) := by decide +kernel
theorem dX3_reaches_14 : decode cX3_reaches 14 = .ok (.ireturn, 1) := by decide +kernel
theorem dX3_reaches_15 : decode cX3_reaches 15 = .ok (.aload_n 0, 1) := by decide +kernel
theorem dX3_reaches_16 : decode cX3_reaches 16 = .ok (.iload_n 2, 1) := by decide +kernel
theorem dX3_reaches_17 : decode cX3_reaches 17 = .ok (.putfield 30, 3) := by decide +kernel
theorem dX3_reaches_20 : decode cX3_reaches 20 = .ok (.aload_n 0, 1) := by decide +kernel
theorem dX3_reaches_21 : decode cX3_reaches 21 = .ok (.iload_n 3, 1) := by decide +kernel
theorem dX3_reaches_22 : decode cX3_reaches 22 = .ok (.putfield 34, 3) := by decide +kernel
theorem dX3_reaches_25 : decode cX3_reaches 25 = .ok (.aload_n 0, 1) := by decide +kernel
theorem dX3_reaches_26 : decode cX3_reaches 26 = .ok (.getfield 18, 3) := by decide +kernel
theorem dX3_reaches_29 : decode cX3_reaches 29 = .ok (.iload_n 1, 1) := by decide +kernel
theorem dX3_reaches_30 : decode cX3_reaches 30 = .ok (.iconst 0, 1) := by decide +kernel
theorem dX3_reaches_31 : decode cX3_reaches 31 = .ok (.aload_n 0, 1) := by decide +kernel
theorem dX3_reaches_32 : decode cX3_reaches 32 = .ok (.getfield 12, 3) := by decide +kernel
theorem dX3_reaches_35 : decode cX3_reaches 35 = .ok (.iload_n 1, 1) := by decide +kernel
theorem dX3_reaches_36 : decode cX3_reaches 36 = .ok (.iconst 0, 1) := by decide +kernel
theorem dX3_reaches_37 : decode cX3_reaches 37 = .ok (.invokevirtual 67, 3) := by decide +kernel
theorem dX3_reaches_40 : decode cX3_reaches 40 = .ok (.iload_n 2, 1) := by decide +kernel
theorem dX3_reaches_41 : decode cX3_reaches 41 = .ok (.iadd, 1) := by decide +kernel
theorem dX3_reaches_42 : decode cX3_reaches 42 = .ok (.invokevirtual 71, 3) := by decide +kernel
theorem dX3_reaches_45 : decode cX3_reaches 45 = .ok (.aload_n 0, 1) := by decide +kernel
theorem dX3_reaches_46 : decode cX3_reaches 46 = .ok (.getfield 18, 3) := by decide +kernel
theorem dX3_reaches_49 : decode cX3_reaches 49 = .ok (.iload_n 1, 1) := by decide +kernel
theorem dX3_reaches_50 : decode cX3_reaches 50 = .ok (.iconst 1, 1) := by decide +kernel
theorem dX3_reaches_51 : decode cX3_reaches 51 = .ok (.aload_n 0, 1) := by decide +kernel
theorem dX3_reaches_52 : decode cX3_reaches 52 = .ok (.getfield 12, 3) := by decide +kernel
theorem dX3_reaches_55 : decode cX3_reaches 55 = .ok (.iload_n 1, 1) := by decide +kernel
theorem dX3_reaches_56 : decode cX3_reaches 56 = .ok (.iconst 1, 1) := by decide +kernel
theorem dX3_reaches_57 : decode cX3_reaches 57 = .ok (.invokevirtual 67, 3) := by decide +kernel
theorem dX3_reaches_60 : decode cX3_reaches 60 = .ok (.iload_n 3, 1) := by decide +kernel
theorem dX3_reaches_61 : decode cX3_reaches 61 = .ok (.iadd, 1) := by decide +kernel
theorem dX3_reaches_62 : decode cX3_reaches 62 = .ok (.invokevirtual 71, 3) := by decide +kernel
theorem dX3_reaches_65 : decode cX3_reaches 65 = .ok (.aload_n 0, 1) := by decide +kernel
theorem dX3_reaches_66 : decode cX3_reaches 66 = .ok (.getfield 26, 3) := by decide +kernel
theorem dX3_reaches_69 : decode cX3_reaches 69 = .ok (.invokevirtual 53, 3) := by decide +kernel
theorem dX3_reaches_72 : decode cX3_reaches 72 = .ok (.aload_n 0, 1) := by decide +kernel
theorem dX3_reaches_73 : decode cX3_reaches 73 = .ok (.getfield 26, 3) := by decide +kernel
theorem dX3_reaches_76 : decode cX3_reaches 76 = .ok (.iload_n 1, 1) := by decide +kernel
theorem dX3_reaches_77 : decode cX3_reaches 77 = .ok (.invokevirtual 75, 3) := by decide +kernel
theorem dX3_reaches_80 : decode cX3_reaches 80 = .ok (.ifCond .eq 19, 3) := by decide +kernel
theorem dX3_reaches_83 : decode cX3_reaches 83 = .ok (.aload_n 0, 1) := by decide +kernel
theorem dX3_reaches_84 : decode cX3_reaches 84 = .ok (.getfield 26, 3) := by decide +kernel
theorem dX3_reaches_87 : decode cX3_reaches 87 = .ok (.invokevirtual 56, 3) := by decide +kernel
theorem dX3_reaches_90 : decode cX3_reaches 90 = .ok (.iload 4, 2) := by decide +kernel
theorem dX3_reaches_92 : decode cX3_reaches 92 = .ok (.if_icmp .lt 7, 3) := by decide +kernel
theorem dX3_reaches_95 : decode cX3_reaches 95 = .ok (.iconst 1, 1) := by decide +kernel
theorem dX3_reaches_96 : decode cX3_reaches 96 = .ok (.goto 4, 3) := by decide +kernel
theorem dX3_reaches_99 : decode cX3_reaches 99 = .ok (.iconst 0, 1) := by decide +kernel
theorem dX3_reaches_100 : decode cX3_reaches 100 = .ok (.ireturn, 1) := by decide +kernel
set_option maxRecDepth 20000 in
theorem ggX3_lowestLayer_X1_take : GoodIn wsX3_lowestLayer wsX1_take := goodIn_r _ [8, 9, 10, 11, 12, 13, 14, 15, 16, 17, 18, 86, 87, 88, 89, 90, 91] (by decide +kernel) (by decide +kernel)
set_option maxRecDepth 20000 in
theorem gX3_lowestLayer_X1_take : GoodIn wsX3_lowestLayer (wsV RX3 43 RX1 yX1_take wsX1_take) := goodIn_app (goodIn_of _ (by decide +kernel)) ggX3_lowestLayer_X1_take
set_option maxRecDepth 20000 in
theorem ggX3_lowestLayer_X1_pieces : GoodIn wsX3_lowestLayer wsX1_pieces := goodIn_r _ [22, 17, 86, 87, 88, 89, 90, 91] (by decide +kernel) (by decide +kernel)
set_option maxRecDepth 20000 in
theorem gX3_lowestLayer_X1_pieces : GoodIn wsX3_lowestLayer (wsV RX3 60 RX1 yX1_pieces wsX1_pieces) := goodIn_app (goodIn_of _ (by decide +kernel)) ggX3_lowestLayer_X1_pieces
set_option maxRecDepth 20000 in
theorem ggX3_lowestLayer_X1_putIntoLayer : GoodIn wsX3_lowestLayer wsX1_putIntoLayer := goodIn_r _ [26, 14, 27, 28, 29, 7, 30, 17, 31, 32, 33, 34, 35, 86, 87, 88, 89, 90, 91] (by decide +kernel) (by decide +kernel)
set_option maxRecDepth 20000 in
theorem gX3_lowestLayer_X1_putIntoLayer : GoodIn wsX3_lowestLayer (wsV RX3 79 RX1 yX1_putIntoLayer wsX1_putIntoLayer) := goodIn_app (goodIn_of _ (by decide +kernel)) ggX3_lowestLayer_X1_putIntoLayer
set_option maxRecDepth 20000 in
theorem ggX3_lowestLayer_X5_look : GoodIn wsX3_lowestLayer wsX5_look := goodIn_r _ [40, 41, 42, 43, 44, 45, 46, 47, 20, 21, 7, 22, 17, 48, 49, 50, 51, 14, 31, 32, 33, 52, 53, 54, 39, 55, 56, 57, 58, 59, 60, 61, 9, 62, 63, 64, 65, 15, 66, 67, 68, 69, 16, 34, 35, 70, 71, 72, 73, 74, 75, 76, 92, 93, 94, 95, 86, 87, 88, 89, 90, 91] (by decide +kernel) (by decide +kernel)
set_option maxRecDepth 20000 in
theorem gX3_lowestLayer_X5_look : GoodIn wsX3_lowestLayer (wsV RX3 53 RX5 yX5_look wsX5_look) := goodIn_app (goodIn_of _ (by decide +kernel)) ggX3_lowestLayer_X5_look
set_option maxRecDepth 20000 in
theorem ggX3_lowestLayer_X5_isContent : GoodIn wsX3_lowestLayer wsX5_isContent := goodIn_r _ [80, 42, 57, 58, 59, 60, 7, 61, 9, 31, 32, 33, 92, 93, 94, 95, 86, 87, 88, 89, 90, 91] (by decide +kernel) (by decide +kernel)
set_option maxRecDepth 20000 in
theorem gX3_lowestLayer_X5_isContent : GoodIn wsX3_lowestLayer (wsV RX3 75 RX5 yX5_isContent wsX5_isContent) := goodIn_app (goodIn_of _ (by decide +kernel)) ggX3_lowestLayer_X5_isContent
theorem dX3_lowestLayer_0 : decode cX3_lowestLayer 0 = .ok (.aload_n 0, 1) := by decide +kernel
theorem dX3_lowestLayer_1 : decode cX3_lowestLayer 1 = .ok (.getfield 18, 3) := by decide +kernel
theorem dX3_lowestLayer_4 : decode cX3_lowestLayer 4 = .ok (.aload_n 0, 1) := by decide +kernel
theorem dX3_lowestLayer_5 : decode cX3_lowestLayer 5 = .ok (.getfield 12, 3) := by decide +kernel
theorem dX3_lowestLayer_8 : decode cX3_lowestLayer 8 = .ok (.invokevirtual 43, 3) := by decide +kernel
theorem dX3_lowestLayer_11 : decode cX3_lowestLayer 11 = .ok (.iconst 0, 1) := by decide +kernel
theorem dX3_lowestLayer_12 : decode cX3_lowestLayer 12 = .ok (.istore_n 2, 1) := by decide +kernel
theorem dX3_lowestLayer_13 : decode cX3_lowestLayer 13 = .ok (.iload_n 2, 1) := by decide +kernel
theorem dX3_lowestLayer_14 : decode cX3_lowestLayer 14 = .ok (.aload_n 0, 1) := by decide +kernel
theorem dX3_lowestLayer_15 : decode cX3_lowestLayer 15 = .ok (.getfield 12, 3) := by decide +kernel
theorem dX3_lowestLayer_18 : decode cX3_lowestLayer 18 = .ok (.invokevirtual 60, 3) := by decide +kernel
theorem dX3_lowestLayer_21 : decode cX3_lowestLayer 21 = .ok (.if_icmp .ge 39, 3) := by decide +kernel
theorem dX3_lowestLayer_24 : decode cX3_lowestLayer 24 = .ok (.aload_n 0, 1) := by decide +kernel
theorem dX3_lowestLayer_25 : decode cX3_lowestLayer 25 = .ok (.getfield 18, 3) := by decide +kernel
theorem dX3_lowestLayer_28 : decode cX3_lowestLayer 28 = .ok (.iload_n 1, 1) := by decide +kernel
theorem dX3_lowestLayer_29 : decode cX3_lowestLayer 29 = .ok (.iload_n 2, 1) := by decide +kernel
theorem dX3_lowestLayer_30 : decode cX3_lowestLayer 30 = .ok (.invokevirtual 79, 3) := by decide +kernel
theorem dX3_lowestLayer_33 : decode cX3_lowestLayer 33 = .ok (.pop, 1) := by decide +kernel
theorem dX3_lowestLayer_34 : decode cX3_lowestLayer 34 = .ok (.aload_n 0, 1) := by decide +kernel
theorem dX3_lowestLayer_35 : decode cX3_lowestLayer 35 = .ok (.getfield 26, 3) := by decide +kernel
theorem dX3_lowestLayer_38 : decode cX3_lowestLayer 38 = .ok (.invokevirtual 53, 3) := by decide +kernel
theorem dX3_lowestLayer_41 : decode cX3_lowestLayer 41 = .ok (.aload_n 0, 1) := by decide +kernel
theorem dX3_lowestLayer_42 : decode cX3_lowestLayer 42 = .ok (.getfield 26, 3) := by decide +kernel
theorem dX3_lowestLayer_45 : decode cX3_lowestLayer 45 = .ok (.iload_n 1, 1) := by decide +kernel
theorem dX3_lowestLayer_46 : decode cX3_lowestLayer 46 = .ok (.invokevirtual 75, 3) := by decide +kernel
theorem dX3_lowestLayer_49 : decode cX3_lowestLayer 49 = .ok (.ifCond .eq 5, 3) := by decide +kernel
theorem dX3_lowestLayer_52 : decode cX3_lowestLayer 52 = .ok (.iload_n 2, 1) := by decide +kernel
theorem dX3_lowestLayer_53 : decode cX3_lowestLayer 53 = .ok (.ireturn, 1) := by decide +kernel
theorem dX3_lowestLayer_54 : decode cX3_lowestLayer 54 = .ok (.iinc 2 1, 3) := by decide +kernel
theorem dX3_lowestLayer_57 : decode cX3_lowestLayer 57 = .ok (.goto (-44), 3) := by decide +kernel
theorem dX3_lowestLayer_60 : decode cX3_lowestLayer 60 = .ok (.bipush (-109), 2) := by decide +kernel
theorem dX3_lowestLayer_62 : decode cX3_lowestLayer 62 = .ok (.ireturn, 1) := by decide +kernel
set_option maxRecDepth 20000 in
theorem ggX3_worstPiece_X1_pieces : GoodIn wsX3_worstPiece wsX1_pieces := goodIn_r _ [8, 9, 94, 95, 96, 97, 98, 99] (by decide +kernel) (by decide +kernel)
set_option maxRecDepth 20000 in
theorem gX3_worstPiece_X1_pieces : GoodIn wsX3_worstPiece (wsV RX3 60 RX1 yX1_pieces wsX1_pieces) := goodIn_app (goodIn_of _ (by decide +kernel)) ggX3_worstPiece_X1_pieces
set_option maxRecDepth 20000 in
theorem ggX3_worstPiece_X1_take : GoodIn wsX3_worstPiece wsX1_take := goodIn_r _ [13, 14, 15, 16, 17, 18, 19, 20, 21, 9, 22, 94, 95, 96, 97, 98, 99] (by decide +kernel) (by decide +kernel)
set_option maxRecDepth 20000 in
theorem gX3_worstPiece_X1_take : GoodIn wsX3_worstPiece (wsV RX3 43 RX1 yX1_take wsX1_take) := goodIn_app (goodIn_of _ (by decide +kernel)) ggX3_worstPiece_X1_take
set_option maxRecDepth 20000 in
theorem ggX3_worstPiece_X1_remove : GoodIn wsX3_worstPiece wsX1_remove := goodIn_r _ [26, 9, 19, 14, 27, 28, 29, 7, 30, 31, 32, 33, 34, 35, 36, 37, 38, 39, 94, 95, 96, 97, 98, 99] (by decide +kernel) (by decide +kernel)
set_option maxRecDepth 20000 in
theorem gX3_worstPiece_X1_remove : GoodIn wsX3_worstPiece (wsV RX3 82 RX1 yX1_remove wsX1_remove) := goodIn_app (goodIn_of _ (by decide +kernel)) ggX3_worstPiece_X1_remove
set_option maxRecDepth 20000 in
theorem ggX3_worstPiece_X5_look : GoodIn wsX3_worstPiece wsX5_look := goodIn_r _ [44, 45, 46, 47, 48, 49, 50, 51, 5, 6, 7, 8, 9, 52, 53, 54, 55, 19, 35, 36, 37, 56, 57, 58, 43, 59, 60, 61, 62, 63, 64, 65, 14, 66, 67, 68, 69, 20, 70, 71, 72, 73, 21, 38, 39, 74, 75, 76, 77, 78, 79, 80, 100, 101, 102, 103, 94, 95, 96, 97, 98, 99] (by decide +kernel) (by decide +kernel)
set_option maxRecDepth 20000 in
theorem gX3_worstPiece_X5_look : GoodIn wsX3_worstPiece (wsV RX3 53 RX5 yX5_look wsX5_look) := goodIn_app (goodIn_of _ (by decide +kernel)) ggX3_worstPiece_X5_look
set_option maxRecDepth 20000 in
theorem ggX3_worstPiece_X5_contentPieces : GoodIn wsX3_worstPiece wsX5_contentPieces := goodIn_r _ [84, 46, 51, 5, 6, 7, 8, 9, 85, 86, 87, 43, 88, 61, 62, 63, 64, 65, 14, 35, 36, 37, 100, 101, 102, 103, 94, 95, 96, 97, 98, 99] (by decide +kernel) (by decide +kernel)
set_option maxRecDepth 20000 in
theorem gX3_worstPiece_X5_contentPieces : GoodIn wsX3_worstPiece (wsV RX3 56 RX5 yX5_contentPieces wsX5_contentPieces) := goodIn_app (goodIn_of _ (by decide +kernel)) ggX3_worstPiece_X5_contentPieces
theorem dX3_worstPiece_0 : decode cX3_worstPiece 0 = .ok (.bipush (-109), 2) := by decide +kernel
theorem dX3_worstPiece_2 : decode cX3_worstPiece 2 = .ok (.istore_n 1, 1) := by decide +kernel
theorem dX3_worstPiece_3 : decode cX3_worstPiece 3 = .ok (.iconst (-1), 1) := by decide +kernel
theorem dX3_worstPiece_4 : decode cX3_worstPiece 4 = .ok (.istore_n 2, 1) := by decide +kernel
theorem dX3_worstPiece_5 : decode cX3_worstPiece 5 = .ok (.iconst 0, 1) := by decide +kernel
theorem dX3_worstPiece_6 : decode cX3_worstPiece 6 = .ok (.istore_n 3, 1) := by decide +kernel
theorem dX3_worstPiece_7 : decode cX3_worstPiece 7 = .ok (.iload_n 3, 1) := by decide +kernel
theorem dX3_worstPiece_8 : decode cX3_worstPiece 8 = .ok (.aload_n 0, 1) := by decide +kernel
theorem dX3_worstPiece_9 : decode cX3_worstPiece 9 = .ok (.getfield 12, 3) := by decide +kernel
theorem dX3_worstPiece_12 : decode cX3_worstPiece 12 = .ok (.invokevirtual 60, 3) := by decide +kernel
theorem dX3_worstPiece_15 : decode cX3_worstPiece 15 = .ok (.if_icmp .ge 55, 3) := by decide +kernel
theorem dX3_worstPiece_18 : decode cX3_worstPiece 18 = .ok (.aload_n 0, 1) := by decide +kernel
theorem dX3_worstPiece_19 : decode cX3_worstPiece 19 = .ok (.getfield 18, 3) := by decide +kernel
theorem dX3_worstPiece_22 : decode cX3_worstPiece 22 = .ok (.aload_n 0, 1) := by decide +kernel
theorem dX3_worstPiece_23 : decode cX3_worstPiece 23 = .ok (.getfield 12, 3) := by decide +kernel
theorem dX3_worstPiece_26 : decode cX3_worstPiece 26 = .ok (.invokevirtual 43, 3) := by decide +kernel
theorem dX3_worstPiece_29 : decode cX3_worstPiece 29 = .ok (.aload_n 0, 1) := by decide +kernel
theorem dX3_worstPiece_30 : decode cX3_worstPiece 30 = .ok (.getfield 18, 3) := by decide +kernel
theorem dX3_worstPiece_33 : decode cX3_worstPiece 33 = .ok (.iload_n 3, 1) := by decide +kernel
theorem dX3_worstPiece_34 : decode cX3_worstPiece 34 = .ok (.invokevirtual 82, 3) := by decide +kernel
theorem dX3_worstPiece_37 : decode cX3_worstPiece 37 = .ok (.aload_n 0, 1) := by decide +kernel
theorem dX3_worstPiece_38 : decode cX3_worstPiece 38 = .ok (.getfield 26, 3) := by decide +kernel
theorem dX3_worstPiece_41 : decode cX3_worstPiece 41 = .ok (.invokevirtual 53, 3) := by decide +kernel
theorem dX3_worstPiece_44 : decode cX3_worstPiece 44 = .ok (.aload_n 0, 1) := by decide +kernel
theorem dX3_worstPiece_45 : decode cX3_worstPiece 45 = .ok (.getfield 26, 3) := by decide +kernel
theorem dX3_worstPiece_48 : decode cX3_worstPiece 48 = .ok (.invokevirtual 56, 3) := by decide +kernel
theorem dX3_worstPiece_51 : decode cX3_worstPiece 51 = .ok (.istore 4, 2) := by decide +kernel
theorem dX3_worstPiece_53 : decode cX3_worstPiece 53 = .ok (.iload 4, 2) := by decide +kernel
theorem dX3_worstPiece_55 : decode cX3_worstPiece 55 = .ok (.iload_n 2, 1) := by decide +kernel
theorem dX3_worstPiece_56 : decode cX3_worstPiece 56 = .ok (.if_icmp .le 8, 3) := by decide +kernel
theorem dX3_worstPiece_59 : decode cX3_worstPiece 59 = .ok (.iload 4, 2) := by decide +kernel
theorem dX3_worstPiece_61 : decode cX3_worstPiece 61 = .ok (.istore_n 2, 1) := by decide +kernel
theorem dX3_worstPiece_62 : decode cX3_worstPiece 62 = .ok (.iload_n 3, 1) := by decide +kernel
theorem dX3_worstPiece_63 : decode cX3_worstPiece 63 = .ok (.istore_n 1, 1) := by decide +kernel
theorem dX3_worstPiece_64 : decode cX3_worstPiece 64 = .ok (.iinc 3 1, 3) := by decide +kernel
theorem dX3_worstPiece_67 : decode cX3_worstPiece 67 = .ok (.goto (-60), 3) := by decide +kernel
theorem dX3_worstPiece_70 : decode cX3_worstPiece 70 = .ok (.iload_n 1, 1) := by decide +kernel
theorem dX3_worstPiece_71 : decode cX3_worstPiece 71 = .ok (.ireturn, 1) := by decide +kernel
theorem dX4_init_0 : decode cX4_init 0 = .ok (.aload_n 0, 1) := by decide +kernel
theorem dX4_init_1 : decode cX4_init 1 = .ok (.invokespecial 3, 3) := by decide +kernel
theorem dX4_init_4 : decode cX4_init 4 = .ok (.aload_n 0, 1) := by decide +kernel
theorem dX4_init_5 : decode cX4_init 5 = .ok (.aload_n 1, 1) := by decide +kernel
theorem dX4_init_6 : decode cX4_init 6 = .ok (.putfield 9, 3) := by decide +kernel
theorem dX4_init_9 : decode cX4_init 9 = .ok (.aload_n 0, 1) := by decide +kernel
theorem dX4_init_10 : decode cX4_init 10 = .ok (.iconst 0, 1) := by decide +kernel
theorem dX4_init_11 : decode cX4_init 11 = .ok (.putfield 15, 3) := by decide +kernel
theorem dX4_init_14 : decode cX4_init 14 = .ok (.aload_n 0, 1) := by decide +kernel
theorem dX4_init_15 : decode cX4_init 15 = .ok (.iconst 0, 1) := by decide +kernel
theorem dX4_init_16 : decode cX4_init 16 = .ok (.putfield 19, 3) := by decide +kernel
theorem dX4_init_19 : decode cX4_init 19 = .ok (.aload_n 0, 1) := by decide +kernel
theorem dX4_init_20 : decode cX4_init 20 = .ok (.iconst 0, 1) := by decide +kernel
theorem dX4_init_21 : decode cX4_init 21 = .ok (.putfield 22, 3) := by decide +kernel
theorem dX4_init_24 : decode cX4_init 24 = .ok (.aload_n 0, 1) := by decide +kernel
theorem dX4_init_25 : decode cX4_init 25 = .ok (.iconst 0, 1) := by decide +kernel
theorem dX4_init_26 : decode cX4_init 26 = .ok (.putfield 25, 3) := by decide +kernel
theorem dX4_init_29 : decode cX4_init 29 = .ok (.return_, 1) := by decide +kernel
set_option maxRecDepth 20000 in
theorem ggX4_read_X4_nextToken : GoodIn wsX4_read wsX4_nextToken := goodIn_r _ [8, 1, 3, 9, 2, 10, 11, 12, 13, 14, 15, 16, 17, 18, 19, 20, 21, 22, 23, 24, 25, 26, 7, 27, 28, 29, 30, 31, 32, 33, 34, 35, 36, 129, 130, 131, 132, 133, 134, 135] (by decide +kernel) (by decide +kernel)
set_option maxRecDepth 20000 in
theorem gX4_read_X4_nextToken : GoodIn wsX4_read (wsV RX4 28 RX4 yX4_nextToken wsX4_nextToken) := goodIn_app (goodIn_of _ (by decide +kernel)) ggX4_read_X4_nextToken
set_option maxRecDepth 20000 in
theorem ggX4_read_X4_isWord : GoodIn wsX4_read wsX4_isWord := goodIn_r _ [40, 2, 1, 3, 9, 41, 42, 43, 44, 45, 46, 47, 48, 49, 50, 51, 52, 16, 17, 18, 13, 19, 15, 20, 53, 54, 55, 56, 57, 58, 59, 60, 61, 62, 63, 64, 65, 66, 67, 68, 69, 70, 71, 72, 73, 74, 75, 76, 77, 78, 79, 80, 81, 82, 83, 84, 85, 86, 87, 88, 89, 129, 130, 131, 132, 133, 134, 135] (by decide +kernel) (by decide +kernel)
set_option maxRecDepth 20000 in
theorem gX4_read_X4_isWord : GoodIn wsX4_read (wsV RX4 33 RX4 yX4_isWord wsX4_isWord) := goodIn_app (goodIn_of _ (by decide +kernel)) ggX4_read_X4_isWord
set_option maxRecDepth 20000 in
theorem ggX4_read_X4_readPage : GoodIn wsX4_read wsX4_readPage := goodIn_r _ [93, 32, 2, 94, 95, 96, 7, 97, 4, 5, 6, 8, 1, 3, 9, 10, 11, 12, 13, 14, 15, 16, 17, 18, 19, 20, 21, 22, 23, 24, 25, 26, 27, 28, 29, 30, 31, 33, 34, 35, 36, 98, 99, 100, 101, 102, 103, 104, 129, 130, 131, 132, 133, 134, 135, 136, 137, 138, 139, 140, 141] (by decide +kernel) (by decide +kernel)
set_option maxRecDepth 20000 in
theorem gX4_read_X4_readPage : GoodIn wsX4_read (wsV RX4 37 RX4 yX4_readPage wsX4_readPage) := goodIn_app (goodIn_of _ (by decide +kernel)) ggX4_read_X4_readPage
set_option maxRecDepth 20000 in
theorem ggX4_read_X1_isFull : GoodIn wsX4_read wsX1_isFull := goodIn_r _ [108, 109, 136, 137, 138, 139, 140, 141] (by decide +kernel) (by decide +kernel)
set_option maxRecDepth 20000 in
theorem gX4_read_X1_isFull : GoodIn wsX4_read (wsV RX4 43 RX1 yX1_isFull wsX1_isFull) := goodIn_app (goodIn_of _ (by decide +kernel)) ggX4_read_X1_isFull
set_option maxRecDepth 20000 in
theorem ggX4_read_X4_readPiece : GoodIn wsX4_read wsX4_readPiece := goodIn_r _ [113, 32, 2, 114, 115, 116, 101, 117, 109, 118, 119, 120, 121, 122, 123, 124, 22, 125, 126, 127, 94, 95, 96, 7, 97, 4, 5, 6, 8, 1, 3, 9, 10, 11, 12, 13, 14, 15, 16, 17, 18, 19, 20, 21, 23, 24, 25, 26, 27, 28, 29, 30, 31, 33, 34, 35, 36, 128, 37, 38, 39, 40, 41, 42, 43, 44, 45, 46, 47, 48, 49, 50, 51, 52, 53, 54, 55, 56, 57, 58, 59, 60, 61, 62, 63, 64, 65, 66, 67, 68, 69, 70, 71, 72, 73, 74, 75, 76, 77, 78, 79, 80, 81, 82, 83, 84, 85, 86, 87, 88, 89, 129, 130, 131, 132, 133, 136, 137, 138, 139, 140, 141, 134, 135] (by decide +kernel) (by decide +kernel)
set_option maxRecDepth 20000 in
theorem gX4_read_X4_readPiece : GoodIn wsX4_read (wsV RX4 49 RX4 yX4_readPiece wsX4_readPiece) := goodIn_app (goodIn_of _ (by decide +kernel)) ggX4_read_X4_readPiece
theorem dX4_read_0 : decode cX4_read 0 = .ok (.aload_n 0, 1) := by decide +kernel
theorem dX4_read_1 : decode cX4_read 1 = .ok (.iconst 0, 1) := by decide +kernel
theorem dX4_read_2 : decode cX4_read 2 = .ok (.putfield 25, 3) := by decide +kernel
theorem dX4_read_5 : decode cX4_read 5 = .ok (.iconst 0, 1) := by decide +kernel
theorem dX4_read_6 : decode cX4_read 6 = .ok (.istore_n 2, 1) := by decide +kernel
theorem dX4_read_7 : decode cX4_read 7 = .ok (.aload_n 0, 1) := by decide +kernel
theorem dX4_read_8 : decode cX4_read 8 = .ok (.invokevirtual 28, 3) := by decide +kernel
theorem dX4_read_11 : decode cX4_read 11 = .ok (.aload_n 0, 1) := by decide +kernel
theorem dX4_read_12 : decode cX4_read 12 = .ok (.getfield 15, 3) := by decide +kernel
theorem dX4_read_15 : decode cX4_read 15 = .ok (.ifCond .eq 91, 3) := by decide +kernel
theorem dX4_read_18 : decode cX4_read 18 = .ok (.iload_n 2, 1) := by decide +kernel
theorem dX4_read_19 : decode cX4_read 19 = .ok (.bipush 120, 2) := by decide +kernel
theorem dX4_read_21 : decode cX4_read 21 = .ok (.if_icmp .ge 85, 3) := by decide +kernel
theorem dX4_read_24 : decode cX4_read 24 = .ok (.aload_n 0, 1) := by decide +kernel
theorem dX4_read_25 : decode cX4_read 25 = .ok (.ldc 31, 2) := by decide +kernel
theorem dX4_read_27 : decode cX4_read 27 = .ok (.invokevirtual 33, 3) := by decide +kernel
theorem dX4_read_30 : decode cX4_read 30 = .ok (.ifCond .eq 23, 3) := by decide +kernel
theorem dX4_read_33 : decode cX4_read 33 = .ok (.iload_n 2, 1) := by decide +kernel
theorem dX4_read_34 : decode cX4_read 34 = .ok (.ifCond .ne 15, 3) := by decide +kernel
theorem dX4_read_37 : decode cX4_read 37 = .ok (.aload_n 0, 1) := by decide +kernel
theorem dX4_read_38 : decode cX4_read 38 = .ok (.aload_n 1, 1) := by decide +kernel
theorem dX4_read_39 : decode cX4_read 39 = .ok (.invokevirtual 37, 3) := by decide +kernel
theorem dX4_read_42 : decode cX4_read 42 = .ok (.ifCond .eq 7, 3) := by decide +kernel
theorem dX4_read_45 : decode cX4_read 45 = .ok (.iconst 1, 1) := by decide +kernel
theorem dX4_read_46 : decode cX4_read 46 = .ok (.goto 36, 3) := by decide +kernel
theorem dX4_read_49 : decode cX4_read 49 = .ok (.iconst 0, 1) := by decide +kernel
theorem dX4_read_50 : decode cX4_read 50 = .ok (.goto 32, 3) := by decide +kernel
theorem dX4_read_53 : decode cX4_read 53 = .ok (.aload_n 0, 1) := by decide +kernel
theorem dX4_read_54 : decode cX4_read 54 = .ok (.ldc 41, 2) := by decide +kernel
theorem dX4_read_56 : decode cX4_read 56 = .ok (.invokevirtual 33, 3) := by decide +kernel
theorem dX4_read_59 : decode cX4_read 59 = .ok (.ifCond .eq 22, 3) := by decide +kernel
theorem dX4_read_62 : decode cX4_read 62 = .ok (.aload_n 1, 1) := by decide +kernel
theorem dX4_read_63 : decode cX4_read 63 = .ok (.invokevirtual 43, 3) := by decide +kernel
theorem dX4_read_66 : decode cX4_read 66 = .ok (.ifCond .ne 15, 3) := by decide +kernel
theorem dX4_read_69 : decode cX4_read 69 = .ok (.aload_n 0, 1) := by decide +kernel
theorem dX4_read_70 : decode cX4_read 70 = .ok (.aload_n 1, 1) := by decide +kernel
theorem dX4_read_71 : decode cX4_read 71 = .ok (.invokevirtual 49, 3) := by decide +kernel
theorem dX4_read_74 : decode cX4_read 74 = .ok (.ifCond .eq 7, 3) := by decide +kernel
theorem dX4_read_77 : decode cX4_read 77 = .ok (.iconst 1, 1) := by decide +kernel
theorem dX4_read_78 : decode cX4_read 78 = .ok (.goto 4, 3) := by decide +kernel
theorem dX4_read_81 : decode cX4_read 81 = .ok (.iconst 0, 1) := by decide +kernel
theorem dX4_read_82 : decode cX4_read 82 = .ok (.istore_n 3, 1) := by decide +kernel
theorem dX4_read_83 : decode cX4_read 83 = .ok (.iload_n 3, 1) := by decide +kernel
theorem dX4_read_84 : decode cX4_read 84 = .ok (.ifCond .ne 12, 3) := by decide +kernel
theorem dX4_read_87 : decode cX4_read 87 = .ok (.sipush (-1000), 3) := by decide +kernel
theorem dX4_read_90 : decode cX4_read 90 = .ok (.aload_n 0, 1) := by decide +kernel
theorem dX4_read_91 : decode cX4_read 91 = .ok (.getfield 22, 3) := by decide +kernel
theorem dX4_read_94 : decode cX4_read 94 = .ok (.isub, 1) := by decide +kernel
theorem dX4_read_95 : decode cX4_read 95 = .ok (.ireturn, 1) := by decide +kernel
theorem dX4_read_96 : decode cX4_read 96 = .ok (.iinc 2 1, 3) := by decide +kernel
theorem dX4_read_99 : decode cX4_read 99 = .ok (.aload_n 0, 1) := by decide +kernel
theorem dX4_read_100 : decode cX4_read 100 = .ok (.invokevirtual 28, 3) := by decide +kernel
theorem dX4_read_103 : decode cX4_read 103 = .ok (.goto (-92), 3) := by decide +kernel
theorem dX4_read_106 : decode cX4_read 106 = .ok (.iload_n 2, 1) := by decide +kernel
theorem dX4_read_107 : decode cX4_read 107 = .ok (.ireturn, 1) := by decide +kernel
set_option maxRecDepth 20000 in
theorem ggX4_readPage_X4_isNextNumber : GoodIn wsX4_readPage wsX4_isNextNumber := goodIn_r _ [7, 2, 1, 8, 9, 10, 6, 11, 12, 13, 14, 15, 16, 17, 18, 19, 20, 21, 22, 23, 24, 25, 26, 27, 28, 29, 30, 31, 32, 33, 34, 35, 36, 37, 38, 39, 40, 48, 49, 50, 51, 52, 53, 54] (by decide +kernel) (by decide +kernel)
set_option maxRecDepth 20000 in
theorem gX4_readPage_X4_isNextNumber : GoodIn wsX4_readPage (wsV RX4 52 RX4 yX4_isNextNumber wsX4_isNextNumber) := goodIn_app (goodIn_of _ (by decide +kernel)) ggX4_readPage_X4_isNextNumber
set_option maxRecDepth 20000 in
theorem ggX4_readPage_X1_resize : GoodIn wsX4_readPage wsX1_resize := goodIn_r _ [45, 46, 47, 55, 56, 57, 58, 59, 60] (by decide +kernel) (by decide +kernel)
set_option maxRecDepth 20000 in
theorem gX4_readPage_X1_resize : GoodIn wsX4_readPage (wsV RX4 56 RX1 yX1_resize wsX1_resize) := goodIn_app (goodIn_of _ (by decide +kernel)) ggX4_readPage_X1_resize
set_option maxRecDepth 20000 in
theorem ggX4_readPage_X4_nextToken : GoodIn wsX4_readPage wsX4_nextToken := goodIn_r _ [11, 12, 13, 14, 2, 15, 16, 17, 18, 19, 20, 21, 22, 23, 24, 25, 26, 27, 28, 29, 30, 31, 6, 32, 33, 34, 35, 36, 1, 37, 38, 39, 40, 48, 49, 50, 51, 52, 53, 54] (by decide +kernel) (by decide +kernel)
set_option maxRecDepth 20000 in
theorem gX4_readPage_X4_nextToken : GoodIn wsX4_readPage (wsV RX4 28 RX4 yX4_nextToken wsX4_nextToken) := goodIn_app (goodIn_of _ (by decide +kernel)) ggX4_readPage_X4_nextToken
theorem dX4_readPage_0 : decode cX4_readPage 0 = .ok (.aload_n 0, 1) := by decide +kernel
theorem dX4_readPage_1 : decode cX4_readPage 1 = .ok (.iconst 4, 1) := by decide +kernel
theorem dX4_readPage_2 : decode cX4_readPage 2 = .ok (.bipush 24, 2) := by decide +kernel
theorem dX4_readPage_4 : decode cX4_readPage 4 = .ok (.invokevirtual 52, 3) := by decide +kernel
theorem dX4_readPage_7 : decode cX4_readPage 7 = .ok (.ifCond .ne 5, 3) := by decide +kernel
theorem dX4_readPage_10 : decode cX4_readPage 10 = .ok (.iconst 0, 1) := by decide +kernel
theorem dX4_readPage_11 : decode cX4_readPage 11 = .ok (.ireturn, 1) := by decide +kernel
theorem dX4_readPage_12 : decode cX4_readPage 12 = .ok (.aload_n 0, 1) := by decide +kernel
theorem dX4_readPage_13 : decode cX4_readPage 13 = .ok (.getfield 19, 3) := by decide +kernel
theorem dX4_readPage_16 : decode cX4_readPage 16 = .ok (.istore_n 2, 1) := by decide +kernel
theorem dX4_readPage_17 : decode cX4_readPage 17 = .ok (.aload_n 0, 1) := by decide +kernel
theorem dX4_readPage_18 : decode cX4_readPage 18 = .ok (.iconst 4, 1) := by decide +kernel
theorem dX4_readPage_19 : decode cX4_readPage 19 = .ok (.bipush 24, 2) := by decide +kernel
theorem dX4_readPage_21 : decode cX4_readPage 21 = .ok (.invokevirtual 52, 3) := by decide +kernel
theorem dX4_readPage_24 : decode cX4_readPage 24 = .ok (.ifCond .ne 5, 3) := by decide +kernel
theorem dX4_readPage_27 : decode cX4_readPage 27 = .ok (.iconst 0, 1) := by decide +kernel
theorem dX4_readPage_28 : decode cX4_readPage 28 = .ok (.ireturn, 1) := by decide +kernel
theorem dX4_readPage_29 : decode cX4_readPage 29 = .ok (.aload_n 1, 1) := by decide +kernel
theorem dX4_readPage_30 : decode cX4_readPage 30 = .ok (.iload_n 2, 1) := by decide +kernel
theorem dX4_readPage_31 : decode cX4_readPage 31 = .ok (.aload_n 0, 1) := by decide +kernel
theorem dX4_readPage_32 : decode cX4_readPage 32 = .ok (.getfield 19, 3) := by decide +kernel
theorem dX4_readPage_35 : decode cX4_readPage 35 = .ok (.invokevirtual 56, 3) := by decide +kernel
theorem dX4_readPage_38 : decode cX4_readPage 38 = .ok (.aload_n 0, 1) := by decide +kernel
theorem dX4_readPage_39 : decode cX4_readPage 39 = .ok (.invokevirtual 28, 3) := by decide +kernel
theorem dX4_readPage_42 : decode cX4_readPage 42 = .ok (.aload_n 0, 1) := by decide +kernel
theorem dX4_readPage_43 : decode cX4_readPage 43 = .ok (.getfield 15, 3) := by decide +kernel
theorem dX4_readPage_46 : decode cX4_readPage 46 = .ok (.iconst 3, 1) := by decide +kernel
theorem dX4_readPage_47 : decode cX4_readPage 47 = .ok (.if_icmp .ne 7, 3) := by decide +kernel
theorem dX4_readPage_50 : decode cX4_readPage 50 = .ok (.iconst 1, 1) := by decide +kernel
theorem dX4_readPage_51 : decode cX4_readPage 51 = .ok (.goto 4, 3) := by decide +kernel
theorem dX4_readPage_54 : decode cX4_readPage 54 = .ok (.iconst 0, 1) := by decide +kernel
theorem dX4_readPage_55 : decode cX4_readPage 55 = .ok (.ireturn, 1) := by decide +kernel
set_option maxRecDepth 20000 in
theorem ggX4_readPiece_X1_addBlank : GoodIn wsX4_readPiece wsX1_addBlank := goodIn_r _ [7, 8, 9, 10, 11, 12, 6, 13, 14, 15, 16, 17, 116, 117, 118, 119, 120, 121] (by decide +kernel) (by decide +kernel)
set_option maxRecDepth 20000 in
theorem gX4_readPiece_X1_addBlank : GoodIn wsX4_readPiece (wsV RX4 60 RX1 yX1_addBlank wsX1_addBlank) := goodIn_app (goodIn_of _ (by decide +kernel)) ggX4_readPiece_X1_addBlank
set_option maxRecDepth 20000 in
theorem ggX4_readPiece_X7_at : GoodIn wsX4_readPiece wsX7_at := goodIn_r _ [19] (by decide +kernel) (by decide +kernel)
set_option maxRecDepth 20000 in
theorem gX4_readPiece_X7_at_n68 : GoodIn wsX4_readPiece (wsX7_at) := ggX4_readPiece_X7_at
set_option maxRecDepth 20000 in
theorem ggX4_readPiece_X4_isNextNumber : GoodIn wsX4_readPiece wsX4_isNextNumber := goodIn_r _ [24, 2, 1, 25, 26, 27, 23, 28, 29, 30, 31, 32, 33, 34, 35, 36, 37, 38, 39, 40, 41, 42, 43, 16, 44, 45, 46, 47, 48, 49, 50, 51, 52, 53, 54, 55, 56, 111, 112, 113, 114, 115, 122, 123] (by decide +kernel) (by decide +kernel)
set_option maxRecDepth 20000 in
theorem gX4_readPiece_X4_isNextNumber : GoodIn wsX4_readPiece (wsV RX4 52 RX4 yX4_isNextNumber wsX4_isNextNumber) := goodIn_app (goodIn_of _ (by decide +kernel)) ggX4_readPiece_X4_isNextNumber
set_option maxRecDepth 20000 in
theorem ggX4_readPiece_X1_set : GoodIn wsX4_readPiece wsX1_set := goodIn_r _ [13, 14, 15, 16, 17, 116, 117, 118, 119, 120, 121] (by decide +kernel) (by decide +kernel)
set_option maxRecDepth 20000 in
theorem gX4_readPiece_X1_set : GoodIn wsX4_readPiece (wsV RX4 75 RX1 yX1_set wsX1_set) := goodIn_app (goodIn_of _ (by decide +kernel)) ggX4_readPiece_X1_set
set_option maxRecDepth 20000 in
theorem ggX4_readPiece_X4_nextToken : GoodIn wsX4_readPiece wsX4_nextToken := goodIn_r _ [28, 29, 30, 31, 2, 32, 33, 34, 35, 36, 37, 38, 39, 40, 41, 42, 43, 16, 44, 45, 46, 47, 23, 48, 49, 50, 51, 52, 1, 53, 54, 55, 56, 111, 112, 113, 114, 115, 122, 123] (by decide +kernel) (by decide +kernel)
set_option maxRecDepth 20000 in
theorem gX4_readPiece_X4_nextToken : GoodIn wsX4_readPiece (wsV RX4 28 RX4 yX4_nextToken wsX4_nextToken) := goodIn_app (goodIn_of _ (by decide +kernel)) ggX4_readPiece_X4_nextToken
set_option maxRecDepth 20000 in
theorem ggX4_readPiece_X4_isWord : GoodIn wsX4_readPiece wsX4_isWord := goodIn_r _ [61, 2, 29, 30, 31, 62, 63, 64, 65, 66, 67, 68, 69, 70, 71, 72, 73, 38, 39, 40, 35, 41, 37, 42, 74, 75, 76, 77, 78, 79, 80, 81, 82, 83, 84, 85, 86, 87, 88, 89, 90, 91, 92, 93, 94, 95, 96, 97, 98, 99, 100, 101, 102, 103, 104, 105, 106, 107, 108, 109, 110, 111, 112, 113, 114, 115, 122, 123] (by decide +kernel) (by decide +kernel)
set_option maxRecDepth 20000 in
theorem gX4_readPiece_X4_isWord : GoodIn wsX4_readPiece (wsV RX4 33 RX4 yX4_isWord wsX4_isWord) := goodIn_app (goodIn_of _ (by decide +kernel)) ggX4_readPiece_X4_isWord
theorem dX4_readPiece_0 : decode cX4_readPiece 0 = .ok (.aload_n 1, 1) := by decide +kernel
theorem dX4_readPiece_1 : decode cX4_readPiece 1 = .ok (.invokevirtual 60, 3) := by decide +kernel
theorem dX4_readPiece_4 : decode cX4_readPiece 4 = .ok (.istore_n 2, 1) := by decide +kernel
theorem dX4_readPiece_5 : decode cX4_readPiece 5 = .ok (.iconst 0, 1) := by decide +kernel
theorem dX4_readPiece_6 : decode cX4_readPiece 6 = .ok (.istore_n 3, 1) := by decide +kernel
theorem dX4_readPiece_7 : decode cX4_readPiece 7 = .ok (.iload_n 3, 1) := by decide +kernel
theorem dX4_readPiece_8 : decode cX4_readPiece 8 = .ok (.iconst 4, 1) := by decide +kernel
theorem dX4_readPiece_9 : decode cX4_readPiece 9 = .ok (.if_icmp .gt 42, 3) := by decide +kernel
theorem dX4_readPiece_12 : decode cX4_readPiece 12 = .ok (.aload_n 0, 1) := by decide +kernel
theorem dX4_readPiece_13 : decode cX4_readPiece 13 = .ok (.getstatic 64, 3) := by decide +kernel
theorem dX4_readPiece_16 : decode cX4_readPiece 16 = .ok (.iload_n 3, 1) := by decide +kernel
theorem dX4_readPiece_17 : decode cX4_readPiece 17 = .ok (.invokestatic 68, 3) := by decide +kernel
theorem dX4_readPiece_20 : decode cX4_readPiece 20 = .ok (.getstatic 72, 3) := by decide +kernel
theorem dX4_readPiece_23 : decode cX4_readPiece 23 = .ok (.iload_n 3, 1) := by decide +kernel
theorem dX4_readPiece_24 : decode cX4_readPiece 24 = .ok (.invokestatic 68, 3) := by decide +kernel
theorem dX4_readPiece_27 : decode cX4_readPiece 27 = .ok (.invokevirtual 52, 3) := by decide +kernel
theorem dX4_readPiece_30 : decode cX4_readPiece 30 = .ok (.ifCond .ne 5, 3) := by decide +kernel
theorem dX4_readPiece_33 : decode cX4_readPiece 33 = .ok (.iconst 0, 1) := by decide +kernel
theorem dX4_readPiece_34 : decode cX4_readPiece 34 = .ok (.ireturn, 1) := by decide +kernel
theorem dX4_readPiece_35 : decode cX4_readPiece 35 = .ok (.aload_n 1, 1) := by decide +kernel
theorem dX4_readPiece_36 : decode cX4_readPiece 36 = .ok (.iload_n 2, 1) := by decide +kernel
theorem dX4_readPiece_37 : decode cX4_readPiece 37 = .ok (.iload_n 3, 1) := by decide +kernel
theorem dX4_readPiece_38 : decode cX4_readPiece 38 = .ok (.aload_n 0, 1) := by decide +kernel
theorem dX4_readPiece_39 : decode cX4_readPiece 39 = .ok (.getfield 19, 3) := by decide +kernel
theorem dX4_readPiece_42 : decode cX4_readPiece 42 = .ok (.invokevirtual 75, 3) := by decide +kernel
theorem dX4_readPiece_45 : decode cX4_readPiece 45 = .ok (.iinc 3 1, 3) := by decide +kernel
theorem dX4_readPiece_48 : decode cX4_readPiece 48 = .ok (.goto (-41), 3) := by decide +kernel
theorem dX4_readPiece_51 : decode cX4_readPiece 51 = .ok (.aload_n 0, 1) := by decide +kernel
theorem dX4_readPiece_52 : decode cX4_readPiece 52 = .ok (.invokevirtual 28, 3) := by decide +kernel
theorem dX4_readPiece_55 : decode cX4_readPiece 55 = .ok (.aload_n 0, 1) := by decide +kernel
theorem dX4_readPiece_56 : decode cX4_readPiece 56 = .ok (.ldc 79, 2) := by decide +kernel
theorem dX4_readPiece_58 : decode cX4_readPiece 58 = .ok (.invokevirtual 33, 3) := by decide +kernel
theorem dX4_readPiece_61 : decode cX4_readPiece 61 = .ok (.ifCond .eq 40, 3) := by decide +kernel
theorem dX4_readPiece_64 : decode cX4_readPiece 64 = .ok (.aload_n 0, 1) := by decide +kernel
theorem dX4_readPiece_65 : decode cX4_readPiece 65 = .ok (.getstatic 64, 3) := by decide +kernel
theorem dX4_readPiece_68 : decode cX4_readPiece 68 = .ok (.iconst 5, 1) := by decide +kernel
theorem dX4_readPiece_69 : decode cX4_readPiece 69 = .ok (.invokestatic 68, 3) := by decide +kernel
theorem dX4_readPiece_72 : decode cX4_readPiece 72 = .ok (.getstatic 72, 3) := by decide +kernel
theorem dX4_readPiece_75 : decode cX4_readPiece 75 = .ok (.iconst 5, 1) := by decide +kernel
theorem dX4_readPiece_76 : decode cX4_readPiece 76 = .ok (.invokestatic 68, 3) := by decide +kernel
theorem dX4_readPiece_79 : decode cX4_readPiece 79 = .ok (.invokevirtual 52, 3) := by decide +kernel
theorem dX4_readPiece_82 : decode cX4_readPiece 82 = .ok (.ifCond .ne 5, 3) := by decide +kernel
theorem dX4_readPiece_85 : decode cX4_readPiece 85 = .ok (.iconst 0, 1) := by decide +kernel
theorem dX4_readPiece_86 : decode cX4_readPiece 86 = .ok (.ireturn, 1) := by decide +kernel
theorem dX4_readPiece_87 : decode cX4_readPiece 87 = .ok (.aload_n 1, 1) := by decide +kernel
theorem dX4_readPiece_88 : decode cX4_readPiece 88 = .ok (.iload_n 2, 1) := by decide +kernel
theorem dX4_readPiece_89 : decode cX4_readPiece 89 = .ok (.iconst 5, 1) := by decide +kernel
theorem dX4_readPiece_90 : decode cX4_readPiece 90 = .ok (.aload_n 0, 1) := by decide +kernel
theorem dX4_readPiece_91 : decode cX4_readPiece 91 = .ok (.getfield 19, 3) := by decide +kernel
theorem dX4_readPiece_94 : decode cX4_readPiece 94 = .ok (.invokevirtual 75, 3) := by decide +kernel
theorem dX4_readPiece_97 : decode cX4_readPiece 97 = .ok (.aload_n 0, 1) := by decide +kernel
theorem dX4_readPiece_98 : decode cX4_readPiece 98 = .ok (.invokevirtual 28, 3) := by decide +kernel
theorem dX4_readPiece_101 : decode cX4_readPiece 101 = .ok (.aload_n 0, 1) := by decide +kernel
theorem dX4_readPiece_102 : decode cX4_readPiece 102 = .ok (.getfield 15, 3) := by decide +kernel
theorem dX4_readPiece_105 : decode cX4_readPiece 105 = .ok (.iconst 3, 1) := by decide +kernel
theorem dX4_readPiece_106 : decode cX4_readPiece 106 = .ok (.if_icmp .ne 7, 3) := by decide +kernel
theorem dX4_readPiece_109 : decode cX4_readPiece 109 = .ok (.iconst 1, 1) := by decide +kernel
theorem dX4_readPiece_110 : decode cX4_readPiece 110 = .ok (.goto 4, 3) := by decide +kernel
theorem dX4_readPiece_113 : decode cX4_readPiece 113 = .ok (.iconst 0, 1) := by decide +kernel
theorem dX4_readPiece_114 : decode cX4_readPiece 114 = .ok (.ireturn, 1) := by decide +kernel
set_option maxRecDepth 20000 in
theorem ggX4_isNextNumber_X4_nextToken : GoodIn wsX4_isNextNumber wsX4_nextToken := goodIn_r _ [7, 8, 9, 10, 1, 11, 12, 13, 14, 15, 16, 17, 18, 19, 20, 21, 22, 23, 24, 25, 26, 27, 6, 28, 29, 30, 31, 32, 2, 33, 34, 35, 36, 37, 38, 39, 40, 41, 42, 43] (by decide +kernel) (by decide +kernel)
set_option maxRecDepth 20000 in
theorem gX4_isNextNumber_X4_nextToken : GoodIn wsX4_isNextNumber (wsV RX4 28 RX4 yX4_nextToken wsX4_nextToken) := goodIn_app (goodIn_of _ (by decide +kernel)) ggX4_isNextNumber_X4_nextToken
set_option maxRecDepth 20000 in
theorem ggX4_isNextNumber_X7_isWithin : GoodIn wsX4_isNextNumber wsX7_isWithin := goodIn_r _ [24] (by decide +kernel) (by decide +kernel)
set_option maxRecDepth 20000 in
theorem gX4_isNextNumber_X7_isWithin_n81 : GoodIn wsX4_isNextNumber (wsX7_isWithin) := ggX4_isNextNumber_X7_isWithin
theorem dX4_isNextNumber_0 : decode cX4_isNextNumber 0 = .ok (.aload_n 0, 1) := by decide +kernel
theorem dX4_isNextNumber_1 : decode cX4_isNextNumber 1 = .ok (.invokevirtual 28, 3) := by decide +kernel
theorem dX4_isNextNumber_4 : decode cX4_isNextNumber 4 = .ok (.aload_n 0, 1) := by decide +kernel
theorem dX4_isNextNumber_5 : decode cX4_isNextNumber 5 = .ok (.getfield 15, 3) := by decide +kernel
theorem dX4_isNextNumber_8 : decode cX4_isNextNumber 8 = .ok (.iconst 2, 1) := by decide +kernel
theorem dX4_isNextNumber_9 : decode cX4_isNextNumber 9 = .ok (.if_icmp .ne 19, 3) := by decide +kernel
theorem dX4_isNextNumber_12 : decode cX4_isNextNumber 12 = .ok (.aload_n 0, 1) := by decide +kernel
theorem dX4_isNextNumber_13 : decode cX4_isNextNumber 13 = .ok (.getfield 19, 3) := by decide +kernel
theorem dX4_isNextNumber_16 : decode cX4_isNextNumber 16 = .ok (.iload_n 1, 1) := by decide +kernel
theorem dX4_isNextNumber_17 : decode cX4_isNextNumber 17 = .ok (.iload_n 2, 1) := by decide +kernel
theorem dX4_isNextNumber_18 : decode cX4_isNextNumber 18 = .ok (.invokestatic 81, 3) := by decide +kernel
theorem dX4_isNextNumber_21 : decode cX4_isNextNumber 21 = .ok (.ifCond .eq 7, 3) := by decide +kernel
theorem dX4_isNextNumber_24 : decode cX4_isNextNumber 24 = .ok (.iconst 1, 1) := by decide +kernel
theorem dX4_isNextNumber_25 : decode cX4_isNextNumber 25 = .ok (.goto 4, 3) := by decide +kernel
theorem dX4_isNextNumber_28 : decode cX4_isNextNumber 28 = .ok (.iconst 0, 1) := by decide +kernel
theorem dX4_isNextNumber_29 : decode cX4_isNextNumber 29 = .ok (.ireturn, 1) := by decide +kernel
set_option maxRecDepth 20000 in
theorem ggX4_isWord_J0_length_8abf5 : GoodIn wsX4_isWord wsJ0_length_8abf5 := goodIn_r _ [9, 10, 11, 12, 13, 8, 14, 15, 16] (by decide +kernel) (by decide +kernel)
set_option maxRecDepth 20000 in
theorem gX4_isWord_J0_length_8abf5 : GoodIn wsX4_isWord (wsV RX4 85 RJ0 yJ0_length_8abf5 wsJ0_length_8abf5) := goodIn_app (goodIn_of _ (by decide +kernel)) ggX4_isWord_J0_length_8abf5
set_option maxRecDepth 20000 in
theorem ggX4_isWord_X6_characterAt : GoodIn wsX4_isWord wsX6_characterAt := goodIn_r _ [21, 22, 23, 66, 67] (by decide +kernel) (by decide +kernel)
set_option maxRecDepth 20000 in
theorem gX4_isWord_X6_characterAt : GoodIn wsX4_isWord (wsV RX4 90 RX6 yX6_characterAt wsX6_characterAt) := goodIn_app (goodIn_of _ (by decide +kernel)) ggX4_isWord_X6_characterAt
set_option maxRecDepth 20000 in
theorem ggX4_isWord_J0_charAt_5068e : GoodIn wsX4_isWord wsJ0_charAt_5068e := goodIn_r _ [27, 10, 28, 29, 30, 8, 31, 15, 16, 32, 33, 34, 35, 36, 37, 38, 39, 40, 41, 42, 43, 44, 45, 46, 47, 48, 49, 50, 51, 52, 53, 54, 55, 56, 57, 58, 59, 60] (by decide +kernel) (by decide +kernel)
set_option maxRecDepth 20000 in
theorem gX4_isWord_J0_charAt_5068e : GoodIn wsX4_isWord (wsV RX4 96 RJ0 yJ0_charAt_5068e wsJ0_charAt_5068e) := goodIn_app (goodIn_of _ (by decide +kernel)) ggX4_isWord_J0_charAt_5068e
theorem dX4_isWord_0 : decode cX4_isWord 0 = .ok (.aload_n 0, 1) := by decide +kernel
theorem dX4_isWord_1 : decode cX4_isWord 1 = .ok (.getfield 15, 3) := by decide +kernel
theorem dX4_isWord_4 : decode cX4_isWord 4 = .ok (.iconst 1, 1) := by decide +kernel
theorem dX4_isWord_5 : decode cX4_isWord 5 = .ok (.if_icmp .ne 19, 3) := by decide +kernel
theorem dX4_isWord_8 : decode cX4_isWord 8 = .ok (.aload_n 0, 1) := by decide +kernel
theorem dX4_isWord_9 : decode cX4_isWord 9 = .ok (.getfield 25, 3) := by decide +kernel
theorem dX4_isWord_12 : decode cX4_isWord 12 = .ok (.aload_n 0, 1) := by decide +kernel
theorem dX4_isWord_13 : decode cX4_isWord 13 = .ok (.getfield 22, 3) := by decide +kernel
theorem dX4_isWord_16 : decode cX4_isWord 16 = .ok (.isub, 1) := by decide +kernel
theorem dX4_isWord_17 : decode cX4_isWord 17 = .ok (.aload_n 1, 1) := by decide +kernel
theorem dX4_isWord_18 : decode cX4_isWord 18 = .ok (.invokevirtual 85, 3) := by decide +kernel
theorem dX4_isWord_21 : decode cX4_isWord 21 = .ok (.if_icmp .eq 5, 3) := by decide +kernel
theorem dX4_isWord_24 : decode cX4_isWord 24 = .ok (.iconst 0, 1) := by decide +kernel
theorem dX4_isWord_25 : decode cX4_isWord 25 = .ok (.ireturn, 1) := by decide +kernel
theorem dX4_isWord_26 : decode cX4_isWord 26 = .ok (.iconst 0, 1) := by decide +kernel
theorem dX4_isWord_27 : decode cX4_isWord 27 = .ok (.istore_n 2, 1) := by decide +kernel
theorem dX4_isWord_28 : decode cX4_isWord 28 = .ok (.iload_n 2, 1) := by decide +kernel
theorem dX4_isWord_29 : decode cX4_isWord 29 = .ok (.aload_n 1, 1) := by decide +kernel
theorem dX4_isWord_30 : decode cX4_isWord 30 = .ok (.invokevirtual 85, 3) := by decide +kernel
theorem dX4_isWord_33 : decode cX4_isWord 33 = .ok (.if_icmp .ge 32, 3) := by decide +kernel
theorem dX4_isWord_36 : decode cX4_isWord 36 = .ok (.aload_n 0, 1) := by decide +kernel
theorem dX4_isWord_37 : decode cX4_isWord 37 = .ok (.getfield 9, 3) := by decide +kernel
theorem dX4_isWord_40 : decode cX4_isWord 40 = .ok (.aload_n 0, 1) := by decide +kernel
theorem dX4_isWord_41 : decode cX4_isWord 41 = .ok (.getfield 22, 3) := by decide +kernel
theorem dX4_isWord_44 : decode cX4_isWord 44 = .ok (.iload_n 2, 1) := by decide +kernel
theorem dX4_isWord_45 : decode cX4_isWord 45 = .ok (.iadd, 1) := by decide +kernel
theorem dX4_isWord_46 : decode cX4_isWord 46 = .ok (.invokevirtual 90, 3) := by decide +kernel
theorem dX4_isWord_49 : decode cX4_isWord 49 = .ok (.aload_n 1, 1) := by decide +kernel
theorem dX4_isWord_50 : decode cX4_isWord 50 = .ok (.iload_n 2, 1) := by decide +kernel
theorem dX4_isWord_51 : decode cX4_isWord 51 = .ok (.invokevirtual 96, 3) := by decide +kernel
theorem dX4_isWord_54 : decode cX4_isWord 54 = .ok (.if_icmp .eq 5, 3) := by decide +kernel
theorem dX4_isWord_57 : decode cX4_isWord 57 = .ok (.iconst 0, 1) := by decide +kernel
theorem dX4_isWord_58 : decode cX4_isWord 58 = .ok (.ireturn, 1) := by decide +kernel
theorem dX4_isWord_59 : decode cX4_isWord 59 = .ok (.iinc 2 1, 3) := by decide +kernel
theorem dX4_isWord_62 : decode cX4_isWord 62 = .ok (.goto (-34), 3) := by decide +kernel
theorem dX4_isWord_65 : decode cX4_isWord 65 = .ok (.iconst 1, 1) := by decide +kernel
theorem dX4_isWord_66 : decode cX4_isWord 66 = .ok (.ireturn, 1) := by decide +kernel
set_option maxRecDepth 20000 in
theorem ggX4_nextToken_X6_length : GoodIn wsX4_nextToken wsX6_length := goodIn_r _ [9, 10, 38, 39] (by decide +kernel) (by decide +kernel)
set_option maxRecDepth 20000 in
theorem gX4_nextToken_X6_length : GoodIn wsX4_nextToken (wsV RX4 100 RX6 yX6_length wsX6_length) := goodIn_app (goodIn_of _ (by decide +kernel)) ggX4_nextToken_X6_length
set_option maxRecDepth 20000 in
theorem ggX4_nextToken_X6_characterAt : GoodIn wsX4_nextToken wsX6_characterAt := goodIn_r _ [14, 10, 15, 38, 39] (by decide +kernel) (by decide +kernel)
set_option maxRecDepth 20000 in
theorem gX4_nextToken_X6_characterAt : GoodIn wsX4_nextToken (wsV RX4 90 RX6 yX6_characterAt wsX6_characterAt) := goodIn_app (goodIn_of _ (by decide +kernel)) ggX4_nextToken_X6_characterAt
set_option maxRecDepth 20000 in
theorem ggX4_nextToken_X7_isWithin : GoodIn wsX4_nextToken wsX7_isWithin := goodIn_r _ [18] (by decide +kernel) (by decide +kernel)
set_option maxRecDepth 20000 in
theorem gX4_nextToken_X7_isWithin_n81 : GoodIn wsX4_nextToken (wsX7_isWithin) := ggX4_nextToken_X7_isWithin
set_option maxRecDepth 20000 in
theorem ggX4_nextToken_X4_takeWord : GoodIn wsX4_nextToken wsX4_takeWord := goodIn_r _ [23, 4, 1, 3, 5, 6, 7, 8, 9, 10, 11, 12, 13, 14, 15, 16, 17, 18, 33, 34, 35, 36, 37, 38, 39] (by decide +kernel) (by decide +kernel)
set_option maxRecDepth 20000 in
theorem gX4_nextToken_X4_takeWord : GoodIn wsX4_nextToken (wsV RX4 101 RX4 yX4_takeWord wsX4_takeWord) := goodIn_app (goodIn_of _ (by decide +kernel)) ggX4_nextToken_X4_takeWord
set_option maxRecDepth 20000 in
theorem ggX4_nextToken_X4_takeNumber : GoodIn wsX4_nextToken wsX4_takeNumber := goodIn_r _ [27, 3, 2, 1, 28, 29, 30, 31, 32, 4, 11, 12, 13, 8, 14, 10, 15, 5, 6, 7, 9, 16, 17, 18, 33, 34, 35, 36, 37, 38, 39] (by decide +kernel) (by decide +kernel)
set_option maxRecDepth 20000 in
theorem gX4_nextToken_X4_takeNumber : GoodIn wsX4_nextToken (wsV RX4 104 RX4 yX4_takeNumber wsX4_takeNumber) := goodIn_app (goodIn_of _ (by decide +kernel)) ggX4_nextToken_X4_takeNumber
theorem dX4_nextToken_0 : decode cX4_nextToken 0 = .ok (.aload_n 0, 1) := by decide +kernel
theorem dX4_nextToken_1 : decode cX4_nextToken 1 = .ok (.aload_n 0, 1) := by decide +kernel
theorem dX4_nextToken_2 : decode cX4_nextToken 2 = .ok (.getfield 25, 3) := by decide +kernel
theorem dX4_nextToken_5 : decode cX4_nextToken 5 = .ok (.putfield 22, 3) := by decide +kernel
theorem dX4_nextToken_8 : decode cX4_nextToken 8 = .ok (.aload_n 0, 1) := by decide +kernel
theorem dX4_nextToken_9 : decode cX4_nextToken 9 = .ok (.getfield 22, 3) := by decide +kernel
theorem dX4_nextToken_12 : decode cX4_nextToken 12 = .ok (.aload_n 0, 1) := by decide +kernel
theorem dX4_nextToken_13 : decode cX4_nextToken 13 = .ok (.getfield 9, 3) := by decide +kernel
theorem dX4_nextToken_16 : decode cX4_nextToken 16 = .ok (.invokevirtual 100, 3) := by decide +kernel
theorem dX4_nextToken_19 : decode cX4_nextToken 19 = .ok (.if_icmp .ge 32, 3) := by decide +kernel
theorem dX4_nextToken_22 : decode cX4_nextToken 22 = .ok (.aload_n 0, 1) := by decide +kernel
theorem dX4_nextToken_23 : decode cX4_nextToken 23 = .ok (.getfield 9, 3) := by decide +kernel
theorem dX4_nextToken_26 : decode cX4_nextToken 26 = .ok (.aload_n 0, 1) := by decide +kernel
theorem dX4_nextToken_27 : decode cX4_nextToken 27 = .ok (.getfield 22, 3) := by decide +kernel
theorem dX4_nextToken_30 : decode cX4_nextToken 30 = .ok (.invokevirtual 90, 3) := by decide +kernel
theorem dX4_nextToken_33 : decode cX4_nextToken 33 = .ok (.bipush 32, 2) := by decide +kernel
theorem dX4_nextToken_35 : decode cX4_nextToken 35 = .ok (.if_icmp .ne 16, 3) := by decide +kernel
theorem dX4_nextToken_38 : decode cX4_nextToken 38 = .ok (.aload_n 0, 1) := by decide +kernel
theorem dX4_nextToken_39 : decode cX4_nextToken 39 = .ok (.dup, 1) := by decide +kernel
theorem dX4_nextToken_40 : decode cX4_nextToken 40 = .ok (.getfield 22, 3) := by decide +kernel
theorem dX4_nextToken_43 : decode cX4_nextToken 43 = .ok (.iconst 1, 1) := by decide +kernel
theorem dX4_nextToken_44 : decode cX4_nextToken 44 = .ok (.iadd, 1) := by decide +kernel
theorem dX4_nextToken_45 : decode cX4_nextToken 45 = .ok (.putfield 22, 3) := by decide +kernel
theorem dX4_nextToken_48 : decode cX4_nextToken 48 = .ok (.goto (-40), 3) := by decide +kernel
theorem dX4_nextToken_51 : decode cX4_nextToken 51 = .ok (.aload_n 0, 1) := by decide +kernel
theorem dX4_nextToken_52 : decode cX4_nextToken 52 = .ok (.aload_n 0, 1) := by decide +kernel
theorem dX4_nextToken_53 : decode cX4_nextToken 53 = .ok (.getfield 22, 3) := by decide +kernel
theorem dX4_nextToken_56 : decode cX4_nextToken 56 = .ok (.putfield 25, 3) := by decide +kernel
theorem dX4_nextToken_59 : decode cX4_nextToken 59 = .ok (.aload_n 0, 1) := by decide +kernel
theorem dX4_nextToken_60 : decode cX4_nextToken 60 = .ok (.getfield 9, 3) := by decide +kernel
theorem dX4_nextToken_63 : decode cX4_nextToken 63 = .ok (.aload_n 0, 1) := by decide +kernel
theorem dX4_nextToken_64 : decode cX4_nextToken 64 = .ok (.getfield 22, 3) := by decide +kernel
theorem dX4_nextToken_67 : decode cX4_nextToken 67 = .ok (.invokevirtual 90, 3) := by decide +kernel
theorem dX4_nextToken_70 : decode cX4_nextToken 70 = .ok (.istore_n 1, 1) := by decide +kernel
theorem dX4_nextToken_71 : decode cX4_nextToken 71 = .ok (.aload_n 0, 1) := by decide +kernel
theorem dX4_nextToken_72 : decode cX4_nextToken 72 = .ok (.getfield 22, 3) := by decide +kernel
theorem dX4_nextToken_75 : decode cX4_nextToken 75 = .ok (.aload_n 0, 1) := by decide +kernel
theorem dX4_nextToken_76 : decode cX4_nextToken 76 = .ok (.getfield 9, 3) := by decide +kernel
theorem dX4_nextToken_79 : decode cX4_nextToken 79 = .ok (.invokevirtual 100, 3) := by decide +kernel
theorem dX4_nextToken_82 : decode cX4_nextToken 82 = .ok (.if_icmp .lt 11, 3) := by decide +kernel
theorem dX4_nextToken_85 : decode cX4_nextToken 85 = .ok (.aload_n 0, 1) := by decide +kernel
theorem dX4_nextToken_86 : decode cX4_nextToken 86 = .ok (.iconst 0, 1) := by decide +kernel
theorem dX4_nextToken_87 : decode cX4_nextToken 87 = .ok (.putfield 15, 3) := by decide +kernel
theorem dX4_nextToken_90 : decode cX4_nextToken 90 = .ok (.goto 70, 3) := by decide +kernel
theorem dX4_nextToken_93 : decode cX4_nextToken 93 = .ok (.iload_n 1, 1) := by decide +kernel
theorem dX4_nextToken_94 : decode cX4_nextToken 94 = .ok (.bipush 97, 2) := by decide +kernel
theorem dX4_nextToken_96 : decode cX4_nextToken 96 = .ok (.bipush 122, 2) := by decide +kernel
theorem dX4_nextToken_98 : decode cX4_nextToken 98 = .ok (.invokestatic 81, 3) := by decide +kernel
theorem dX4_nextToken_101 : decode cX4_nextToken 101 = .ok (.ifCond .eq 10, 3) := by decide +kernel
theorem dX4_nextToken_104 : decode cX4_nextToken 104 = .ok (.aload_n 0, 1) := by decide +kernel
theorem dX4_nextToken_105 : decode cX4_nextToken 105 = .ok (.invokevirtual 101, 3) := by decide +kernel
theorem dX4_nextToken_108 : decode cX4_nextToken 108 = .ok (.goto 52, 3) := by decide +kernel
theorem dX4_nextToken_111 : decode cX4_nextToken 111 = .ok (.iload_n 1, 1) := by decide +kernel
theorem dX4_nextToken_112 : decode cX4_nextToken 112 = .ok (.bipush 45, 2) := by decide +kernel
theorem dX4_nextToken_114 : decode cX4_nextToken 114 = .ok (.if_icmp .eq 14, 3) := by decide +kernel
theorem dX4_nextToken_117 : decode cX4_nextToken 117 = .ok (.iload_n 1, 1) := by decide +kernel
theorem dX4_nextToken_118 : decode cX4_nextToken 118 = .ok (.bipush 48, 2) := by decide +kernel
theorem dX4_nextToken_120 : decode cX4_nextToken 120 = .ok (.bipush 57, 2) := by decide +kernel
theorem dX4_nextToken_122 : decode cX4_nextToken 122 = .ok (.invokestatic 81, 3) := by decide +kernel
theorem dX4_nextToken_125 : decode cX4_nextToken 125 = .ok (.ifCond .eq 10, 3) := by decide +kernel
theorem dX4_nextToken_128 : decode cX4_nextToken 128 = .ok (.aload_n 0, 1) := by decide +kernel
theorem dX4_nextToken_129 : decode cX4_nextToken 129 = .ok (.invokevirtual 104, 3) := by decide +kernel
theorem dX4_nextToken_132 : decode cX4_nextToken 132 = .ok (.goto 28, 3) := by decide +kernel
theorem dX4_nextToken_135 : decode cX4_nextToken 135 = .ok (.aload_n 0, 1) := by decide +kernel
theorem dX4_nextToken_136 : decode cX4_nextToken 136 = .ok (.iload_n 1, 1) := by decide +kernel
theorem dX4_nextToken_137 : decode cX4_nextToken 137 = .ok (.bipush 59, 2) := by decide +kernel
theorem dX4_nextToken_139 : decode cX4_nextToken 139 = .ok (.if_icmp .ne 7, 3) := by decide +kernel
theorem dX4_nextToken_142 : decode cX4_nextToken 142 = .ok (.iconst 3, 1) := by decide +kernel
theorem dX4_nextToken_143 : decode cX4_nextToken 143 = .ok (.goto 4, 3) := by decide +kernel
theorem dX4_nextToken_146 : decode cX4_nextToken 146 = .ok (.iconst 4, 1) := by decide +kernel
theorem dX4_nextToken_147 : decode cX4_nextToken 147 = .ok (.putfield 15, 3) := by decide +kernel
theorem dX4_nextToken_150 : decode cX4_nextToken 150 = .ok (.aload_n 0, 1) := by decide +kernel
