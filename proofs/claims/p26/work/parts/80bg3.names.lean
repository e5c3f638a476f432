set_option maxRecDepth 100000 in
theorem ggL_plans_X7_count_r6 : GoodIn wsL_plans wsX7_count_r6 := goodIn_r _ [225, 226, 227] rfl (by decide +kernel)
set_option maxRecDepth 100000 in
theorem ggL_plans_X7_count_X70 : GoodIn wsL_plans wsX70 := goodIn_r _ [311, 312, 313, 314, 315, 316, 317, 318] rfl (by decide +kernel)
set_option maxRecDepth 100000 in
theorem ggL_plans_X7_count_X50 : GoodIn wsL_plans wsX50 := goodIn_r _ [330, 331, 332, 333] rfl (by decide +kernel)
set_option maxRecDepth 100000 in
theorem ggL_plans_X7_count_X10 : GoodIn wsL_plans wsX10 := goodIn_r _ [319, 320, 321, 322, 323, 324] rfl (by decide +kernel)
set_option maxRecDepth 100000 in
theorem ggL_plans_X7_count_X00 : GoodIn wsL_plans wsX00 := goodIn_r _ [339, 340, 341] rfl (by decide +kernel)
set_option maxRecDepth 100000 in
theorem ggL_plans_X7_count_X60 : GoodIn wsL_plans wsX60 := goodIn_r _ [342, 343] rfl (by decide +kernel)
set_option maxRecDepth 100000 in
theorem ggL_plans_X7_count : GoodIn wsL_plans wsX7_count := goodIn_app ggL_plans_X7_count_h (goodIn_app (goodIn_app (goodIn_app (goodIn_app (goodIn_app (goodIn_app ggL_plans_X7_count_r1 (goodIn_app ggL_plans_X7_count_r2 (goodIn_app ggL_plans_X7_count_r3 (goodIn_app ggL_plans_X7_count_r4 (goodIn_app ggL_plans_X7_count_r5 ggL_plans_X7_count_r6))))) ggL_plans_X7_count_X70) ggL_plans_X7_count_X50) ggL_plans_X7_count_X10) ggL_plans_X7_count_X00) ggL_plans_X7_count_X60)
set_option maxRecDepth 100000 in
theorem gL_plans_X7_count : GoodIn wsL_plans (wsV RL 9 RX7 yX7_count wsX7_count) := goodIn_app (goodIn_of _ (by decide +kernel)) ggL_plans_X7_count
set_option maxRecDepth 100000 in
theorem ggL_plans_X7_leastShift_h : GoodIn wsL_plans [.code yX7_leastShift cX7_leastShift 4 (some .int)] := goodIn_r _ [231] rfl (by decide +kernel)
set_option maxRecDepth 100000 in
theorem ggL_plans_X7_leastShift_r1 : GoodIn wsL_plans wsX7_leastShift_r1 := goodIn_r _ [6, 7, 8, 9, 10, 11, 12, 13, 102, 103, 4, 104, 232, 233, 234, 17, 235, 19, 20, 236, 237, 124, 238, 22] rfl (by decide +kernel)
set_option maxRecDepth 100000 in
theorem ggL_plans_X7_leastShift_r2 : GoodIn wsL_plans wsX7_leastShift_r2 := goodIn_r _ [23, 24, 25, 26, 27, 28, 29, 30, 31, 32, 33, 34, 239, 240, 241, 242, 21, 51, 52, 53, 54, 55, 56, 57] rfl (by decide +kernel)
set_option maxRecDepth 100000 in
theorem ggL_plans_X7_leastShift_r3 : GoodIn wsL_plans wsX7_leastShift_r3 := goodIn_r _ [58, 59, 60, 61, 62, 36, 37, 38, 63, 64, 65, 66, 47, 48, 67, 68, 69, 70, 71, 72, 73, 74, 75, 76] rfl (by decide +kernel)
set_option maxRecDepth 100000 in
theorem ggL_plans_X7_leastShift_r4 : GoodIn wsL_plans wsX7_leastShift_r4 := goodIn_r _ [77, 78, 79, 80, 81, 82, 83, 84, 49, 50, 85, 86, 87, 88, 89, 90, 91, 243, 194, 195, 196, 197, 93, 94] rfl (by decide +kernel)
set_option maxRecDepth 100000 in
theorem ggL_plans_X7_leastShift_r5 : GoodIn wsL_plans wsX7_leastShift_r5 := goodIn_r _ [95, 35, 244, 245, 246, 247, 248, 249, 250, 251, 252, 253, 173, 254, 255, 256, 257, 258, 259, 260, 261, 262, 263, 92] rfl (by decide +kernel)
set_option maxRecDepth 100000 in
theorem ggL_plans_X7_leastShift_r6 : GoodIn wsL_plans wsX7_leastShift_r6 := goodIn_r _ [264, 265, 266, 267, 268, 269, 270, 271, 272, 273, 274, 275] rfl (by decide +kernel)
set_option maxRecDepth 100000 in
theorem ggL_plans_X7_leastShift_X70 : GoodIn wsL_plans wsX70 := goodIn_r _ [311, 312, 313, 314, 315, 316, 317, 318] rfl (by decide +kernel)
set_option maxRecDepth 100000 in
theorem ggL_plans_X7_leastShift_X10 : GoodIn wsL_plans wsX10 := goodIn_r _ [319, 320, 321, 322, 323, 324] rfl (by decide +kernel)
set_option maxRecDepth 100000 in
theorem ggL_plans_X7_leastShift_X30 : GoodIn wsL_plans wsX30 := goodIn_r _ [325, 326, 327, 328, 329] rfl (by decide +kernel)
set_option maxRecDepth 100000 in
theorem ggL_plans_X7_leastShift_X50 : GoodIn wsL_plans wsX50 := goodIn_r _ [330, 331, 332, 333] rfl (by decide +kernel)
set_option maxRecDepth 100000 in
theorem ggL_plans_X7_leastShift : GoodIn wsL_plans wsX7_leastShift := goodIn_app ggL_plans_X7_leastShift_h (goodIn_app (goodIn_app (goodIn_app (goodIn_app (goodIn_app ggL_plans_X7_leastShift_r1 (goodIn_app ggL_plans_X7_leastShift_r2 (goodIn_app ggL_plans_X7_leastShift_r3 (goodIn_app ggL_plans_X7_leastShift_r4 (goodIn_app ggL_plans_X7_leastShift_r5 ggL_plans_X7_leastShift_r6))))) ggL_plans_X7_leastShift_X70) ggL_plans_X7_leastShift_X10) ggL_plans_X7_leastShift_X30) ggL_plans_X7_leastShift_X50)
set_option maxRecDepth 100000 in
theorem gL_plans_X7_leastShift : GoodIn wsL_plans (wsV RL 43 RX7 yX7_leastShift wsX7_leastShift) := goodIn_app (goodIn_of _ (by decide +kernel)) ggL_plans_X7_leastShift
set_option maxRecDepth 100000 in
theorem ggL_plans_X7_shift : GoodIn wsL_plans wsX7_shift := goodIn_r _ [279, 6, 185, 8, 9, 10, 11, 12, 13, 102, 103, 4, 104, 280, 251, 252, 253, 173, 74, 75, 76, 26, 254, 255, 256, 257, 258, 47, 48, 281, 282, 283, 219, 284, 221, 285, 286, 287, 288, 289, 290, 291, 23, 24, 25, 27, 28, 29, 30, 31, 32, 33, 34, 292, 293, 294, 295, 296, 237, 124, 238, 297, 261, 262, 263, 49, 50, 311, 312, 313, 314, 315, 316, 317, 318, 319, 320, 321, 322, 323, 324, 339, 340, 341] rfl (by decide +kernel)
set_option maxRecDepth 100000 in
theorem gL_plans_X7_shift : GoodIn wsL_plans (wsV RL 46 RX7 yX7_shift wsX7_shift) := goodIn_app (goodIn_of _ (by decide +kernel)) ggL_plans_X7_shift
set_option maxRecDepth 100000 in
theorem ggL_plans_X7_undo : GoodIn wsL_plans wsX7_undo := goodIn_r _ [301, 185, 6, 216, 217, 218, 219, 220, 221, 302, 303, 304, 305, 286, 287, 288, 289, 285, 290, 291, 23, 24, 11, 25, 26, 27, 28, 29, 30, 31, 32, 33, 13, 34, 311, 312, 313, 314, 315, 316, 317, 318, 339, 340, 341, 319, 320, 321, 322, 323, 324] rfl (by decide +kernel)
set_option maxRecDepth 100000 in
theorem gL_plans_X7_undo : GoodIn wsL_plans (wsV RL 49 RX7 yX7_undo wsX7_undo) := goodIn_app (goodIn_of _ (by decide +kernel)) ggL_plans_X7_undo
set_option maxRecDepth 100000 in
theorem ggL_plans_X7_setLayer : GoodIn wsL_plans wsX7_setLayer := goodIn_r _ [309, 6, 185, 8, 9, 10, 11, 12, 13, 281, 282, 283, 219, 284, 221, 285, 286, 287, 288, 289, 290, 291, 23, 24, 25, 26, 27, 28, 29, 30, 31, 32, 33, 34, 310, 40, 41, 42, 43, 44, 45, 46, 47, 4, 48, 49, 50, 311, 312, 313, 314, 315, 316, 317, 318, 319, 320, 321, 322, 323, 324, 339, 340, 341] rfl (by decide +kernel)
set_option maxRecDepth 100000 in
theorem gL_plans_X7_setLayer : GoodIn wsL_plans (wsV RL 53 RX7 yX7_setLayer wsX7_setLayer) := goodIn_app (goodIn_of _ (by decide +kernel)) ggL_plans_X7_setLayer
theorem dL_plans_0 : decode cL_plans 0 = .ok (.aload_n 0, 1) := by decide +kernel
theorem dL_plans_1 : decode cL_plans 1 = .ok (.iload_n 1, 1) := by decide +kernel
theorem dL_plans_2 : decode cL_plans 2 = .ok (.invokevirtual 40, 3) := by decide +kernel
theorem dL_plans_5 : decode cL_plans 5 = .ok (.istore_n 2, 1) := by decide +kernel
theorem dL_plans_6 : decode cL_plans 6 = .ok (.aload_n 0, 1) := by decide +kernel
theorem dL_plans_7 : decode cL_plans 7 = .ok (.iload_n 1, 1) := by decide +kernel
theorem dL_plans_8 : decode cL_plans 8 = .ok (.bipush 6, 2) := by decide +kernel
theorem dL_plans_10 : decode cL_plans 10 = .ok (.invokevirtual 15, 3) := by decide +kernel
theorem dL_plans_13 : decode cL_plans 13 = .ok (.istore_n 3, 1) := by decide +kernel
theorem dL_plans_14 : decode cL_plans 14 = .ok (.aload_n 0, 1) := by decide +kernel
theorem dL_plans_15 : decode cL_plans 15 = .ok (.iconst 3, 1) := by decide +kernel
theorem dL_plans_16 : decode cL_plans 16 = .ok (.invokevirtual 9, 3) := by decide +kernel
theorem dL_plans_19 : decode cL_plans 19 = .ok (.istore 4, 2) := by decide +kernel
theorem dL_plans_21 : decode cL_plans 21 = .ok (.aload_n 0, 1) := by decide +kernel
theorem dL_plans_22 : decode cL_plans 22 = .ok (.iconst 0, 1) := by decide +kernel
theorem dL_plans_23 : decode cL_plans 23 = .ok (.invokevirtual 9, 3) := by decide +kernel
theorem dL_plans_26 : decode cL_plans 26 = .ok (.istore 5, 2) := by decide +kernel
theorem dL_plans_28 : decode cL_plans 28 = .ok (.iconst 0, 1) := by decide +kernel
theorem dL_plans_29 : decode cL_plans 29 = .ok (.istore 6, 2) := by decide +kernel
theorem dL_plans_31 : decode cL_plans 31 = .ok (.iconst 0, 1) := by decide +kernel
theorem dL_plans_32 : decode cL_plans 32 = .ok (.istore 7, 2) := by decide +kernel
theorem dL_plans_34 : decode cL_plans 34 = .ok (.iload 7, 2) := by decide +kernel
theorem dL_plans_36 : decode cL_plans 36 = .ok (.iconst 3, 1) := by decide +kernel
theorem dL_plans_37 : decode cL_plans 37 = .ok (.if_icmp .ge 333, 3) := by decide +kernel
theorem dL_plans_40 : decode cL_plans 40 = .ok (.aload_n 0, 1) := by decide +kernel
theorem dL_plans_41 : decode cL_plans 41 = .ok (.iload_n 1, 1) := by decide +kernel
theorem dL_plans_42 : decode cL_plans 42 = .ok (.iload 7, 2) := by decide +kernel
theorem dL_plans_44 : decode cL_plans 44 = .ok (.iconst 0, 1) := by decide +kernel
theorem dL_plans_45 : decode cL_plans 45 = .ok (.invokevirtual 43, 3) := by decide +kernel
theorem dL_plans_48 : decode cL_plans 48 = .ok (.istore 8, 2) := by decide +kernel
theorem dL_plans_50 : decode cL_plans 50 = .ok (.aload_n 0, 1) := by decide +kernel
theorem dL_plans_51 : decode cL_plans 51 = .ok (.iload_n 1, 1) := by decide +kernel
theorem dL_plans_52 : decode cL_plans 52 = .ok (.iload 7, 2) := by decide +kernel
theorem dL_plans_54 : decode cL_plans 54 = .ok (.iconst 1, 1) := by decide +kernel
theorem dL_plans_55 : decode cL_plans 55 = .ok (.invokevirtual 43, 3) := by decide +kernel
theorem dL_plans_58 : decode cL_plans 58 = .ok (.istore 9, 2) := by decide +kernel
theorem dL_plans_60 : decode cL_plans 60 = .ok (.aload_n 0, 1) := by decide +kernel
theorem dL_plans_61 : decode cL_plans 61 = .ok (.iload_n 1, 1) := by decide +kernel
theorem dL_plans_62 : decode cL_plans 62 = .ok (.iload 7, 2) := by decide +kernel
theorem dL_plans_64 : decode cL_plans 64 = .ok (.iconst 2, 1) := by decide +kernel
theorem dL_plans_65 : decode cL_plans 65 = .ok (.invokevirtual 43, 3) := by decide +kernel
theorem dL_plans_68 : decode cL_plans 68 = .ok (.istore 10, 2) := by decide +kernel
theorem dL_plans_70 : decode cL_plans 70 = .ok (.iload 8, 2) := by decide +kernel
theorem dL_plans_72 : decode cL_plans 72 = .ok (.bipush (-109), 2) := by decide +kernel
theorem dL_plans_74 : decode cL_plans 74 = .ok (.if_icmp .ne 42, 3) := by decide +kernel
theorem dL_plans_77 : decode cL_plans 77 = .ok (.iload 9, 2) := by decide +kernel
theorem dL_plans_79 : decode cL_plans 79 = .ok (.bipush (-109), 2) := by decide +kernel
theorem dL_plans_81 : decode cL_plans 81 = .ok (.if_icmp .ne 10, 3) := by decide +kernel
theorem dL_plans_84 : decode cL_plans 84 = .ok (.iload 10, 2) := by decide +kernel
theorem dL_plans_86 : decode cL_plans 86 = .ok (.bipush (-109), 2) := by decide +kernel
theorem dL_plans_88 : decode cL_plans 88 = .ok (.if_icmp .eq 5, 3) := by decide +kernel
theorem dL_plans_91 : decode cL_plans 91 = .ok (.iconst 0, 1) := by decide +kernel
theorem dL_plans_92 : decode cL_plans 92 = .ok (.ireturn, 1) := by decide +kernel
theorem dL_plans_93 : decode cL_plans 93 = .ok (.iload 7, 2) := by decide +kernel
theorem dL_plans_95 : decode cL_plans 95 = .ok (.iconst 2, 1) := by decide +kernel
theorem dL_plans_96 : decode cL_plans 96 = .ok (.if_icmp .ge 268, 3) := by decide +kernel

