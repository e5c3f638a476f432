set_option maxRecDepth 20000 in
theorem ggL_law_X7_undo : GoodIn wsL_law wsX7_undo := goodIn_r _ [631, 35, 21, 632, 633, 634, 34, 635, 95, 636, 637, 638, 639, 131, 132, 133, 134, 94, 93, 135, 136, 137, 14, 138, 46, 139, 140, 141, 142, 47, 48, 49, 50, 51, 921, 922, 923, 924, 925, 926, 927, 928, 970, 971, 972, 948, 949, 950, 951, 952, 953] (by decide +kernel) (by decide +kernel)
set_option maxRecDepth 20000 in
theorem gL_law_X7_undo : GoodIn wsL_law (wsV RL 62 RX7 yX7_undo wsX7_undo) := goodIn_app (goodIn_of _ (by decide +kernel)) ggL_law_X7_undo
set_option maxRecDepth 20000 in
theorem ggL_law_X8_undo : GoodIn wsL_law wsX8_undo := goodIn_r _ [643, 209, 110, 111, 929, 930, 931, 932, 933, 934, 935, 936, 937, 938, 939, 940, 941, 942, 943, 944, 945, 946, 947] (by decide +kernel) (by decide +kernel)
set_option maxRecDepth 20000 in
theorem gL_law_X8_undo : GoodIn wsL_law (wsV RL 65 RX8 yX8_undo wsX8_undo) := goodIn_app (goodIn_of _ (by decide +kernel)) ggL_law_X8_undo
set_option maxRecDepth 20000 in
theorem ggL_law_X7_count : GoodIn wsL_law wsX7_count := goodIn_r _ [647, 23, 21, 35, 36, 147, 148, 149, 17, 150, 58, 56, 151, 152, 153, 154, 155, 156, 157, 14, 158, 50, 159, 160, 161, 162, 47, 163, 2, 164, 165, 166, 167, 168, 57, 59, 169, 170, 171, 172, 46, 173, 174, 175, 176, 48, 177, 178, 179, 180, 49, 181, 182, 183, 184, 185, 186, 187, 188, 189, 295, 648, 649, 650, 651, 652, 653, 654, 655, 190, 191, 192, 193, 194, 195, 196, 197, 656, 657, 658, 659, 660, 661, 662, 663, 664, 665, 666, 667, 668, 502, 348, 503, 669, 670, 671, 672, 673, 674, 675, 676, 677, 678, 679, 680, 681, 682, 683, 684, 685, 686, 51, 632, 633, 634, 34, 635, 95, 454, 455, 456, 20, 457, 65, 921, 922, 923, 924, 925, 926, 927, 928, 954, 955, 956, 957, 948, 949, 950, 951, 952, 953, 970, 971, 972, 958, 959] (by decide +kernel) (by decide +kernel)
set_option maxRecDepth 20000 in
theorem gL_law_X7_count : GoodIn wsL_law (wsV RL 66 RX7 yX7_count wsX7_count) := goodIn_app (goodIn_of _ (by decide +kernel)) ggL_law_X7_count
set_option maxRecDepth 20000 in
theorem ggL_law_X8_count : GoodIn wsL_law wsX8_count := goodIn_r _ [690, 110, 209, 462, 210, 211, 212, 5, 213, 214, 215, 216, 217, 113, 114, 218, 219, 220, 221, 222, 223, 224, 225, 226, 227, 228, 229, 230, 231, 232, 233, 234, 235, 236, 237, 691, 692, 693, 694, 695, 696, 697, 698, 699, 700, 701, 702, 703, 704, 705, 706, 707, 708, 709, 710, 202, 203, 204, 711, 712, 713, 714, 929, 930, 931, 932, 933, 934, 935, 936, 937, 938, 939, 940, 941, 942, 943, 944, 945, 946, 947] (by decide +kernel) (by decide +kernel)
set_option maxRecDepth 20000 in
theorem gL_law_X8_count : GoodIn wsL_law (wsV RL 69 RX8 yX8_count wsX8_count) := goodIn_app (goodIn_of _ (by decide +kernel)) ggL_law_X8_count
set_option maxRecDepth 20000 in
theorem ggL_law_X7_piece : GoodIn wsL_law wsX7_piece := goodIn_r _ [718, 21, 23, 27, 279, 280, 281, 14, 282, 50, 124, 125, 2, 126, 316, 170, 171, 172, 46, 147, 148, 149, 17, 150, 58, 56, 151, 152, 153, 154, 155, 156, 157, 158, 159, 160, 161, 162, 47, 163, 164, 165, 166, 167, 168, 57, 59, 169, 173, 174, 175, 176, 48, 177, 178, 179, 180, 49, 181, 182, 183, 184, 185, 186, 187, 188, 189, 719, 292, 293, 294, 720, 721, 722, 723, 386, 195, 196, 197, 724, 725, 726, 26, 727, 73, 74, 71, 70, 728, 729, 348, 730, 731, 674, 675, 676, 677, 649, 650, 651, 732, 733, 734, 735, 72, 736, 737, 738, 739, 740, 741, 742, 743, 744, 745, 746, 747, 748, 749, 750, 665, 666, 667, 668, 502, 503, 669, 670, 671, 672, 673, 751, 752, 753, 754, 755, 756, 757, 758, 341, 759, 760, 761, 762, 763, 764, 765, 921, 922, 923, 924, 925, 926, 927, 928, 948, 949, 950, 951, 952, 953, 954, 955, 956, 957, 960, 961, 962, 963, 964] (by decide +kernel) (by decide +kernel)
set_option maxRecDepth 20000 in
theorem gL_law_X7_piece : GoodIn wsL_law (wsV RL 70 RX7 yX7_piece wsX7_piece) := goodIn_app (goodIn_of _ (by decide +kernel)) ggL_law_X7_piece
set_option maxRecDepth 20000 in
theorem ggL_law_X8_piece : GoodIn wsL_law wsX8_piece := goodIn_r _ [769, 114, 300, 301, 302, 5, 303, 110, 202, 203, 204, 210, 211, 212, 213, 214, 215, 216, 217, 113, 218, 219, 220, 221, 222, 223, 224, 225, 304, 305, 306, 307, 230, 231, 232, 233, 234, 235, 236, 237, 770, 771, 772, 773, 118, 774, 775, 776, 777, 778, 119, 779, 780, 781, 782, 707, 708, 709, 710, 699, 700, 701, 702, 703, 704, 705, 706, 783, 784, 785, 786, 929, 930, 931, 932, 933, 934, 935, 936, 937, 938, 939, 940, 941, 942, 943, 944, 945, 946, 947] (by decide +kernel) (by decide +kernel)
set_option maxRecDepth 20000 in
theorem gL_law_X8_piece : GoodIn wsL_law (wsV RL 73 RX8 yX8_piece wsX8_piece) := goodIn_app (goodIn_of _ (by decide +kernel)) ggL_law_X8_piece
set_option maxRecDepth 20000 in
theorem ggL_law_X7_seen : GoodIn wsL_law wsX7_seen := goodIn_r _ [790, 21, 791, 792, 793, 14, 794, 48, 759, 178, 179, 180, 49, 795, 796, 797, 798, 50, 47, 163, 2, 164, 755, 756, 757, 758, 341, 170, 171, 172, 46, 760, 174, 175, 176, 921, 922, 923, 924, 925, 926, 927, 928, 948, 949, 950, 951, 952, 953] (by decide +kernel) (by decide +kernel)
set_option maxRecDepth 20000 in
theorem gL_law_X7_seen : GoodIn wsL_law (wsV RL 74 RX7 yX7_seen wsX7_seen) := goodIn_app (goodIn_of _ (by decide +kernel)) ggL_law_X7_seen
set_option maxRecDepth 20000 in
theorem ggL_law_X8_seen : GoodIn wsL_law wsX8_seen := goodIn_r _ [802, 113, 110, 803, 804, 805, 5, 806, 202, 203, 204, 210, 211, 212, 213, 214, 215, 216, 217, 114, 218, 219, 220, 221, 222, 223, 224, 225, 929, 930, 931, 932, 933, 934, 935, 936, 937, 938, 939, 940, 941, 942, 943, 944, 945, 946, 947] (by decide +kernel) (by decide +kernel)
set_option maxRecDepth 20000 in
theorem gL_law_X8_seen : GoodIn wsL_law (wsV RL 77 RX8 yX8_seen wsX8_seen) := goodIn_app (goodIn_of _ (by decide +kernel)) ggL_law_X8_seen
set_option maxRecDepth 20000 in
theorem ggL_law_X7_inLayer : GoodIn wsL_law wsX7_inLayer := goodIn_r _ [810, 21, 279, 280, 281, 14, 282, 50, 811, 160, 161, 162, 47, 163, 2, 164, 921, 922, 923, 924, 925, 926, 927, 928, 948, 949, 950, 951, 952, 953] (by decide +kernel) (by decide +kernel)
set_option maxRecDepth 20000 in
theorem gL_law_X7_inLayer : GoodIn wsL_law (wsV RL 78 RX7 yX7_inLayer wsX7_inLayer) := goodIn_app (goodIn_of _ (by decide +kernel)) ggL_law_X7_inLayer
set_option maxRecDepth 20000 in
theorem ggL_law_X8_inLayer : GoodIn wsL_law wsX8_inLayer := goodIn_r _ [815, 110, 300, 301, 302, 5, 303, 202, 203, 204, 929, 930, 931, 932, 933, 934, 935, 936, 937, 938, 939, 940, 941, 942, 943, 944, 945, 946, 947] (by decide +kernel) (by decide +kernel)
set_option maxRecDepth 20000 in
theorem gL_law_X8_inLayer : GoodIn wsL_law (wsV RL 81 RX8 yX8_inLayer wsX8_inLayer) := goodIn_app (goodIn_of _ (by decide +kernel)) ggL_law_X8_inLayer
set_option maxRecDepth 20000 in
theorem ggL_law_X7_covering : GoodIn wsL_law wsX7_covering := goodIn_r _ [819, 21, 791, 792, 793, 14, 794, 48, 759, 178, 179, 180, 49, 795, 796, 797, 798, 50, 47, 163, 2, 164, 755, 756, 757, 758, 341, 170, 171, 172, 46, 760, 174, 175, 176, 921, 922, 923, 924, 925, 926, 927, 928, 948, 949, 950, 951, 952, 953] (by decide +kernel) (by decide +kernel)
set_option maxRecDepth 20000 in
theorem gL_law_X7_covering : GoodIn wsL_law (wsV RL 82 RX7 yX7_covering wsX7_covering) := goodIn_app (goodIn_of _ (by decide +kernel)) ggL_law_X7_covering
set_option maxRecDepth 20000 in
theorem ggL_law_X8_covering : GoodIn wsL_law wsX8_covering := goodIn_r _ [823, 110, 803, 804, 805, 5, 806, 202, 203, 204, 824, 825, 826, 827, 222, 223, 224, 225, 929, 930, 931, 932, 933, 934, 935, 936, 937, 938, 939, 940, 941, 942, 943, 944, 945, 946, 947] (by decide +kernel) (by decide +kernel)
set_option maxRecDepth 20000 in
theorem gL_law_X8_covering : GoodIn wsL_law (wsV RL 85 RX8 yX8_covering wsX8_covering) := goodIn_app (goodIn_of _ (by decide +kernel)) ggL_law_X8_covering
set_option maxRecDepth 20000 in
theorem ggL_law_X7_edge : GoodIn wsL_law wsX7_edge := goodIn_r _ [831, 21, 23, 279, 280, 281, 14, 282, 50, 147, 148, 149, 17, 150, 58, 56, 151, 152, 153, 154, 155, 156, 157, 158, 159, 160, 161, 162, 47, 163, 2, 164, 165, 166, 167, 168, 57, 59, 169, 170, 171, 172, 46, 173, 174, 175, 176, 48, 177, 178, 179, 180, 49, 181, 182, 183, 184, 185, 186, 187, 188, 189, 832, 833, 834, 835, 677, 649, 650, 651, 673, 674, 675, 676, 682, 653, 654, 655, 836, 837, 838, 839, 921, 922, 923, 924, 925, 926, 927, 928, 948, 949, 950, 951, 952, 953, 954, 955, 956, 957] (by decide +kernel) (by decide +kernel)
set_option maxRecDepth 20000 in
theorem gL_law_X7_edge : GoodIn wsL_law (wsV RL 86 RX7 yX7_edge wsX7_edge) := goodIn_app (goodIn_of _ (by decide +kernel)) ggL_law_X7_edge
set_option maxRecDepth 20000 in
theorem ggL_law_X8_edge : GoodIn wsL_law wsX8_edge := goodIn_r _ [843, 110, 113, 300, 301, 302, 5, 303, 202, 203, 204, 210, 211, 212, 213, 214, 215, 216, 217, 114, 218, 219, 220, 221, 222, 223, 224, 225, 844, 845, 846, 847, 803, 804, 805, 806, 929, 930, 931, 932, 933, 934, 935, 936, 937, 938, 939, 940, 941, 942, 943, 944, 945, 946, 947] (by decide +kernel) (by decide +kernel)
set_option maxRecDepth 20000 in
theorem gL_law_X8_edge : GoodIn wsL_law (wsV RL 89 RX8 yX8_edge wsX8_edge) := goodIn_app (goodIn_of _ (by decide +kernel)) ggL_law_X8_edge
set_option maxRecDepth 20000 in
theorem ggL_law_X7_hides : GoodIn wsL_law wsX7_hides := goodIn_r _ [851, 21, 23, 279, 280, 281, 14, 282, 50, 147, 148, 149, 17, 150, 58, 56, 151, 152, 153, 154, 155, 156, 157, 158, 159, 160, 161, 162, 47, 163, 2, 164, 165, 166, 167, 168, 57, 59, 169, 170, 171, 172, 46, 173, 174, 175, 176, 48, 177, 178, 179, 180, 49, 181, 182, 183, 184, 185, 186, 187, 188, 189, 852, 853, 854, 855, 682, 653, 654, 655, 673, 674, 675, 676, 677, 649, 650, 651, 856, 756, 757, 758, 341, 759, 760, 921, 922, 923, 924, 925, 926, 927, 928, 948, 949, 950, 951, 952, 953, 954, 955, 956, 957] (by decide +kernel) (by decide +kernel)
set_option maxRecDepth 20000 in
theorem gL_law_X7_hides : GoodIn wsL_law (wsV RL 90 RX7 yX7_hides wsX7_hides) := goodIn_app (goodIn_of _ (by decide +kernel)) ggL_law_X7_hides
set_option maxRecDepth 20000 in
theorem ggL_law_X8_hides : GoodIn wsL_law wsX8_hides := goodIn_r _ [860, 110, 113, 300, 301, 302, 5, 303, 202, 203, 204, 210, 211, 212, 213, 214, 215, 216, 217, 114, 218, 219, 220, 221, 222, 223, 224, 225, 824, 825, 826, 827, 929, 930, 931, 932, 933, 934, 935, 936, 937, 938, 939, 940, 941, 942, 943, 944, 945, 946, 947] (by decide +kernel) (by decide +kernel)
set_option maxRecDepth 20000 in
theorem gL_law_X8_hides : GoodIn wsL_law (wsV RL 93 RX8 yX8_hides wsX8_hides) := goodIn_app (goodIn_of _ (by decide +kernel)) ggL_law_X8_hides
set_option maxRecDepth 20000 in
theorem ggL_law_X7_byShare : GoodIn wsL_law wsX7_byShare := goodIn_r _ [864, 23, 21, 147, 148, 149, 17, 150, 58, 56, 151, 152, 153, 154, 155, 156, 157, 14, 158, 50, 159, 160, 161, 162, 47, 163, 2, 164, 165, 166, 167, 168, 57, 59, 169, 170, 171, 172, 46, 173, 174, 175, 176, 48, 177, 178, 179, 180, 49, 181, 182, 183, 184, 185, 186, 187, 188, 189, 295, 865, 866, 867, 868, 869, 870, 871, 872, 873, 763, 764, 765, 341, 874, 292, 293, 294, 921, 922, 923, 924, 925, 926, 927, 928, 954, 955, 956, 957, 948, 949, 950, 951, 952, 953] (by decide +kernel) (by decide +kernel)
set_option maxRecDepth 20000 in
theorem gL_law_X7_byShare : GoodIn wsL_law (wsV RL 94 RX7 yX7_byShare wsX7_byShare) := goodIn_app (goodIn_of _ (by decide +kernel)) ggL_law_X7_byShare
set_option maxRecDepth 20000 in
theorem ggL_law_X8_byShare : GoodIn wsL_law wsX8_byShare := goodIn_r _ [878, 110, 210, 211, 212, 5, 213, 214, 215, 216, 217, 113, 114, 218, 219, 220, 221, 222, 223, 224, 225, 879, 880, 881, 882, 883, 884, 885, 886, 234, 235, 236, 237, 304, 305, 306, 307, 929, 930, 931, 932, 933, 934, 935, 936, 937, 938, 939, 940, 941, 942, 943, 944, 945, 946, 947] (by decide +kernel) (by decide +kernel)
set_option maxRecDepth 20000 in
theorem gL_law_X8_byShare : GoodIn wsL_law (wsV RL 97 RX8 yX8_byShare wsX8_byShare) := goodIn_app (goodIn_of _ (by decide +kernel)) ggL_law_X8_byShare
set_option maxRecDepth 20000 in
theorem ggL_law_X7_leastShift : GoodIn wsL_law wsX7_leastShift := goodIn_r _ [890, 21, 31, 279, 280, 281, 14, 282, 50, 124, 125, 2, 126, 387, 388, 389, 30, 390, 81, 80, 391, 347, 348, 349, 392, 136, 137, 138, 46, 139, 140, 141, 142, 47, 48, 49, 51, 393, 394, 395, 396, 83, 397, 148, 149, 17, 150, 58, 56, 151, 152, 153, 154, 155, 156, 157, 158, 159, 160, 161, 162, 163, 164, 165, 166, 167, 168, 57, 59, 169, 170, 171, 172, 173, 174, 175, 176, 177, 178, 179, 180, 181, 182, 183, 184, 185, 186, 187, 188, 189, 398, 191, 192, 193, 194, 195, 196, 197, 399, 400, 401, 402, 403, 84, 85, 404, 338, 339, 340, 341, 243, 244, 245, 246, 247, 405, 406, 257, 258, 259, 407, 416, 417, 418, 419, 408, 409, 410, 411, 412, 413, 414, 415, 921, 922, 923, 924, 925, 926, 927, 928, 948, 949, 950, 951, 952, 953, 965, 966, 967, 968, 969, 954, 955, 956, 957] (by decide +kernel) (by decide +kernel)
set_option maxRecDepth 20000 in
theorem gL_law_X7_leastShift : GoodIn wsL_law (wsV RL 98 RX7 yX7_leastShift wsX7_leastShift) := goodIn_app (goodIn_of _ (by decide +kernel)) ggL_law_X7_leastShift
set_option maxRecDepth 20000 in
theorem ggL_law_X8_leastShift : GoodIn wsL_law wsX8_leastShift := goodIn_r _ [894, 428, 429, 300, 301, 302, 5, 303, 110, 202, 203, 204, 430, 431, 432, 433, 210, 211, 212, 213, 214, 215, 216, 217, 113, 114, 218, 219, 220, 221, 222, 223, 224, 225, 226, 227, 228, 229, 230, 231, 232, 233, 234, 235, 236, 237, 362, 363, 364, 434, 435, 436, 437, 354, 355, 356, 357, 265, 266, 267, 358, 359, 360, 361, 438, 439, 440, 441, 929, 930, 931, 932, 933, 934, 935, 936, 937, 938, 939, 940, 941, 942, 943, 944, 945, 946, 947] (by decide +kernel) (by decide +kernel)
set_option maxRecDepth 20000 in
theorem gL_law_X8_leastShift : GoodIn wsL_law (wsV RL 101 RX8 yX8_leastShift wsX8_leastShift) := goodIn_app (goodIn_of _ (by decide +kernel)) ggL_law_X8_leastShift
set_option maxRecDepth 20000 in
theorem ggL_law_X7_layerFor : GoodIn wsL_law wsX7_layerFor := goodIn_r _ [898, 21, 31, 279, 280, 281, 14, 282, 50, 899, 900, 901, 30, 902, 81, 80, 83, 392, 136, 137, 138, 46, 139, 140, 141, 142, 47, 48, 49, 51, 399, 156, 157, 158, 903, 288, 289, 290, 291, 292, 293, 294, 163, 2, 164, 181, 182, 397, 148, 149, 17, 150, 58, 56, 151, 152, 153, 154, 155, 159, 160, 161, 162, 165, 166, 167, 168, 57, 59, 169, 170, 171, 172, 173, 174, 175, 176, 177, 178, 179, 180, 183, 184, 185, 186, 187, 188, 189, 407, 195, 196, 197, 921, 922, 923, 924, 925, 926, 927, 928, 948, 949, 950, 951, 952, 953, 965, 966, 967, 968, 969, 954, 955, 956, 957] (by decide +kernel) (by decide +kernel)
set_option maxRecDepth 20000 in
theorem gL_law_X7_layerFor : GoodIn wsL_law (wsV RL 102 RX7 yX7_layerFor wsX7_layerFor) := goodIn_app (goodIn_of _ (by decide +kernel)) ggL_law_X7_layerFor
set_option maxRecDepth 20000 in
theorem ggL_law_X8_layerFor : GoodIn wsL_law wsX8_layerFor := goodIn_r _ [907, 110, 300, 301, 302, 5, 303, 202, 203, 204, 304, 305, 306, 307, 374, 375, 376, 377, 210, 211, 212, 213, 214, 215, 216, 217, 113, 114, 218, 219, 220, 221, 222, 223, 224, 225, 230, 231, 232, 233, 234, 235, 236, 237, 929, 930, 931, 932, 933, 934, 935, 936, 937, 938, 939, 940, 941, 942, 943, 944, 945, 946, 947] (by decide +kernel) (by decide +kernel)
set_option maxRecDepth 20000 in
theorem gL_law_X8_layerFor : GoodIn wsL_law (wsV RL 105 RX8 yX8_layerFor wsX8_layerFor) := goodIn_app (goodIn_of _ (by decide +kernel)) ggL_law_X8_layerFor
set_option maxRecDepth 20000 in
theorem ggL_law_X7_worst : GoodIn wsL_law wsX7_worst := goodIn_r _ [911, 31, 912, 913, 914, 30, 915, 80, 81, 83, 399, 156, 157, 14, 158, 50, 392, 136, 137, 138, 46, 139, 140, 141, 142, 47, 48, 49, 51, 916, 284, 285, 286, 287, 288, 289, 290, 291, 292, 293, 294, 163, 2, 164, 181, 182, 397, 148, 149, 17, 150, 58, 56, 151, 152, 153, 154, 155, 159, 160, 161, 162, 165, 166, 167, 168, 57, 59, 169, 170, 171, 172, 173, 174, 175, 176, 177, 178, 179, 180, 183, 184, 185, 186, 187, 188, 189, 398, 191, 192, 193, 194, 195, 196, 197, 921, 922, 923, 924, 925, 926, 927, 928, 965, 966, 967, 968, 969, 948, 949, 950, 951, 952, 953, 954, 955, 956, 957] (by decide +kernel) (by decide +kernel)
set_option maxRecDepth 20000 in
theorem gL_law_X7_worst : GoodIn wsL_law (wsV RL 106 RX7 yX7_worst wsX7_worst) := goodIn_app (goodIn_of _ (by decide +kernel)) ggL_law_X7_worst
set_option maxRecDepth 20000 in
theorem ggL_law_X8_worst : GoodIn wsL_law wsX8_worst := goodIn_r _ [920, 110, 214, 215, 216, 5, 217, 113, 114, 218, 219, 220, 221, 222, 223, 224, 225, 226, 227, 228, 229, 230, 231, 232, 233, 234, 235, 236, 237, 929, 930, 931, 932, 933, 934, 935, 936, 937, 938, 939, 940, 941, 942, 943, 944, 945, 946, 947] (by decide +kernel) (by decide +kernel)
set_option maxRecDepth 20000 in
theorem gL_law_X8_worst : GoodIn wsL_law (wsV RL 109 RX8 yX8_worst wsX8_worst) := goodIn_app (goodIn_of _ (by decide +kernel)) ggL_law_X8_worst
