set_option maxRecDepth 20000 in
theorem ggL_law_X6_dispute_1 : GoodIn wsL_law [.code yX6_dispute cX6_dispute 4 (some .int)] := goodIn_r _ [913] (by decide +kernel) (by decide +kernel)
set_option maxRecDepth 20000 in
theorem ggL_law_X6_dispute_2 : GoodIn wsL_law wsX6_dispute_r1 := goodIn_r _ [15, 704, 113, 241, 858, 257, 857, 705, 383, 849, 850, 851, 25, 852, 83, 118, 119, 2, 120, 853, 854, 855, 856, 733] (by decide +kernel) (by decide +kernel)
set_option maxRecDepth 20000 in
theorem ggL_law_X6_dispute_3 : GoodIn wsL_law wsX6_dispute_r2 := goodIn_r _ [728, 729, 730, 70, 71, 72, 713, 714, 715, 716, 382, 393, 155, 156, 36, 157, 53, 116, 117, 125, 126, 127, 128, 129] (by decide +kernel) (by decide +kernel)
set_option maxRecDepth 20000 in
theorem ggL_law_X6_dispute_4 : GoodIn wsL_law wsX6_dispute_r3 := goodIn_r _ [16, 130, 131, 132, 133, 14, 134, 33, 37, 41, 43, 44, 45, 135, 136, 137, 32, 138, 49, 139, 140, 141, 142, 143] (by decide +kernel) (by decide +kernel)
set_option maxRecDepth 20000 in
theorem ggL_law_X6_dispute_5 : GoodIn wsL_law wsX6_dispute_r4 := goodIn_r _ [144, 145, 146, 147, 148, 149, 122, 123, 124, 150, 151, 152, 153, 154, 158, 159, 160, 161, 54, 162, 163, 164, 165, 166] (by decide +kernel) (by decide +kernel)
set_option maxRecDepth 20000 in
theorem ggL_law_X6_dispute_6 : GoodIn wsL_law wsX6_dispute_r5 := goodIn_r _ [167, 168, 169, 55, 170, 171, 172, 173, 174, 175, 176, 177, 56, 178, 179, 180, 181, 182, 183, 184, 40, 185, 61, 186] (by decide +kernel) (by decide +kernel)
set_option maxRecDepth 20000 in
theorem ggL_law_X6_dispute_7 : GoodIn wsL_law wsX6_dispute_r6 := goodIn_r _ [187, 188, 189, 190, 191, 68, 192, 193, 194, 195, 196, 197, 914, 915, 916, 917, 918, 79, 80, 81, 82, 919, 920, 921] (by decide +kernel) (by decide +kernel)
set_option maxRecDepth 20000 in
theorem ggL_law_X6_dispute_8 : GoodIn wsL_law wsX6_dispute_r7 := goodIn_r _ [922, 923, 924, 626, 627, 628, 720, 721, 722, 723, 724, 725, 726, 67, 69, 727, 731, 732, 734, 735, 736, 737, 738, 739] (by decide +kernel) (by decide +kernel)
set_option maxRecDepth 20000 in
theorem ggL_law_X6_dispute_9 : GoodIn wsL_law wsX6_dispute_r8 := goodIn_r _ [740, 741, 742, 743, 744, 745, 746, 747, 748, 749, 750, 751, 388, 389, 390, 752, 753, 754, 755, 756, 757, 758, 759, 616] (by decide +kernel) (by decide +kernel)
set_option maxRecDepth 20000 in
theorem ggL_law_X6_dispute_10 : GoodIn wsL_law wsX6_dispute_r9 := goodIn_r _ [760, 761, 762, 763, 764, 765, 766, 767, 768, 769, 770, 771, 772, 773, 774, 775, 776, 777, 778, 779, 780, 781, 782, 783] (by decide +kernel) (by decide +kernel)
set_option maxRecDepth 20000 in
theorem ggL_law_X6_dispute_11 : GoodIn wsL_law wsX6_dispute_r10 := goodIn_r _ [784, 785, 786, 787, 788, 789, 790] (by decide +kernel) (by decide +kernel)
set_option maxRecDepth 20000 in
theorem ggL_law_X6_dispute_12 : GoodIn wsL_law wsX60 := goodIn_r _ [1075, 1076, 1077, 1078, 1079, 1080, 1081, 1082] (by decide +kernel) (by decide +kernel)
set_option maxRecDepth 20000 in
theorem ggL_law_X6_dispute_13 : GoodIn wsL_law wsX40 := goodIn_r _ [1102, 1103, 1104, 1105, 1106, 1107] (by decide +kernel) (by decide +kernel)
set_option maxRecDepth 20000 in
theorem ggL_law_X6_dispute_14 : GoodIn wsL_law wsX50 := goodIn_r _ [1117, 1118, 1119, 1120] (by decide +kernel) (by decide +kernel)
set_option maxRecDepth 20000 in
theorem ggL_law_X6_dispute_15 : GoodIn wsL_law wsX00 := goodIn_r _ [1132, 1133, 1134, 1135] (by decide +kernel) (by decide +kernel)
set_option maxRecDepth 20000 in
theorem ggL_law_X6_dispute_16 : GoodIn wsL_law wsX30 := goodIn_r _ [1121, 1122, 1123, 1124, 1125, 1126, 1127, 1128, 1129, 1130, 1131] (by decide +kernel) (by decide +kernel)
set_option maxRecDepth 20000 in
theorem ggL_law_X6_dispute_17 : GoodIn wsL_law wsX20 := goodIn_r _ [1136] (by decide +kernel) (by decide +kernel)
set_option maxRecDepth 20000 in
theorem ggL_law_X6_dispute : GoodIn wsL_law wsX6_dispute := goodIn_app (a := [.code yX6_dispute cX6_dispute 4 (some .int)]) ggL_law_X6_dispute_1 (goodIn_app (goodIn_app (goodIn_app (goodIn_app (goodIn_app (goodIn_app (goodIn_app ggL_law_X6_dispute_2 (goodIn_app ggL_law_X6_dispute_3 (goodIn_app ggL_law_X6_dispute_4 (goodIn_app ggL_law_X6_dispute_5 (goodIn_app ggL_law_X6_dispute_6 (goodIn_app ggL_law_X6_dispute_7 (goodIn_app ggL_law_X6_dispute_8 (goodIn_app ggL_law_X6_dispute_9 (goodIn_app ggL_law_X6_dispute_10 ggL_law_X6_dispute_11))))))))) ggL_law_X6_dispute_12) ggL_law_X6_dispute_13) ggL_law_X6_dispute_14) ggL_law_X6_dispute_15) ggL_law_X6_dispute_16) ggL_law_X6_dispute_17)
set_option maxRecDepth 20000 in
theorem gL_law_X6_dispute : GoodIn wsL_law (wsV RL 108 RX6 yX6_dispute wsX6_dispute) := goodIn_app (goodIn_of _ (by decide +kernel)) ggL_law_X6_dispute
set_option maxRecDepth 20000 in
theorem ggL_law_X7_dispute_1 : GoodIn wsL_law [.code yX7_dispute cX7_dispute 6 (some .int)] := goodIn_r _ [928] (by decide +kernel) (by decide +kernel)
set_option maxRecDepth 20000 in
theorem ggL_law_X7_dispute_2 : GoodIn wsL_law wsX7_dispute_r1 := goodIn_r _ [296, 251, 799, 206, 291, 89, 211, 403, 98, 863, 864, 865, 5, 866, 216, 217, 218, 871, 872, 873, 874, 875, 876, 877] (by decide +kernel) (by decide +kernel)
set_option maxRecDepth 20000 in
theorem ggL_law_X7_dispute_3 : GoodIn wsL_law wsX7_dispute_r2 := goodIn_r _ [878, 929, 930, 931, 932, 830, 831, 832, 407, 408, 409, 410, 223, 224, 225, 226, 227, 90, 800, 801, 802, 803, 637, 92] (by decide +kernel) (by decide +kernel)
set_option maxRecDepth 20000 in
theorem ggL_law_X7_dispute_4 : GoodIn wsL_law wsX7_dispute_r3 := goodIn_r _ [804, 640, 641, 642, 643, 644, 94, 645, 638, 97, 95, 96, 646, 647, 648, 649, 650, 651, 652, 653, 654, 655, 656, 657] (by decide +kernel) (by decide +kernel)
set_option maxRecDepth 20000 in
theorem ggL_law_X7_dispute_5 : GoodIn wsL_law wsX7_dispute_r4 := goodIn_r _ [658, 659, 660, 661, 662, 663, 664, 665, 666, 93, 667, 668, 669, 670, 671, 672, 673, 674, 675, 676, 677, 678, 933, 934] (by decide +kernel) (by decide +kernel)
set_option maxRecDepth 20000 in
theorem ggL_law_X7_dispute_6 : GoodIn wsL_law wsX7_dispute_r5 := goodIn_r _ [935, 936, 805, 806, 807, 808, 212, 354, 99, 809, 810, 811, 812, 102, 813, 814, 815, 816, 817, 818, 819, 411, 412, 413] (by decide +kernel) (by decide +kernel)
set_option maxRecDepth 20000 in
theorem ggL_law_X7_dispute_7 : GoodIn wsL_law wsX7_dispute_r6 := goodIn_r _ [820, 821, 822, 823, 824, 825, 826, 827, 828, 829, 101, 301, 302, 303] (by decide +kernel) (by decide +kernel)
set_option maxRecDepth 20000 in
theorem ggL_law_X7_dispute_8 : GoodIn wsL_law wsX70 := goodIn_r _ [1083, 1084, 1085, 1086, 1087, 1088, 1089, 1090, 1091, 1092, 1093, 1094, 1095, 1096, 1097, 1098, 1099, 1100, 1101] (by decide +kernel) (by decide +kernel)
set_option maxRecDepth 20000 in
theorem ggL_law_X7_dispute : GoodIn wsL_law wsX7_dispute := goodIn_app (a := [.code yX7_dispute cX7_dispute 6 (some .int)]) ggL_law_X7_dispute_1 (goodIn_app (goodIn_app ggL_law_X7_dispute_2 (goodIn_app ggL_law_X7_dispute_3 (goodIn_app ggL_law_X7_dispute_4 (goodIn_app ggL_law_X7_dispute_5 (goodIn_app ggL_law_X7_dispute_6 ggL_law_X7_dispute_7))))) ggL_law_X7_dispute_8)
set_option maxRecDepth 20000 in
theorem gL_law_X7_dispute : GoodIn wsL_law (wsV RL 111 RX7 yX7_dispute wsX7_dispute) := goodIn_app (goodIn_of _ (by decide +kernel)) ggL_law_X7_dispute
set_option maxRecDepth 20000 in
theorem ggL_law_X6_settle_1 : GoodIn wsL_law [.code yX6_settle cX6_settle 3 (some .int)] := goodIn_r _ [940] (by decide +kernel) (by decide +kernel)
set_option maxRecDepth 20000 in
theorem ggL_law_X6_settle_2 : GoodIn wsL_law wsX6_settle_r1 := goodIn_r _ [15, 857, 113, 257, 849, 850, 851, 25, 852, 83, 733, 728, 729, 730, 70, 71, 72, 125, 126, 127, 2, 128, 129, 16] (by decide +kernel) (by decide +kernel)
set_option maxRecDepth 20000 in
theorem ggL_law_X6_settle_3 : GoodIn wsL_law wsX6_settle_r2 := goodIn_r _ [130, 131, 132, 133, 14, 134, 33, 37, 41, 43, 44, 45, 135, 136, 137, 32, 138, 49, 139, 140, 141, 142, 143, 144] (by decide +kernel) (by decide +kernel)
set_option maxRecDepth 20000 in
theorem ggL_law_X6_settle_4 : GoodIn wsL_law wsX6_settle_r3 := goodIn_r _ [145, 146, 147, 148, 149, 122, 123, 124, 150, 151, 152, 36, 153, 53, 116, 117, 154, 155, 156, 157, 158, 159, 160, 161] (by decide +kernel) (by decide +kernel)
set_option maxRecDepth 20000 in
theorem ggL_law_X6_settle_5 : GoodIn wsL_law wsX6_settle_r4 := goodIn_r _ [54, 162, 163, 164, 165, 166, 167, 168, 169, 55, 170, 171, 172, 173, 174, 175, 176, 177, 56, 178, 179, 180, 181, 182] (by decide +kernel) (by decide +kernel)
set_option maxRecDepth 20000 in
theorem ggL_law_X6_settle_6 : GoodIn wsL_law wsX6_settle_r5 := goodIn_r _ [183, 184, 40, 185, 61, 186, 187, 188, 189, 190, 191, 68, 192, 193, 194, 195, 196, 197, 720, 626, 627, 628, 941, 942] (by decide +kernel) (by decide +kernel)
set_option maxRecDepth 20000 in
theorem ggL_law_X6_settle_7 : GoodIn wsL_law wsX6_settle_r6 := goodIn_r _ [943, 944, 704, 918, 919, 920, 921, 922, 923, 924] (by decide +kernel) (by decide +kernel)
set_option maxRecDepth 20000 in
theorem ggL_law_X6_settle_8 : GoodIn wsL_law wsX60 := goodIn_r _ [1075, 1076, 1077, 1078, 1079, 1080, 1081, 1082] (by decide +kernel) (by decide +kernel)
set_option maxRecDepth 20000 in
theorem ggL_law_X6_settle_9 : GoodIn wsL_law wsX40 := goodIn_r _ [1102, 1103, 1104, 1105, 1106, 1107] (by decide +kernel) (by decide +kernel)
set_option maxRecDepth 20000 in
theorem ggL_law_X6_settle_10 : GoodIn wsL_law wsX50 := goodIn_r _ [1117, 1118, 1119, 1120] (by decide +kernel) (by decide +kernel)
set_option maxRecDepth 20000 in
theorem ggL_law_X6_settle_11 : GoodIn wsL_law wsX30 := goodIn_r _ [1121, 1122, 1123, 1124, 1125, 1126, 1127, 1128, 1129, 1130, 1131] (by decide +kernel) (by decide +kernel)
set_option maxRecDepth 20000 in
theorem ggL_law_X6_settle_12 : GoodIn wsL_law wsX00 := goodIn_r _ [1132, 1133, 1134, 1135] (by decide +kernel) (by decide +kernel)
set_option maxRecDepth 20000 in
theorem ggL_law_X6_settle_13 : GoodIn wsL_law wsX20 := goodIn_r _ [1136] (by decide +kernel) (by decide +kernel)
set_option maxRecDepth 20000 in
theorem ggL_law_X6_settle : GoodIn wsL_law wsX6_settle := goodIn_app (a := [.code yX6_settle cX6_settle 3 (some .int)]) ggL_law_X6_settle_1 (goodIn_app (goodIn_app (goodIn_app (goodIn_app (goodIn_app (goodIn_app (goodIn_app ggL_law_X6_settle_2 (goodIn_app ggL_law_X6_settle_3 (goodIn_app ggL_law_X6_settle_4 (goodIn_app ggL_law_X6_settle_5 (goodIn_app ggL_law_X6_settle_6 ggL_law_X6_settle_7))))) ggL_law_X6_settle_8) ggL_law_X6_settle_9) ggL_law_X6_settle_10) ggL_law_X6_settle_11) ggL_law_X6_settle_12) ggL_law_X6_settle_13)
set_option maxRecDepth 20000 in
theorem gL_law_X6_settle : GoodIn wsL_law (wsV RL 112 RX6 yX6_settle wsX6_settle) := goodIn_app (goodIn_of _ (by decide +kernel)) ggL_law_X6_settle
set_option maxRecDepth 20000 in
theorem ggL_law_X7_settle : GoodIn wsL_law wsX7_settle := goodIn_r _ [948, 89, 206, 291, 354, 216, 217, 5, 218, 876, 877, 878, 223, 224, 225, 226, 227, 90, 830, 831, 832, 1083, 1084, 1085, 1086, 1087, 1088, 1089, 1090, 1091, 1092, 1093, 1094, 1095, 1096, 1097, 1098, 1099, 1100, 1101] (by decide +kernel) (by decide +kernel)
set_option maxRecDepth 20000 in
theorem gL_law_X7_settle : GoodIn wsL_law (wsV RL 116 RX7 yX7_settle wsX7_settle) := goodIn_app (goodIn_of _ (by decide +kernel)) ggL_law_X7_settle
set_option maxRecDepth 20000 in
theorem ggL_law_X6_note : GoodIn wsL_law wsX6_note := goodIn_r _ [952, 15, 857, 113, 849, 850, 851, 25, 852, 83, 118, 119, 2, 120, 733, 728, 729, 730, 70, 71, 72, 1075, 1076, 1077, 1078, 1079, 1080, 1081, 1082, 1102, 1103, 1104, 1105, 1106, 1107, 1117, 1118, 1119, 1120] (by decide +kernel) (by decide +kernel)
set_option maxRecDepth 20000 in
theorem gL_law_X6_note : GoodIn wsL_law (wsV RL 117 RX6 yX6_note wsX6_note) := goodIn_app (goodIn_of _ (by decide +kernel)) ggL_law_X6_note
set_option maxRecDepth 20000 in
theorem ggL_law_X7_note : GoodIn wsL_law wsX7_note := goodIn_r _ [956, 89, 104, 206, 216, 217, 5, 218, 876, 877, 878, 1083, 1084, 1085, 1086, 1087, 1088, 1089, 1090, 1091, 1092, 1093, 1094, 1095, 1096, 1097, 1098, 1099, 1100, 1101] (by decide +kernel) (by decide +kernel)
set_option maxRecDepth 20000 in
theorem gL_law_X7_note : GoodIn wsL_law (wsV RL 120 RX7 yX7_note wsX7_note) := goodIn_app (goodIn_of _ (by decide +kernel)) ggL_law_X7_note
set_option maxRecDepth 20000 in
theorem ggL_law_X6_notes : GoodIn wsL_law wsX6_notes := goodIn_r _ [960, 15, 857, 705, 1075, 1076, 1077, 1078, 1079, 1080, 1081, 1082, 1102, 1103, 1104, 1105, 1106, 1107, 1117, 1118, 1119, 1120] (by decide +kernel) (by decide +kernel)
set_option maxRecDepth 20000 in
theorem gL_law_X6_notes : GoodIn wsL_law (wsV RL 121 RX6 yX6_notes wsX6_notes) := goodIn_app (goodIn_of _ (by decide +kernel)) ggL_law_X6_notes
set_option maxRecDepth 20000 in
theorem ggL_law_X7_notes : GoodIn wsL_law wsX7_notes := goodIn_r _ [964, 89, 1083, 1084, 1085, 1086, 1087, 1088, 1089, 1090, 1091, 1092, 1093, 1094, 1095, 1096, 1097, 1098, 1099, 1100, 1101] (by decide +kernel) (by decide +kernel)
set_option maxRecDepth 20000 in
theorem gL_law_X7_notes : GoodIn wsL_law (wsV RL 124 RX7 yX7_notes wsX7_notes) := goodIn_app (goodIn_of _ (by decide +kernel)) ggL_law_X7_notes
set_option maxRecDepth 20000 in
theorem ggL_law_X6_sum : GoodIn wsL_law wsX6_sum := goodIn_r _ [968, 15, 704, 857, 969, 970, 971, 972, 25, 973, 83, 923, 728, 729, 730, 70, 71, 72, 974, 975, 976, 977, 1075, 1076, 1077, 1078, 1079, 1080, 1081, 1082, 1102, 1103, 1104, 1105, 1106, 1107, 1117, 1118, 1119, 1120] (by decide +kernel) (by decide +kernel)
set_option maxRecDepth 20000 in
theorem gL_law_X6_sum : GoodIn wsL_law (wsV RL 125 RX6 yX6_sum wsX6_sum) := goodIn_app (goodIn_of _ (by decide +kernel)) ggL_law_X6_sum
set_option maxRecDepth 20000 in
theorem ggL_law_X7_sum : GoodIn wsL_law wsX7_sum := goodIn_r _ [981, 982, 983, 216, 217, 5, 218, 984, 985, 986, 987, 89, 354, 830, 831, 832, 1083, 1084, 1085, 1086, 1087, 1088, 1089, 1090, 1091, 1092, 1093, 1094, 1095, 1096, 1097, 1098, 1099, 1100, 1101] (by decide +kernel) (by decide +kernel)
set_option maxRecDepth 20000 in
theorem gL_law_X7_sum : GoodIn wsL_law (wsV RL 129 RX7 yX7_sum wsX7_sum) := goodIn_app (goodIn_of _ (by decide +kernel)) ggL_law_X7_sum
set_option maxRecDepth 20000 in
theorem ggL_law_X6_lighter_1 : GoodIn wsL_law [.code yX6_lighter cX6_lighter 6 (some .int)] := goodIn_r _ [991] (by decide +kernel) (by decide +kernel)
set_option maxRecDepth 20000 in
theorem ggL_law_X6_lighter_2 : GoodIn wsL_law wsX6_lighter_r1 := goodIn_r _ [15, 704, 113, 257, 26, 241, 858, 849, 850, 851, 25, 852, 83, 733, 728, 729, 730, 70, 71, 72, 713, 714, 715, 2] (by decide +kernel) (by decide +kernel)
set_option maxRecDepth 20000 in
theorem ggL_law_X6_lighter_3 : GoodIn wsL_law wsX6_lighter_r2 := goodIn_r _ [716, 382, 393, 155, 156, 36, 157, 53, 116, 117, 919, 920, 921, 922, 923, 924, 626, 627, 628, 837, 838, 839, 840, 721] (by decide +kernel) (by decide +kernel)
set_option maxRecDepth 20000 in
theorem ggL_law_X6_lighter_4 : GoodIn wsL_law wsX6_lighter_r3 := goodIn_r _ [722, 723, 14, 724, 725, 33, 726, 67, 68, 69, 37, 41, 727, 731, 732, 734, 122, 123, 32, 124, 49, 735, 736, 737] (by decide +kernel) (by decide +kernel)
set_option maxRecDepth 20000 in
theorem ggL_law_X6_lighter_5 : GoodIn wsL_law wsX6_lighter_r4 := goodIn_r _ [738, 739, 740, 741, 742, 743, 744, 745, 720, 746, 747, 748, 749, 750, 751, 388, 389, 390, 154, 158, 159, 160, 161, 54] (by decide +kernel) (by decide +kernel)
set_option maxRecDepth 20000 in
theorem ggL_law_X6_lighter_6 : GoodIn wsL_law wsX6_lighter_r5 := goodIn_r _ [162, 163, 164, 165, 166, 167, 168, 169, 55, 752, 753, 754, 755, 174, 175, 176, 177, 56, 756, 757, 758, 40, 759, 61] (by decide +kernel) (by decide +kernel)
set_option maxRecDepth 20000 in
theorem ggL_law_X6_lighter_7 : GoodIn wsL_law wsX6_lighter_r6 := goodIn_r _ [616, 760, 761, 762, 763, 764, 765, 766, 767, 768, 769, 770, 771, 772, 773, 774, 775, 776, 777, 778, 779, 780, 781, 782] (by decide +kernel) (by decide +kernel)
set_option maxRecDepth 20000 in
theorem ggL_law_X6_lighter_8 : GoodIn wsL_law wsX6_lighter_r7 := goodIn_r _ [783, 784, 785, 786, 787, 788, 789, 790, 992, 993, 994, 995, 996, 997, 998, 999, 1000, 1001, 1002, 1003, 1004, 1005, 687, 1006] (by decide +kernel) (by decide +kernel)
set_option maxRecDepth 20000 in
theorem ggL_law_X6_lighter_9 : GoodIn wsL_law wsX6_lighter_r8 := goodIn_r _ [1007, 1008] (by decide +kernel) (by decide +kernel)
set_option maxRecDepth 20000 in
theorem ggL_law_X6_lighter_10 : GoodIn wsL_law wsX60 := goodIn_r _ [1075, 1076, 1077, 1078, 1079, 1080, 1081, 1082] (by decide +kernel) (by decide +kernel)
set_option maxRecDepth 20000 in
theorem ggL_law_X6_lighter_11 : GoodIn wsL_law wsX40 := goodIn_r _ [1102, 1103, 1104, 1105, 1106, 1107] (by decide +kernel) (by decide +kernel)
set_option maxRecDepth 20000 in
theorem ggL_law_X6_lighter_12 : GoodIn wsL_law wsX50 := goodIn_r _ [1117, 1118, 1119, 1120] (by decide +kernel) (by decide +kernel)
set_option maxRecDepth 20000 in
theorem ggL_law_X6_lighter_13 : GoodIn wsL_law wsX00 := goodIn_r _ [1132, 1133, 1134, 1135] (by decide +kernel) (by decide +kernel)
set_option maxRecDepth 20000 in
theorem ggL_law_X6_lighter_14 : GoodIn wsL_law wsX30 := goodIn_r _ [1121, 1122, 1123, 1124, 1125, 1126, 1127, 1128, 1129, 1130, 1131] (by decide +kernel) (by decide +kernel)
set_option maxRecDepth 20000 in
theorem ggL_law_X6_lighter_15 : GoodIn wsL_law wsX20 := goodIn_r _ [1136] (by decide +kernel) (by decide +kernel)
set_option maxRecDepth 20000 in
theorem ggL_law_X6_lighter : GoodIn wsL_law wsX6_lighter := goodIn_app (a := [.code yX6_lighter cX6_lighter 6 (some .int)]) ggL_law_X6_lighter_1 (goodIn_app (goodIn_app (goodIn_app (goodIn_app (goodIn_app (goodIn_app (goodIn_app ggL_law_X6_lighter_2 (goodIn_app ggL_law_X6_lighter_3 (goodIn_app ggL_law_X6_lighter_4 (goodIn_app ggL_law_X6_lighter_5 (goodIn_app ggL_law_X6_lighter_6 (goodIn_app ggL_law_X6_lighter_7 (goodIn_app ggL_law_X6_lighter_8 ggL_law_X6_lighter_9))))))) ggL_law_X6_lighter_10) ggL_law_X6_lighter_11) ggL_law_X6_lighter_12) ggL_law_X6_lighter_13) ggL_law_X6_lighter_14) ggL_law_X6_lighter_15)
set_option maxRecDepth 20000 in
theorem gL_law_X6_lighter : GoodIn wsL_law (wsV RL 130 RX6 yX6_lighter wsX6_lighter) := goodIn_app (goodIn_of _ (by decide +kernel)) ggL_law_X6_lighter
set_option maxRecDepth 20000 in
theorem ggL_law_X7_lighter_1 : GoodIn wsL_law [.code yX7_lighter cX7_lighter 2 (some .int)] := goodIn_r _ [1012] (by decide +kernel) (by decide +kernel)
set_option maxRecDepth 20000 in
theorem ggL_law_X7_lighter_2 : GoodIn wsL_law wsX7_lighter_r1 := goodIn_r _ [206, 863, 864, 865, 5, 866, 89, 216, 217, 218, 1013, 1014, 1015, 1016, 291, 875, 929, 930, 931, 932, 830, 831, 832, 407] (by decide +kernel) (by decide +kernel)
set_option maxRecDepth 20000 in
theorem ggL_law_X7_lighter_3 : GoodIn wsL_law wsX7_lighter_r2 := goodIn_r _ [408, 409, 410, 800, 801, 802, 803, 637, 92, 804, 640, 641, 642, 643, 644, 94, 645, 638, 97, 95, 96, 646, 647, 648] (by decide +kernel) (by decide +kernel)
set_option maxRecDepth 20000 in
theorem ggL_law_X7_lighter_4 : GoodIn wsL_law wsX7_lighter_r3 := goodIn_r _ [649, 650, 651, 652, 653, 654, 655, 656, 657, 658, 659, 660, 661, 662, 663, 664, 665, 666, 93, 667, 668, 669, 670, 671] (by decide +kernel) (by decide +kernel)
set_option maxRecDepth 20000 in
theorem ggL_law_X7_lighter_5 : GoodIn wsL_law wsX7_lighter_r4 := goodIn_r _ [672, 673, 674, 675, 676, 677, 678, 933, 934, 935, 936, 805, 806, 807, 808, 98, 212, 354, 296, 99, 809, 810, 811, 812] (by decide +kernel) (by decide +kernel)
set_option maxRecDepth 20000 in
theorem ggL_law_X7_lighter_6 : GoodIn wsL_law wsX7_lighter_r5 := goodIn_r _ [102, 813, 814, 815, 816, 817, 818, 819, 211, 411, 412, 413, 820, 821, 822, 823, 824, 825, 826, 827, 828, 829, 101, 301] (by decide +kernel) (by decide +kernel)
set_option maxRecDepth 20000 in
theorem ggL_law_X7_lighter_7 : GoodIn wsL_law wsX7_lighter_r6 := goodIn_r _ [302, 303] (by decide +kernel) (by decide +kernel)
set_option maxRecDepth 20000 in
theorem ggL_law_X7_lighter_8 : GoodIn wsL_law wsX70 := goodIn_r _ [1083, 1084, 1085, 1086, 1087, 1088, 1089, 1090, 1091, 1092, 1093, 1094, 1095, 1096, 1097, 1098, 1099, 1100, 1101] (by decide +kernel) (by decide +kernel)
set_option maxRecDepth 20000 in
theorem ggL_law_X7_lighter : GoodIn wsL_law wsX7_lighter := goodIn_app (a := [.code yX7_lighter cX7_lighter 2 (some .int)]) ggL_law_X7_lighter_1 (goodIn_app (goodIn_app ggL_law_X7_lighter_2 (goodIn_app ggL_law_X7_lighter_3 (goodIn_app ggL_law_X7_lighter_4 (goodIn_app ggL_law_X7_lighter_5 (goodIn_app ggL_law_X7_lighter_6 ggL_law_X7_lighter_7))))) ggL_law_X7_lighter_8)
set_option maxRecDepth 20000 in
theorem gL_law_X7_lighter : GoodIn wsL_law (wsV RL 133 RX7 yX7_lighter wsX7_lighter) := goodIn_app (goodIn_of _ (by decide +kernel)) ggL_law_X7_lighter
set_option maxRecDepth 20000 in
theorem ggL_law_X6_shorter_1 : GoodIn wsL_law [.code yX6_shorter cX6_shorter 6 (some .int)] := goodIn_r _ [1020] (by decide +kernel) (by decide +kernel)
set_option maxRecDepth 20000 in
theorem ggL_law_X6_shorter_2 : GoodIn wsL_law wsX6_shorter_r1 := goodIn_r _ [15, 704, 113, 257, 26, 858, 849, 850, 851, 25, 852, 83, 118, 119, 2, 120, 733, 728, 729, 730, 70, 71, 72, 713] (by decide +kernel) (by decide +kernel)
set_option maxRecDepth 20000 in
theorem ggL_law_X6_shorter_3 : GoodIn wsL_law wsX6_shorter_r2 := goodIn_r _ [714, 715, 716, 382, 393, 155, 156, 36, 157, 53, 116, 117, 919, 920, 921, 922, 923, 924, 626, 627, 628, 837, 838, 839] (by decide +kernel) (by decide +kernel)
set_option maxRecDepth 20000 in
theorem ggL_law_X6_shorter_4 : GoodIn wsL_law wsX6_shorter_r3 := goodIn_r _ [840, 721, 722, 723, 14, 724, 725, 33, 726, 67, 68, 69, 37, 41, 727, 731, 732, 734, 122, 123, 32, 124, 49, 735] (by decide +kernel) (by decide +kernel)
set_option maxRecDepth 20000 in
theorem ggL_law_X6_shorter_5 : GoodIn wsL_law wsX6_shorter_r4 := goodIn_r _ [736, 737, 738, 739, 740, 741, 742, 743, 744, 745, 720, 746, 747, 748, 749, 750, 751, 388, 389, 390, 154, 158, 159, 160] (by decide +kernel) (by decide +kernel)
set_option maxRecDepth 20000 in
theorem ggL_law_X6_shorter_6 : GoodIn wsL_law wsX6_shorter_r5 := goodIn_r _ [161, 54, 162, 163, 164, 165, 166, 167, 168, 169, 55, 752, 753, 754, 755, 174, 175, 176, 177, 56, 756, 757, 758, 40] (by decide +kernel) (by decide +kernel)
set_option maxRecDepth 20000 in
theorem ggL_law_X6_shorter_7 : GoodIn wsL_law wsX6_shorter_r6 := goodIn_r _ [759, 61, 616, 760, 761, 762, 763, 764, 765, 766, 767, 768, 769, 770, 771, 772, 773, 774, 775, 776, 777, 778, 779, 780] (by decide +kernel) (by decide +kernel)
set_option maxRecDepth 20000 in
theorem ggL_law_X6_shorter_8 : GoodIn wsL_law wsX6_shorter_r7 := goodIn_r _ [781, 782, 783, 784, 785, 786, 787, 788, 789, 790] (by decide +kernel) (by decide +kernel)
set_option maxRecDepth 20000 in
theorem ggL_law_X6_shorter_9 : GoodIn wsL_law wsX60 := goodIn_r _ [1075, 1076, 1077, 1078, 1079, 1080, 1081, 1082] (by decide +kernel) (by decide +kernel)
set_option maxRecDepth 20000 in
theorem ggL_law_X6_shorter_10 : GoodIn wsL_law wsX40 := goodIn_r _ [1102, 1103, 1104, 1105, 1106, 1107] (by decide +kernel) (by decide +kernel)
set_option maxRecDepth 20000 in
theorem ggL_law_X6_shorter_11 : GoodIn wsL_law wsX50 := goodIn_r _ [1117, 1118, 1119, 1120] (by decide +kernel) (by decide +kernel)
set_option maxRecDepth 20000 in
theorem ggL_law_X6_shorter_12 : GoodIn wsL_law wsX00 := goodIn_r _ [1132, 1133, 1134, 1135] (by decide +kernel) (by decide +kernel)
set_option maxRecDepth 20000 in
theorem ggL_law_X6_shorter_13 : GoodIn wsL_law wsX30 := goodIn_r _ [1121, 1122, 1123, 1124, 1125, 1126, 1127, 1128, 1129, 1130, 1131] (by decide +kernel) (by decide +kernel)
set_option maxRecDepth 20000 in
theorem ggL_law_X6_shorter_14 : GoodIn wsL_law wsX20 := goodIn_r _ [1136] (by decide +kernel) (by decide +kernel)
set_option maxRecDepth 20000 in
theorem ggL_law_X6_shorter : GoodIn wsL_law wsX6_shorter := goodIn_app (a := [.code yX6_shorter cX6_shorter 6 (some .int)]) ggL_law_X6_shorter_1 (goodIn_app (goodIn_app (goodIn_app (goodIn_app (goodIn_app (goodIn_app (goodIn_app ggL_law_X6_shorter_2 (goodIn_app ggL_law_X6_shorter_3 (goodIn_app ggL_law_X6_shorter_4 (goodIn_app ggL_law_X6_shorter_5 (goodIn_app ggL_law_X6_shorter_6 (goodIn_app ggL_law_X6_shorter_7 ggL_law_X6_shorter_8)))))) ggL_law_X6_shorter_9) ggL_law_X6_shorter_10) ggL_law_X6_shorter_11) ggL_law_X6_shorter_12) ggL_law_X6_shorter_13) ggL_law_X6_shorter_14)
set_option maxRecDepth 20000 in
theorem gL_law_X6_shorter : GoodIn wsL_law (wsV RL 134 RX6 yX6_shorter wsX6_shorter) := goodIn_app (goodIn_of _ (by decide +kernel)) ggL_law_X6_shorter
set_option maxRecDepth 20000 in
theorem ggL_law_X7_shorter_1 : GoodIn wsL_law [.code yX7_shorter cX7_shorter 3 (some .int)] := goodIn_r _ [1024] (by decide +kernel) (by decide +kernel)
set_option maxRecDepth 20000 in
theorem ggL_law_X7_shorter_2 : GoodIn wsL_law wsX7_shorter_r1 := goodIn_r _ [296, 206, 863, 864, 865, 5, 866, 89, 216, 217, 218, 1013, 1014, 1015, 1016, 291, 875, 929, 930, 931, 932, 830, 831, 832] (by decide +kernel) (by decide +kernel)
set_option maxRecDepth 20000 in
theorem ggL_law_X7_shorter_3 : GoodIn wsL_law wsX7_shorter_r2 := goodIn_r _ [407, 408, 409, 410, 800, 801, 802, 803, 637, 92, 804, 640, 641, 642, 643, 644, 94, 645, 638, 97, 95, 96, 646, 647] (by decide +kernel) (by decide +kernel)
set_option maxRecDepth 20000 in
theorem ggL_law_X7_shorter_4 : GoodIn wsL_law wsX7_shorter_r3 := goodIn_r _ [648, 649, 650, 651, 652, 653, 654, 655, 656, 657, 658, 659, 660, 661, 662, 663, 664, 665, 666, 93, 667, 668, 669, 670] (by decide +kernel) (by decide +kernel)
set_option maxRecDepth 20000 in
theorem ggL_law_X7_shorter_5 : GoodIn wsL_law wsX7_shorter_r4 := goodIn_r _ [671, 672, 673, 674, 675, 676, 677, 678, 933, 934, 935, 936, 805, 806, 807, 808, 98, 212, 354, 99, 809, 810, 811, 812] (by decide +kernel) (by decide +kernel)
set_option maxRecDepth 20000 in
theorem ggL_law_X7_shorter_6 : GoodIn wsL_law wsX7_shorter_r5 := goodIn_r _ [102, 813, 814, 815, 816, 817, 818, 819, 211, 411, 412, 413, 820, 821, 822, 823, 824, 825, 826, 827, 828, 829, 101, 301] (by decide +kernel) (by decide +kernel)
set_option maxRecDepth 20000 in
theorem ggL_law_X7_shorter_7 : GoodIn wsL_law wsX7_shorter_r6 := goodIn_r _ [302, 303] (by decide +kernel) (by decide +kernel)
set_option maxRecDepth 20000 in
theorem ggL_law_X7_shorter_8 : GoodIn wsL_law wsX70 := goodIn_r _ [1083, 1084, 1085, 1086, 1087, 1088, 1089, 1090, 1091, 1092, 1093, 1094, 1095, 1096, 1097, 1098, 1099, 1100, 1101] (by decide +kernel) (by decide +kernel)
set_option maxRecDepth 20000 in
theorem ggL_law_X7_shorter : GoodIn wsL_law wsX7_shorter := goodIn_app (a := [.code yX7_shorter cX7_shorter 3 (some .int)]) ggL_law_X7_shorter_1 (goodIn_app (goodIn_app ggL_law_X7_shorter_2 (goodIn_app ggL_law_X7_shorter_3 (goodIn_app ggL_law_X7_shorter_4 (goodIn_app ggL_law_X7_shorter_5 (goodIn_app ggL_law_X7_shorter_6 ggL_law_X7_shorter_7))))) ggL_law_X7_shorter_8)
set_option maxRecDepth 20000 in
theorem gL_law_X7_shorter : GoodIn wsL_law (wsV RL 137 RX7 yX7_shorter wsX7_shorter) := goodIn_app (goodIn_of _ (by decide +kernel)) ggL_law_X7_shorter
set_option maxRecDepth 20000 in
theorem ggL_law_X6_cheapest_1 : GoodIn wsL_law [.code yX6_cheapest cX6_cheapest 6 (some .int)] := goodIn_r _ [1028] (by decide +kernel) (by decide +kernel)
set_option maxRecDepth 20000 in
theorem ggL_law_X6_cheapest_2 : GoodIn wsL_law wsX6_cheapest_r1 := goodIn_r _ [15, 704, 113, 26, 858, 849, 850, 851, 25, 852, 83, 919, 920, 921, 922, 71, 923, 728, 729, 730, 70, 72, 924, 626] (by decide +kernel) (by decide +kernel)
set_option maxRecDepth 20000 in
theorem ggL_law_X6_cheapest_3 : GoodIn wsL_law wsX6_cheapest_r2 := goodIn_r _ [627, 628, 713, 714, 715, 2, 716, 382, 393, 155, 156, 36, 157, 53, 116, 117, 720, 837, 838, 839, 840, 721, 722, 723] (by decide +kernel) (by decide +kernel)
set_option maxRecDepth 20000 in
theorem ggL_law_X6_cheapest_4 : GoodIn wsL_law wsX6_cheapest_r3 := goodIn_r _ [14, 724, 725, 33, 726, 67, 68, 69, 37, 41, 727, 731, 732, 733, 734, 122, 123, 32, 124, 49, 735, 736, 737, 738] (by decide +kernel) (by decide +kernel)
set_option maxRecDepth 20000 in
theorem ggL_law_X6_cheapest_5 : GoodIn wsL_law wsX6_cheapest_r4 := goodIn_r _ [739, 740, 741, 742, 743, 744, 745, 746, 747, 748, 749, 750, 751, 388, 389, 390, 154, 158, 159, 160, 161, 54, 162, 163] (by decide +kernel) (by decide +kernel)
set_option maxRecDepth 20000 in
theorem ggL_law_X6_cheapest_6 : GoodIn wsL_law wsX6_cheapest_r5 := goodIn_r _ [164, 165, 166, 167, 168, 169, 55, 752, 753, 754, 755, 174, 175, 176, 177, 56, 756, 757, 758, 40, 759, 61, 616, 760] (by decide +kernel) (by decide +kernel)
set_option maxRecDepth 20000 in
theorem ggL_law_X6_cheapest_7 : GoodIn wsL_law wsX6_cheapest_r6 := goodIn_r _ [761, 762, 763, 764, 765, 766, 767, 768, 769, 770, 771, 772, 773, 774, 775, 776, 777, 778, 779, 780, 781, 782, 783, 784] (by decide +kernel) (by decide +kernel)
set_option maxRecDepth 20000 in
theorem ggL_law_X6_cheapest_8 : GoodIn wsL_law wsX6_cheapest_r7 := goodIn_r _ [785, 786, 787, 788, 789, 790] (by decide +kernel) (by decide +kernel)
set_option maxRecDepth 20000 in
theorem ggL_law_X6_cheapest_9 : GoodIn wsL_law wsX60 := goodIn_r _ [1075, 1076, 1077, 1078, 1079, 1080, 1081, 1082] (by decide +kernel) (by decide +kernel)
set_option maxRecDepth 20000 in
theorem ggL_law_X6_cheapest_10 : GoodIn wsL_law wsX40 := goodIn_r _ [1102, 1103, 1104, 1105, 1106, 1107] (by decide +kernel) (by decide +kernel)
set_option maxRecDepth 20000 in
theorem ggL_law_X6_cheapest_11 : GoodIn wsL_law wsX50 := goodIn_r _ [1117, 1118, 1119, 1120] (by decide +kernel) (by decide +kernel)
set_option maxRecDepth 20000 in
theorem ggL_law_X6_cheapest_12 : GoodIn wsL_law wsX00 := goodIn_r _ [1132, 1133, 1134, 1135] (by decide +kernel) (by decide +kernel)
set_option maxRecDepth 20000 in
theorem ggL_law_X6_cheapest_13 : GoodIn wsL_law wsX30 := goodIn_r _ [1121, 1122, 1123, 1124, 1125, 1126, 1127, 1128, 1129, 1130, 1131] (by decide +kernel) (by decide +kernel)
set_option maxRecDepth 20000 in
theorem ggL_law_X6_cheapest_14 : GoodIn wsL_law wsX20 := goodIn_r _ [1136] (by decide +kernel) (by decide +kernel)
set_option maxRecDepth 20000 in
theorem ggL_law_X6_cheapest : GoodIn wsL_law wsX6_cheapest := goodIn_app (a := [.code yX6_cheapest cX6_cheapest 6 (some .int)]) ggL_law_X6_cheapest_1 (goodIn_app (goodIn_app (goodIn_app (goodIn_app (goodIn_app (goodIn_app (goodIn_app ggL_law_X6_cheapest_2 (goodIn_app ggL_law_X6_cheapest_3 (goodIn_app ggL_law_X6_cheapest_4 (goodIn_app ggL_law_X6_cheapest_5 (goodIn_app ggL_law_X6_cheapest_6 (goodIn_app ggL_law_X6_cheapest_7 ggL_law_X6_cheapest_8)))))) ggL_law_X6_cheapest_9) ggL_law_X6_cheapest_10) ggL_law_X6_cheapest_11) ggL_law_X6_cheapest_12) ggL_law_X6_cheapest_13) ggL_law_X6_cheapest_14)
set_option maxRecDepth 20000 in
theorem gL_law_X6_cheapest : GoodIn wsL_law (wsV RL 138 RX6 yX6_cheapest wsX6_cheapest) := goodIn_app (goodIn_of _ (by decide +kernel)) ggL_law_X6_cheapest
set_option maxRecDepth 20000 in
theorem ggL_law_X7_cheapest_1 : GoodIn wsL_law [.code yX7_cheapest cX7_cheapest 8 (some .int)] := goodIn_r _ [1032] (by decide +kernel) (by decide +kernel)
set_option maxRecDepth 20000 in
theorem ggL_law_X7_cheapest_2 : GoodIn wsL_law wsX7_cheapest_r1 := goodIn_r _ [206, 875, 89, 863, 864, 865, 5, 866, 216, 217, 218, 800, 801, 802, 803, 637, 92, 804, 640, 641, 642, 643, 644, 94] (by decide +kernel) (by decide +kernel)
set_option maxRecDepth 20000 in
theorem ggL_law_X7_cheapest_3 : GoodIn wsL_law wsX7_cheapest_r2 := goodIn_r _ [645, 638, 97, 95, 96, 646, 647, 648, 649, 650, 651, 652, 653, 654, 655, 656, 657, 658, 659, 660, 661, 662, 663, 664] (by decide +kernel) (by decide +kernel)
set_option maxRecDepth 20000 in
theorem ggL_law_X7_cheapest_4 : GoodIn wsL_law wsX7_cheapest_r3 := goodIn_r _ [665, 666, 93, 667, 668, 669, 670, 671, 672, 673, 674, 675, 676, 677, 678, 407, 408, 409, 410, 830, 831, 832, 805, 806] (by decide +kernel) (by decide +kernel)
set_option maxRecDepth 20000 in
theorem ggL_law_X7_cheapest_5 : GoodIn wsL_law wsX7_cheapest_r4 := goodIn_r _ [807, 808, 98, 212, 354, 296, 99, 809, 810, 811, 812, 102, 813, 814, 815, 816, 817, 818, 819, 211, 411, 412, 413, 820] (by decide +kernel) (by decide +kernel)
set_option maxRecDepth 20000 in
theorem ggL_law_X7_cheapest_6 : GoodIn wsL_law wsX7_cheapest_r5 := goodIn_r _ [821, 822, 823, 824, 825, 826, 827, 828, 829, 101, 301, 302, 303] (by decide +kernel) (by decide +kernel)
set_option maxRecDepth 20000 in
theorem ggL_law_X7_cheapest_7 : GoodIn wsL_law wsX70 := goodIn_r _ [1083, 1084, 1085, 1086, 1087, 1088, 1089, 1090, 1091, 1092, 1093, 1094, 1095, 1096, 1097, 1098, 1099, 1100, 1101] (by decide +kernel) (by decide +kernel)
set_option maxRecDepth 20000 in
theorem ggL_law_X7_cheapest : GoodIn wsL_law wsX7_cheapest := goodIn_app (a := [.code yX7_cheapest cX7_cheapest 8 (some .int)]) ggL_law_X7_cheapest_1 (goodIn_app (goodIn_app ggL_law_X7_cheapest_2 (goodIn_app ggL_law_X7_cheapest_3 (goodIn_app ggL_law_X7_cheapest_4 (goodIn_app ggL_law_X7_cheapest_5 ggL_law_X7_cheapest_6)))) ggL_law_X7_cheapest_7)
set_option maxRecDepth 20000 in
theorem gL_law_X7_cheapest : GoodIn wsL_law (wsV RL 141 RX7 yX7_cheapest wsX7_cheapest) := goodIn_app (goodIn_of _ (by decide +kernel)) ggL_law_X7_cheapest
set_option maxRecDepth 20000 in
theorem ggL_law_X6_undo_1 : GoodIn wsL_law [.code yX6_undo cX6_undo 1 (some .int)] := goodIn_r _ [1036] (by decide +kernel) (by decide +kernel)
set_option maxRecDepth 20000 in
theorem ggL_law_X6_undo_2 : GoodIn wsL_law wsX6_undo_r1 := goodIn_r _ [130, 858, 129, 16, 15, 131, 132, 133, 14, 134, 33, 37, 41, 43, 44, 45, 135, 136, 137, 32, 138, 49, 139, 140] (by decide +kernel) (by decide +kernel)
set_option maxRecDepth 20000 in
theorem ggL_law_X6_undo_3 : GoodIn wsL_law wsX6_undo_r2 := goodIn_r _ [141, 142, 143, 144, 145, 146, 147, 148, 149, 122, 123, 124, 150, 151, 152, 36, 153, 53, 116, 2, 117, 154, 155, 156] (by decide +kernel) (by decide +kernel)
set_option maxRecDepth 20000 in
theorem ggL_law_X6_undo_4 : GoodIn wsL_law wsX6_undo_r3 := goodIn_r _ [157, 158, 159, 160, 161, 54, 162, 163, 164, 165, 166, 167, 168, 169, 55, 170, 171, 172, 173, 174, 175, 176, 177, 56] (by decide +kernel) (by decide +kernel)
set_option maxRecDepth 20000 in
theorem ggL_law_X6_undo_5 : GoodIn wsL_law wsX6_undo_r4 := goodIn_r _ [178, 179, 180, 181, 182, 183, 184, 40, 185, 61, 186, 187, 188, 25, 189, 83, 71, 72, 190, 191, 68, 192, 193, 194] (by decide +kernel) (by decide +kernel)
set_option maxRecDepth 20000 in
theorem ggL_law_X6_undo_6 : GoodIn wsL_law wsX6_undo_r5 := goodIn_r _ [195, 196, 197] (by decide +kernel) (by decide +kernel)
set_option maxRecDepth 20000 in
theorem ggL_law_X6_undo_7 : GoodIn wsL_law wsX60 := goodIn_r _ [1075, 1076, 1077, 1078, 1079, 1080, 1081, 1082] (by decide +kernel) (by decide +kernel)
set_option maxRecDepth 20000 in
theorem ggL_law_X6_undo_8 : GoodIn wsL_law wsX40 := goodIn_r _ [1102, 1103, 1104, 1105, 1106, 1107] (by decide +kernel) (by decide +kernel)
set_option maxRecDepth 20000 in
theorem ggL_law_X6_undo_9 : GoodIn wsL_law wsX30 := goodIn_r _ [1121, 1122, 1123, 1124, 1125, 1126, 1127, 1128, 1129, 1130, 1131] (by decide +kernel) (by decide +kernel)
set_option maxRecDepth 20000 in
theorem ggL_law_X6_undo_10 : GoodIn wsL_law wsX00 := goodIn_r _ [1132, 1133, 1134, 1135] (by decide +kernel) (by decide +kernel)
set_option maxRecDepth 20000 in
theorem ggL_law_X6_undo_11 : GoodIn wsL_law wsX20 := goodIn_r _ [1136] (by decide +kernel) (by decide +kernel)
set_option maxRecDepth 20000 in
theorem ggL_law_X6_undo_12 : GoodIn wsL_law wsX50 := goodIn_r _ [1117, 1118, 1119, 1120] (by decide +kernel) (by decide +kernel)
set_option maxRecDepth 20000 in
theorem ggL_law_X6_undo : GoodIn wsL_law wsX6_undo := goodIn_app (a := [.code yX6_undo cX6_undo 1 (some .int)]) ggL_law_X6_undo_1 (goodIn_app (goodIn_app (goodIn_app (goodIn_app (goodIn_app (goodIn_app (goodIn_app ggL_law_X6_undo_2 (goodIn_app ggL_law_X6_undo_3 (goodIn_app ggL_law_X6_undo_4 (goodIn_app ggL_law_X6_undo_5 ggL_law_X6_undo_6)))) ggL_law_X6_undo_7) ggL_law_X6_undo_8) ggL_law_X6_undo_9) ggL_law_X6_undo_10) ggL_law_X6_undo_11) ggL_law_X6_undo_12)
set_option maxRecDepth 20000 in
theorem gL_law_X6_undo : GoodIn wsL_law (wsV RL 142 RX6 yX6_undo wsX6_undo) := goodIn_app (goodIn_of _ (by decide +kernel)) ggL_law_X6_undo
set_option maxRecDepth 20000 in
theorem ggL_law_X7_undo : GoodIn wsL_law wsX7_undo := goodIn_r _ [1040, 227, 875, 89, 90, 1083, 1084, 1085, 1086, 1087, 1088, 1089, 1090, 1091, 1092, 1093, 1094, 1095, 1096, 1097, 1098, 1099, 1100, 1101] (by decide +kernel) (by decide +kernel)
set_option maxRecDepth 20000 in
theorem gL_law_X7_undo : GoodIn wsL_law (wsV RL 145 RX7 yX7_undo wsX7_undo) := goodIn_app (goodIn_of _ (by decide +kernel)) ggL_law_X7_undo
set_option maxRecDepth 20000 in
theorem ggL_law_X6_fingerprint_1 : GoodIn wsL_law [.code yX6_fingerprint cX6_fingerprint 4 (some .long)] := goodIn_r _ [1044] (by decide +kernel) (by decide +kernel)
set_option maxRecDepth 20000 in
theorem ggL_law_X6_fingerprint_2 : GoodIn wsL_law wsX6_fingerprint_r1 := goodIn_r _ [1045, 111, 1046, 1047, 229, 230, 2, 231, 15, 114, 113, 115, 116, 117, 121, 122, 123, 32, 124, 49, 1048, 356, 357, 358] (by decide +kernel) (by decide +kernel)
set_option maxRecDepth 20000 in
theorem ggL_law_X6_fingerprint_3 : GoodIn wsL_law wsX6_fingerprint_r2 := goodIn_r _ [118, 119, 120, 359, 360, 361, 362, 140, 141, 142, 143, 144, 139, 262, 263, 264, 265, 149, 266, 267, 268, 269, 363, 339] (by decide +kernel) (by decide +kernel)
set_option maxRecDepth 20000 in
theorem ggL_law_X6_fingerprint_4 : GoodIn wsL_law wsX6_fingerprint_r3 := goodIn_r _ [340, 341, 364, 365, 366, 367, 368, 314, 315, 316, 146, 147, 148, 317, 67, 68, 69, 274, 191, 192, 145, 369, 335, 336] (by decide +kernel) (by decide +kernel)
set_option maxRecDepth 20000 in
theorem ggL_law_X6_fingerprint_5 : GoodIn wsL_law wsX6_fingerprint_r4 := goodIn_r _ [337, 282, 283, 284, 285, 1049, 1050, 1051, 1052, 382, 393, 155, 156, 36, 157, 53, 1053, 427, 428, 429, 391, 163, 164, 165] (by decide +kernel) (by decide +kernel)
set_option maxRecDepth 20000 in
theorem ggL_law_X6_fingerprint_6 : GoodIn wsL_law wsX6_fingerprint_r5 := goodIn_r _ [392, 159, 160, 161, 54, 162, 430, 167, 168, 169, 55, 439, 175, 176, 177, 56, 1054, 693, 694, 695, 470, 612, 613, 614] (by decide +kernel) (by decide +kernel)
set_option maxRecDepth 20000 in
theorem ggL_law_X6_fingerprint_7 : GoodIn wsL_law wsX6_fingerprint_r6 := goodIn_r _ [40, 615, 61, 616, 1055, 1056, 1057, 1058, 704, 1059, 892, 893, 894, 705, 1060, 846, 847, 848, 849, 850, 851, 25, 852, 83] (by decide +kernel) (by decide +kernel)
set_option maxRecDepth 20000 in
theorem ggL_law_X6_fingerprint_8 : GoodIn wsL_law wsX6_fingerprint_r7 := goodIn_r _ [853, 854, 855, 856, 857, 858, 733, 728, 729, 730, 70, 71, 72, 1061, 880, 881, 882, 1062, 1063, 1064, 1065, 1066, 958, 959] (by decide +kernel) (by decide +kernel)
set_option maxRecDepth 20000 in
theorem ggL_law_X6_fingerprint_9 : GoodIn wsL_law wsX6_fingerprint_r8 := goodIn_r _ [960, 1067, 950, 951, 952, 1068, 966, 967, 968, 969, 970, 971, 972, 973, 923, 974, 975, 976, 977] (by decide +kernel) (by decide +kernel)
set_option maxRecDepth 20000 in
theorem ggL_law_X6_fingerprint_10 : GoodIn wsL_law wsX60 := goodIn_r _ [1075, 1076, 1077, 1078, 1079, 1080, 1081, 1082] (by decide +kernel) (by decide +kernel)
set_option maxRecDepth 20000 in
theorem ggL_law_X6_fingerprint_11 : GoodIn wsL_law wsX40 := goodIn_r _ [1102, 1103, 1104, 1105, 1106, 1107] (by decide +kernel) (by decide +kernel)
set_option maxRecDepth 20000 in
theorem ggL_law_X6_fingerprint_12 : GoodIn wsL_law wsX30 := goodIn_r _ [1121, 1122, 1123, 1124, 1125, 1126, 1127, 1128, 1129, 1130, 1131] (by decide +kernel) (by decide +kernel)
set_option maxRecDepth 20000 in
theorem ggL_law_X6_fingerprint_13 : GoodIn wsL_law wsX00 := goodIn_r _ [1132, 1133, 1134, 1135] (by decide +kernel) (by decide +kernel)
set_option maxRecDepth 20000 in
theorem ggL_law_X6_fingerprint_14 : GoodIn wsL_law wsX20 := goodIn_r _ [1136] (by decide +kernel) (by decide +kernel)
set_option maxRecDepth 20000 in
theorem ggL_law_X6_fingerprint_15 : GoodIn wsL_law wsX50 := goodIn_r _ [1117, 1118, 1119, 1120] (by decide +kernel) (by decide +kernel)
set_option maxRecDepth 20000 in
theorem ggL_law_X6_fingerprint : GoodIn wsL_law wsX6_fingerprint := goodIn_app (a := [.code yX6_fingerprint cX6_fingerprint 4 (some .long)]) ggL_law_X6_fingerprint_1 (goodIn_app (goodIn_app (goodIn_app (goodIn_app (goodIn_app (goodIn_app (goodIn_app ggL_law_X6_fingerprint_2 (goodIn_app ggL_law_X6_fingerprint_3 (goodIn_app ggL_law_X6_fingerprint_4 (goodIn_app ggL_law_X6_fingerprint_5 (goodIn_app ggL_law_X6_fingerprint_6 (goodIn_app ggL_law_X6_fingerprint_7 (goodIn_app ggL_law_X6_fingerprint_8 ggL_law_X6_fingerprint_9))))))) ggL_law_X6_fingerprint_10) ggL_law_X6_fingerprint_11) ggL_law_X6_fingerprint_12) ggL_law_X6_fingerprint_13) ggL_law_X6_fingerprint_14) ggL_law_X6_fingerprint_15)
set_option maxRecDepth 20000 in
theorem gL_law_X6_fingerprint : GoodIn wsL_law (wsV RL 146 RX6 yX6_fingerprint wsX6_fingerprint) := goodIn_app (goodIn_of _ (by decide +kernel)) ggL_law_X6_fingerprint
set_option maxRecDepth 20000 in
theorem ggL_law_X7_fingerprint_1 : GoodIn wsL_law [.code yX7_fingerprint cX7_fingerprint 5 (some .long)] := goodIn_r _ [1072] (by decide +kernel) (by decide +kernel)
set_option maxRecDepth 20000 in
theorem ggL_law_X7_fingerprint_2 : GoodIn wsL_law wsX7_fingerprint_r1 := goodIn_r _ [1073, 1074, 89, 875, 374, 375, 376, 5, 377, 297, 298, 299, 300, 212, 301, 302, 303, 350, 351, 352, 353, 354, 326, 327] (by decide +kernel) (by decide +kernel)
set_option maxRecDepth 20000 in
theorem ggL_law_X7_fingerprint_3 : GoodIn wsL_law wsX7_fingerprint_r2 := goodIn_r _ [328, 329, 296, 346, 347, 348, 349, 407, 408, 409, 410, 411, 412, 413, 867, 868, 869, 870, 830, 831, 832, 820, 821, 822] (by decide +kernel) (by decide +kernel)
set_option maxRecDepth 20000 in
theorem ggL_law_X7_fingerprint_4 : GoodIn wsL_law wsX7_fingerprint_r3 := goodIn_r _ [823, 824, 825, 871, 872, 873, 874, 876, 877, 878, 887, 888, 889, 890, 984, 985, 986, 987] (by decide +kernel) (by decide +kernel)
set_option maxRecDepth 20000 in
theorem ggL_law_X7_fingerprint_5 : GoodIn wsL_law wsX70 := goodIn_r _ [1083, 1084, 1085, 1086, 1087, 1088, 1089, 1090, 1091, 1092, 1093, 1094, 1095, 1096, 1097, 1098, 1099, 1100, 1101] (by decide +kernel) (by decide +kernel)
set_option maxRecDepth 20000 in
theorem ggL_law_X7_fingerprint : GoodIn wsL_law wsX7_fingerprint := goodIn_app (a := [.code yX7_fingerprint cX7_fingerprint 5 (some .long)]) ggL_law_X7_fingerprint_1 (goodIn_app (goodIn_app ggL_law_X7_fingerprint_2 (goodIn_app ggL_law_X7_fingerprint_3 ggL_law_X7_fingerprint_4)) ggL_law_X7_fingerprint_5)
set_option maxRecDepth 20000 in
theorem gL_law_X7_fingerprint : GoodIn wsL_law (wsV RL 150 RX7 yX7_fingerprint wsX7_fingerprint) := goodIn_app (goodIn_of _ (by decide +kernel)) ggL_law_X7_fingerprint
