set_option maxRecDepth 20000 in
theorem ggL_law_X6_init_1 : GoodIn wsL_law [.code yX6_init cX6_init 2 none] := goodIn_r _ [8] (by decide +kernel) (by decide +kernel)
set_option maxRecDepth 20000 in
theorem ggL_law_X6_init_2 : GoodIn wsL_law wsX6_init_r1 := goodIn_r _ [9, 10, 11, 12, 13, 14, 15, 16, 17, 18, 19, 20, 21, 22, 23, 24, 25, 26, 27, 28, 29, 30, 31, 32] (by decide +kernel) (by decide +kernel)
set_option maxRecDepth 20000 in
theorem ggL_law_X6_init_3 : GoodIn wsL_law wsX6_init_r2 := goodIn_r _ [33, 34, 35, 36, 37, 38, 39, 40, 41, 42, 43, 44, 45, 46, 47, 48, 49, 50, 51, 52, 53, 54, 55, 56] (by decide +kernel) (by decide +kernel)
set_option maxRecDepth 20000 in
theorem ggL_law_X6_init_4 : GoodIn wsL_law wsX6_init_r3 := goodIn_r _ [57, 58, 59, 60, 61, 62, 63, 64, 65, 66, 67, 68, 69, 70, 71, 72, 73, 74, 75, 76, 77, 78, 79, 80] (by decide +kernel) (by decide +kernel)
set_option maxRecDepth 20000 in
theorem ggL_law_X6_init_5 : GoodIn wsL_law wsX6_init_r4 := goodIn_r _ [81, 82, 83] (by decide +kernel) (by decide +kernel)
set_option maxRecDepth 20000 in
theorem ggL_law_X6_init_6 : GoodIn wsL_law wsX40 := goodIn_r _ [1102, 1103, 1104, 1105, 1106, 1107] (by decide +kernel) (by decide +kernel)
set_option maxRecDepth 20000 in
theorem ggL_law_X6_init_7 : GoodIn wsL_law wsX60 := goodIn_r _ [1075, 1076, 1077, 1078, 1079, 1080, 1081, 1082] (by decide +kernel) (by decide +kernel)
set_option maxRecDepth 20000 in
theorem ggL_law_X6_init_8 : GoodIn wsL_law wsX10 := goodIn_r _ [1108, 1109, 1110, 1111, 1112, 1113, 1114, 1115, 1116] (by decide +kernel) (by decide +kernel)
set_option maxRecDepth 20000 in
theorem ggL_law_X6_init_9 : GoodIn wsL_law wsX50 := goodIn_r _ [1117, 1118, 1119, 1120] (by decide +kernel) (by decide +kernel)
set_option maxRecDepth 20000 in
theorem ggL_law_X6_init_10 : GoodIn wsL_law wsX30 := goodIn_r _ [1121, 1122, 1123, 1124, 1125, 1126, 1127, 1128, 1129, 1130, 1131] (by decide +kernel) (by decide +kernel)
set_option maxRecDepth 20000 in
theorem ggL_law_X6_init_11 : GoodIn wsL_law wsX00 := goodIn_r _ [1132, 1133, 1134, 1135] (by decide +kernel) (by decide +kernel)
set_option maxRecDepth 20000 in
theorem ggL_law_X6_init_12 : GoodIn wsL_law wsX20 := goodIn_r _ [1136] (by decide +kernel) (by decide +kernel)
set_option maxRecDepth 20000 in
theorem ggL_law_X6_init : GoodIn wsL_law wsX6_init := goodIn_app (a := [.code yX6_init cX6_init 2 none]) ggL_law_X6_init_1 (goodIn_app (goodIn_app (goodIn_app (goodIn_app (goodIn_app (goodIn_app (goodIn_app (goodIn_app ggL_law_X6_init_2 (goodIn_app ggL_law_X6_init_3 (goodIn_app ggL_law_X6_init_4 ggL_law_X6_init_5))) ggL_law_X6_init_6) ggL_law_X6_init_7) ggL_law_X6_init_8) ggL_law_X6_init_9) ggL_law_X6_init_10) ggL_law_X6_init_11) ggL_law_X6_init_12)
set_option maxRecDepth 20000 in
theorem gL_law_X6_init : GoodIn wsL_law (wsX6_init) := ggL_law_X6_init
set_option maxRecDepth 20000 in
theorem ggL_law_X7_init : GoodIn wsL_law wsX7_init := goodIn_r _ [86, 87, 10, 11, 88, 89, 90, 17, 91, 92, 93, 94, 95, 96, 97, 98, 99, 100, 101, 102, 103, 104, 105, 106, 1083, 1084, 1085, 1086, 1087, 1088, 1089, 1090, 1091, 1092, 1093, 1094, 1095, 1096, 1097, 1098, 1099, 1100, 1101] (by decide +kernel) (by decide +kernel)
set_option maxRecDepth 20000 in
theorem gL_law_X7_init : GoodIn wsL_law (wsX7_init) := ggL_law_X7_init
set_option maxRecDepth 20000 in
theorem ggL_law_X6_set_1 : GoodIn wsL_law [.code yX6_set cX6_set 4 (some .int)] := goodIn_r _ [110] (by decide +kernel) (by decide +kernel)
set_option maxRecDepth 20000 in
theorem ggL_law_X6_set_2 : GoodIn wsL_law wsX6_set_r1 := goodIn_r _ [111, 112, 113, 15, 114, 115, 116, 2, 117, 118, 119, 120, 121, 122, 123, 32, 124, 49, 125, 126, 127, 128, 129, 16] (by decide +kernel) (by decide +kernel)
set_option maxRecDepth 20000 in
theorem ggL_law_X6_set_3 : GoodIn wsL_law wsX6_set_r2 := goodIn_r _ [130, 131, 132, 133, 14, 134, 33, 37, 41, 43, 44, 45, 135, 136, 137, 138, 139, 140, 141, 142, 143, 144, 145, 146] (by decide +kernel) (by decide +kernel)
set_option maxRecDepth 20000 in
theorem ggL_law_X6_set_4 : GoodIn wsL_law wsX6_set_r3 := goodIn_r _ [147, 148, 149, 150, 151, 152, 36, 153, 53, 154, 155, 156, 157, 158, 159, 160, 161, 54, 162, 163, 164, 165, 166, 167] (by decide +kernel) (by decide +kernel)
set_option maxRecDepth 20000 in
theorem ggL_law_X6_set_5 : GoodIn wsL_law wsX6_set_r4 := goodIn_r _ [168, 169, 55, 170, 171, 172, 173, 174, 175, 176, 177, 56, 178, 179, 180, 181, 182, 183, 184, 40, 185, 61, 186, 187] (by decide +kernel) (by decide +kernel)
set_option maxRecDepth 20000 in
theorem ggL_law_X6_set_6 : GoodIn wsL_law wsX6_set_r5 := goodIn_r _ [188, 25, 189, 83, 71, 72, 190, 191, 68, 192, 193, 194, 195, 196, 197, 198, 199, 200, 201] (by decide +kernel) (by decide +kernel)
set_option maxRecDepth 20000 in
theorem ggL_law_X6_set_7 : GoodIn wsL_law wsX60 := goodIn_r _ [1075, 1076, 1077, 1078, 1079, 1080, 1081, 1082] (by decide +kernel) (by decide +kernel)
set_option maxRecDepth 20000 in
theorem ggL_law_X6_set_8 : GoodIn wsL_law wsX40 := goodIn_r _ [1102, 1103, 1104, 1105, 1106, 1107] (by decide +kernel) (by decide +kernel)
set_option maxRecDepth 20000 in
theorem ggL_law_X6_set_9 : GoodIn wsL_law wsX30 := goodIn_r _ [1121, 1122, 1123, 1124, 1125, 1126, 1127, 1128, 1129, 1130, 1131] (by decide +kernel) (by decide +kernel)
set_option maxRecDepth 20000 in
theorem ggL_law_X6_set_10 : GoodIn wsL_law wsX00 := goodIn_r _ [1132, 1133, 1134, 1135] (by decide +kernel) (by decide +kernel)
set_option maxRecDepth 20000 in
theorem ggL_law_X6_set_11 : GoodIn wsL_law wsX20 := goodIn_r _ [1136] (by decide +kernel) (by decide +kernel)
set_option maxRecDepth 20000 in
theorem ggL_law_X6_set_12 : GoodIn wsL_law wsX50 := goodIn_r _ [1117, 1118, 1119, 1120] (by decide +kernel) (by decide +kernel)
set_option maxRecDepth 20000 in
theorem ggL_law_X6_set : GoodIn wsL_law wsX6_set := goodIn_app (a := [.code yX6_set cX6_set 4 (some .int)]) ggL_law_X6_set_1 (goodIn_app (goodIn_app (goodIn_app (goodIn_app (goodIn_app (goodIn_app (goodIn_app ggL_law_X6_set_2 (goodIn_app ggL_law_X6_set_3 (goodIn_app ggL_law_X6_set_4 (goodIn_app ggL_law_X6_set_5 ggL_law_X6_set_6)))) ggL_law_X6_set_7) ggL_law_X6_set_8) ggL_law_X6_set_9) ggL_law_X6_set_10) ggL_law_X6_set_11) ggL_law_X6_set_12)
set_option maxRecDepth 20000 in
theorem gL_law_X6_set : GoodIn wsL_law (wsV RL 13 RX6 yX6_set wsX6_set) := goodIn_app (goodIn_of _ (by decide +kernel)) ggL_law_X6_set
set_option maxRecDepth 20000 in
theorem ggL_law_X7_set : GoodIn wsL_law wsX7_set := goodIn_r _ [205, 206, 207, 208, 5, 209, 210, 211, 106, 212, 213, 214, 215, 216, 217, 218, 219, 220, 221, 222, 89, 223, 224, 225, 226, 227, 90, 1083, 1084, 1085, 1086, 1087, 1088, 1089, 1090, 1091, 1092, 1093, 1094, 1095, 1096, 1097, 1098, 1099, 1100, 1101] (by decide +kernel) (by decide +kernel)
set_option maxRecDepth 20000 in
theorem gL_law_X7_set : GoodIn wsL_law (wsV RL 17 RX7 yX7_set wsX7_set) := goodIn_app (goodIn_of _ (by decide +kernel)) ggL_law_X7_set
set_option maxRecDepth 20000 in
theorem ggL_law_X6_setting : GoodIn wsL_law wsX6_setting := goodIn_r _ [231, 111, 15, 114, 113, 115, 116, 2, 117, 121, 122, 123, 32, 124, 49, 1075, 1076, 1077, 1078, 1079, 1080, 1081, 1082, 1102, 1103, 1104, 1105, 1106, 1107, 1121, 1122, 1123, 1124, 1125, 1126, 1127, 1128, 1129, 1130, 1131] (by decide +kernel) (by decide +kernel)
set_option maxRecDepth 20000 in
theorem gL_law_X6_setting : GoodIn wsL_law (wsV RL 18 RX6 yX6_setting wsX6_setting) := goodIn_app (goodIn_of _ (by decide +kernel)) ggL_law_X6_setting
set_option maxRecDepth 20000 in
theorem ggL_law_X7_setting : GoodIn wsL_law wsX7_setting := goodIn_r _ [235, 236, 89, 206, 216, 217, 5, 218, 1083, 1084, 1085, 1086, 1087, 1088, 1089, 1090, 1091, 1092, 1093, 1094, 1095, 1096, 1097, 1098, 1099, 1100, 1101] (by decide +kernel) (by decide +kernel)
set_option maxRecDepth 20000 in
theorem gL_law_X7_setting : GoodIn wsL_law (wsV RL 22 RX7 yX7_setting wsX7_setting) := goodIn_app (goodIn_of _ (by decide +kernel)) ggL_law_X7_setting
set_option maxRecDepth 20000 in
theorem ggL_law_X6_load_1 : GoodIn wsL_law [.code yX6_load cX6_load 3 (some .int)] := goodIn_r _ [240] (by decide +kernel) (by decide +kernel)
set_option maxRecDepth 20000 in
theorem ggL_law_X6_load_2 : GoodIn wsL_law wsX6_load_r1 := goodIn_r _ [241, 113, 15, 114, 242, 118, 119, 2, 120, 125, 126, 127, 128, 129, 16, 130, 131, 132, 133, 14, 134, 33, 37, 41] (by decide +kernel) (by decide +kernel)
set_option maxRecDepth 20000 in
theorem ggL_law_X6_load_3 : GoodIn wsL_law wsX6_load_r2 := goodIn_r _ [43, 44, 45, 135, 136, 137, 32, 138, 49, 139, 140, 141, 142, 143, 144, 145, 146, 147, 148, 149, 122, 123, 124, 150] (by decide +kernel) (by decide +kernel)
set_option maxRecDepth 20000 in
theorem ggL_law_X6_load_4 : GoodIn wsL_law wsX6_load_r3 := goodIn_r _ [151, 152, 36, 153, 53, 116, 117, 154, 155, 156, 157, 158, 159, 160, 161, 54, 162, 163, 164, 165, 166, 167, 168, 169] (by decide +kernel) (by decide +kernel)
set_option maxRecDepth 20000 in
theorem ggL_law_X6_load_5 : GoodIn wsL_law wsX6_load_r4 := goodIn_r _ [55, 170, 171, 172, 173, 174, 175, 176, 177, 56, 178, 179, 180, 181, 182, 183, 184, 40, 185, 61, 186, 187, 188, 25] (by decide +kernel) (by decide +kernel)
set_option maxRecDepth 20000 in
theorem ggL_law_X6_load_6 : GoodIn wsL_law wsX6_load_r5 := goodIn_r _ [189, 83, 71, 72, 190, 191, 68, 192, 193, 194, 195, 196, 197, 243, 244, 245, 246] (by decide +kernel) (by decide +kernel)
set_option maxRecDepth 20000 in
theorem ggL_law_X6_load_7 : GoodIn wsL_law wsX60 := goodIn_r _ [1075, 1076, 1077, 1078, 1079, 1080, 1081, 1082] (by decide +kernel) (by decide +kernel)
set_option maxRecDepth 20000 in
theorem ggL_law_X6_load_8 : GoodIn wsL_law wsX40 := goodIn_r _ [1102, 1103, 1104, 1105, 1106, 1107] (by decide +kernel) (by decide +kernel)
set_option maxRecDepth 20000 in
theorem ggL_law_X6_load_9 : GoodIn wsL_law wsX30 := goodIn_r _ [1121, 1122, 1123, 1124, 1125, 1126, 1127, 1128, 1129, 1130, 1131] (by decide +kernel) (by decide +kernel)
set_option maxRecDepth 20000 in
theorem ggL_law_X6_load_10 : GoodIn wsL_law wsX00 := goodIn_r _ [1132, 1133, 1134, 1135] (by decide +kernel) (by decide +kernel)
set_option maxRecDepth 20000 in
theorem ggL_law_X6_load_11 : GoodIn wsL_law wsX20 := goodIn_r _ [1136] (by decide +kernel) (by decide +kernel)
set_option maxRecDepth 20000 in
theorem ggL_law_X6_load_12 : GoodIn wsL_law wsX50 := goodIn_r _ [1117, 1118, 1119, 1120] (by decide +kernel) (by decide +kernel)
set_option maxRecDepth 20000 in
theorem ggL_law_X6_load : GoodIn wsL_law wsX6_load := goodIn_app (a := [.code yX6_load cX6_load 3 (some .int)]) ggL_law_X6_load_1 (goodIn_app (goodIn_app (goodIn_app (goodIn_app (goodIn_app (goodIn_app (goodIn_app ggL_law_X6_load_2 (goodIn_app ggL_law_X6_load_3 (goodIn_app ggL_law_X6_load_4 (goodIn_app ggL_law_X6_load_5 ggL_law_X6_load_6)))) ggL_law_X6_load_7) ggL_law_X6_load_8) ggL_law_X6_load_9) ggL_law_X6_load_10) ggL_law_X6_load_11) ggL_law_X6_load_12)
set_option maxRecDepth 20000 in
theorem gL_law_X6_load : GoodIn wsL_law (wsV RL 23 RX6 yX6_load wsX6_load) := goodIn_app (goodIn_of _ (by decide +kernel)) ggL_law_X6_load
set_option maxRecDepth 20000 in
theorem ggL_law_X7_load : GoodIn wsL_law wsX7_load := goodIn_r _ [250, 251, 206, 89, 216, 217, 5, 218, 219, 220, 221, 222, 223, 224, 225, 226, 227, 90, 1083, 1084, 1085, 1086, 1087, 1088, 1089, 1090, 1091, 1092, 1093, 1094, 1095, 1096, 1097, 1098, 1099, 1100, 1101] (by decide +kernel) (by decide +kernel)
set_option maxRecDepth 20000 in
theorem gL_law_X7_load : GoodIn wsL_law (wsV RL 26 RX7 yX7_load wsX7_load) := goodIn_app (goodIn_of _ (by decide +kernel)) ggL_law_X7_load
set_option maxRecDepth 20000 in
theorem ggL_law_X6_tick_1 : GoodIn wsL_law [.code yX6_tick cX6_tick 3 (some .int)] := goodIn_r _ [255] (by decide +kernel) (by decide +kernel)
set_option maxRecDepth 20000 in
theorem ggL_law_X6_tick_2 : GoodIn wsL_law wsX6_tick_r1 := goodIn_r _ [113, 15, 114, 256, 241, 257, 118, 119, 2, 120, 125, 126, 127, 128, 129, 16, 130, 131, 132, 133, 14, 134, 33, 37] (by decide +kernel) (by decide +kernel)
set_option maxRecDepth 20000 in
theorem ggL_law_X6_tick_3 : GoodIn wsL_law wsX6_tick_r2 := goodIn_r _ [41, 43, 44, 45, 135, 136, 137, 32, 138, 49, 139, 140, 141, 142, 143, 144, 145, 146, 147, 148, 149, 122, 123, 124] (by decide +kernel) (by decide +kernel)
set_option maxRecDepth 20000 in
theorem ggL_law_X6_tick_4 : GoodIn wsL_law wsX6_tick_r3 := goodIn_r _ [150, 151, 152, 36, 153, 53, 116, 117, 154, 155, 156, 157, 158, 159, 160, 161, 54, 162, 163, 164, 165, 166, 167, 168] (by decide +kernel) (by decide +kernel)
set_option maxRecDepth 20000 in
theorem ggL_law_X6_tick_5 : GoodIn wsL_law wsX6_tick_r4 := goodIn_r _ [169, 55, 170, 171, 172, 173, 174, 175, 176, 177, 56, 178, 179, 180, 181, 182, 183, 184, 40, 185, 61, 186, 187, 188] (by decide +kernel) (by decide +kernel)
set_option maxRecDepth 20000 in
theorem ggL_law_X6_tick_6 : GoodIn wsL_law wsX6_tick_r5 := goodIn_r _ [25, 189, 83, 71, 72, 190, 191, 68, 192, 193, 194, 195, 196, 197, 258, 259, 260, 261, 262, 263, 264, 265, 266, 267] (by decide +kernel) (by decide +kernel)
set_option maxRecDepth 20000 in
theorem ggL_law_X6_tick_7 : GoodIn wsL_law wsX6_tick_r6 := goodIn_r _ [268, 269, 270, 271, 272, 273, 274, 275, 276, 277, 278, 279, 280, 281, 282, 283, 284, 285, 286] (by decide +kernel) (by decide +kernel)
set_option maxRecDepth 20000 in
theorem ggL_law_X6_tick_8 : GoodIn wsL_law wsX60 := goodIn_r _ [1075, 1076, 1077, 1078, 1079, 1080, 1081, 1082] (by decide +kernel) (by decide +kernel)
set_option maxRecDepth 20000 in
theorem ggL_law_X6_tick_9 : GoodIn wsL_law wsX40 := goodIn_r _ [1102, 1103, 1104, 1105, 1106, 1107] (by decide +kernel) (by decide +kernel)
set_option maxRecDepth 20000 in
theorem ggL_law_X6_tick_10 : GoodIn wsL_law wsX30 := goodIn_r _ [1121, 1122, 1123, 1124, 1125, 1126, 1127, 1128, 1129, 1130, 1131] (by decide +kernel) (by decide +kernel)
set_option maxRecDepth 20000 in
theorem ggL_law_X6_tick_11 : GoodIn wsL_law wsX00 := goodIn_r _ [1132, 1133, 1134, 1135] (by decide +kernel) (by decide +kernel)
set_option maxRecDepth 20000 in
theorem ggL_law_X6_tick_12 : GoodIn wsL_law wsX20 := goodIn_r _ [1136] (by decide +kernel) (by decide +kernel)
set_option maxRecDepth 20000 in
theorem ggL_law_X6_tick_13 : GoodIn wsL_law wsX50 := goodIn_r _ [1117, 1118, 1119, 1120] (by decide +kernel) (by decide +kernel)
set_option maxRecDepth 20000 in
theorem ggL_law_X6_tick : GoodIn wsL_law wsX6_tick := goodIn_app (a := [.code yX6_tick cX6_tick 3 (some .int)]) ggL_law_X6_tick_1 (goodIn_app (goodIn_app (goodIn_app (goodIn_app (goodIn_app (goodIn_app (goodIn_app ggL_law_X6_tick_2 (goodIn_app ggL_law_X6_tick_3 (goodIn_app ggL_law_X6_tick_4 (goodIn_app ggL_law_X6_tick_5 (goodIn_app ggL_law_X6_tick_6 ggL_law_X6_tick_7))))) ggL_law_X6_tick_8) ggL_law_X6_tick_9) ggL_law_X6_tick_10) ggL_law_X6_tick_11) ggL_law_X6_tick_12) ggL_law_X6_tick_13)
set_option maxRecDepth 20000 in
theorem gL_law_X6_tick : GoodIn wsL_law (wsV RL 27 RX6 yX6_tick wsX6_tick) := goodIn_app (goodIn_of _ (by decide +kernel)) ggL_law_X6_tick
set_option maxRecDepth 20000 in
theorem ggL_law_X7_tick : GoodIn wsL_law wsX7_tick := goodIn_r _ [290, 106, 206, 89, 251, 291, 216, 217, 5, 218, 223, 224, 225, 226, 227, 90, 292, 293, 294, 295, 296, 297, 298, 299, 300, 212, 301, 302, 303, 304, 305, 306, 1083, 1084, 1085, 1086, 1087, 1088, 1089, 1090, 1091, 1092, 1093, 1094, 1095, 1096, 1097, 1098, 1099, 1100, 1101] (by decide +kernel) (by decide +kernel)
set_option maxRecDepth 20000 in
theorem gL_law_X7_tick : GoodIn wsL_law (wsV RL 30 RX7 yX7_tick wsX7_tick) := goodIn_app (goodIn_of _ (by decide +kernel)) ggL_law_X7_tick
set_option maxRecDepth 20000 in
theorem ggL_law_X6_zero_1 : GoodIn wsL_law [.code yX6_zero cX6_zero 3 (some .int)] := goodIn_r _ [310] (by decide +kernel) (by decide +kernel)
set_option maxRecDepth 20000 in
theorem ggL_law_X6_zero_2 : GoodIn wsL_law wsX6_zero_r1 := goodIn_r _ [15, 114, 257, 311, 312, 313, 314, 315, 32, 316, 146, 147, 148, 317, 67, 68, 69, 274, 191, 192, 145, 149, 122, 123] (by decide +kernel) (by decide +kernel)
set_option maxRecDepth 20000 in
theorem ggL_law_X6_zero_3 : GoodIn wsL_law wsX6_zero_r2 := goodIn_r _ [124, 49, 318, 319, 320, 321, 279, 280, 281, 282, 283, 284, 285, 141, 262, 263, 264, 265, 139, 143, 266, 267, 268, 269] (by decide +kernel) (by decide +kernel)
set_option maxRecDepth 20000 in
theorem ggL_law_X6_zero_4 : GoodIn wsL_law wsX6_zero_r3 := goodIn_r _ [125, 126, 127, 2, 128, 129, 16, 130, 131, 132, 133, 14, 134, 33, 37, 41, 43, 44, 45, 135, 136, 137, 138, 140] (by decide +kernel) (by decide +kernel)
set_option maxRecDepth 20000 in
theorem ggL_law_X6_zero_5 : GoodIn wsL_law wsX6_zero_r4 := goodIn_r _ [142, 144, 150, 151, 152, 36, 153, 53, 116, 117, 154, 155, 156, 157, 158, 159, 160, 161, 54, 162, 163, 164, 165, 166] (by decide +kernel) (by decide +kernel)
set_option maxRecDepth 20000 in
theorem ggL_law_X6_zero_6 : GoodIn wsL_law wsX6_zero_r5 := goodIn_r _ [167, 168, 169, 55, 170, 171, 172, 173, 174, 175, 176, 177, 56, 178, 179, 180, 181, 182, 183, 184, 40, 185, 61, 186] (by decide +kernel) (by decide +kernel)
set_option maxRecDepth 20000 in
theorem ggL_law_X6_zero_7 : GoodIn wsL_law wsX6_zero_r6 := goodIn_r _ [187, 188, 25, 189, 83, 71, 72, 190, 193, 194, 195, 196, 197, 286] (by decide +kernel) (by decide +kernel)
set_option maxRecDepth 20000 in
theorem ggL_law_X6_zero_8 : GoodIn wsL_law wsX60 := goodIn_r _ [1075, 1076, 1077, 1078, 1079, 1080, 1081, 1082] (by decide +kernel) (by decide +kernel)
set_option maxRecDepth 20000 in
theorem ggL_law_X6_zero_9 : GoodIn wsL_law wsX40 := goodIn_r _ [1102, 1103, 1104, 1105, 1106, 1107] (by decide +kernel) (by decide +kernel)
set_option maxRecDepth 20000 in
theorem ggL_law_X6_zero_10 : GoodIn wsL_law wsX30 := goodIn_r _ [1121, 1122, 1123, 1124, 1125, 1126, 1127, 1128, 1129, 1130, 1131] (by decide +kernel) (by decide +kernel)
set_option maxRecDepth 20000 in
theorem ggL_law_X6_zero_11 : GoodIn wsL_law wsX00 := goodIn_r _ [1132, 1133, 1134, 1135] (by decide +kernel) (by decide +kernel)
set_option maxRecDepth 20000 in
theorem ggL_law_X6_zero_12 : GoodIn wsL_law wsX20 := goodIn_r _ [1136] (by decide +kernel) (by decide +kernel)
set_option maxRecDepth 20000 in
theorem ggL_law_X6_zero_13 : GoodIn wsL_law wsX50 := goodIn_r _ [1117, 1118, 1119, 1120] (by decide +kernel) (by decide +kernel)
set_option maxRecDepth 20000 in
theorem ggL_law_X6_zero : GoodIn wsL_law wsX6_zero := goodIn_app (a := [.code yX6_zero cX6_zero 3 (some .int)]) ggL_law_X6_zero_1 (goodIn_app (goodIn_app (goodIn_app (goodIn_app (goodIn_app (goodIn_app (goodIn_app ggL_law_X6_zero_2 (goodIn_app ggL_law_X6_zero_3 (goodIn_app ggL_law_X6_zero_4 (goodIn_app ggL_law_X6_zero_5 (goodIn_app ggL_law_X6_zero_6 ggL_law_X6_zero_7))))) ggL_law_X6_zero_8) ggL_law_X6_zero_9) ggL_law_X6_zero_10) ggL_law_X6_zero_11) ggL_law_X6_zero_12) ggL_law_X6_zero_13)
set_option maxRecDepth 20000 in
theorem gL_law_X6_zero : GoodIn wsL_law (wsV RL 31 RX6 yX6_zero wsX6_zero) := goodIn_app (goodIn_of _ (by decide +kernel)) ggL_law_X6_zero
set_option maxRecDepth 20000 in
theorem ggL_law_X7_zero : GoodIn wsL_law wsX7_zero := goodIn_r _ [325, 89, 211, 291, 326, 327, 328, 5, 329, 296, 297, 298, 299, 300, 212, 301, 302, 303, 304, 305, 306, 219, 220, 221, 222, 223, 224, 225, 226, 227, 90, 1083, 1084, 1085, 1086, 1087, 1088, 1089, 1090, 1091, 1092, 1093, 1094, 1095, 1096, 1097, 1098, 1099, 1100, 1101] (by decide +kernel) (by decide +kernel)
set_option maxRecDepth 20000 in
theorem gL_law_X7_zero : GoodIn wsL_law (wsV RL 35 RX7 yX7_zero wsX7_zero) := goodIn_app (goodIn_of _ (by decide +kernel)) ggL_law_X7_zero
set_option maxRecDepth 20000 in
theorem ggL_law_X6_tare_1 : GoodIn wsL_law [.code yX6_tare cX6_tare 2 (some .int)] := goodIn_r _ [333] (by decide +kernel) (by decide +kernel)
set_option maxRecDepth 20000 in
theorem ggL_law_X6_tare_2 : GoodIn wsL_law wsX6_tare_r1 := goodIn_r _ [15, 114, 257, 312, 313, 314, 315, 32, 316, 146, 147, 148, 317, 67, 68, 69, 274, 191, 192, 145, 149, 122, 123, 124] (by decide +kernel) (by decide +kernel)
set_option maxRecDepth 20000 in
theorem ggL_law_X6_tare_3 : GoodIn wsL_law wsX6_tare_r2 := goodIn_r _ [49, 334, 335, 336, 337, 282, 283, 284, 285, 141, 262, 263, 264, 265, 139, 143, 266, 267, 268, 269, 338, 339, 340, 341] (by decide +kernel) (by decide +kernel)
set_option maxRecDepth 20000 in
theorem ggL_law_X6_tare_4 : GoodIn wsL_law wsX6_tare_r3 := goodIn_r _ [125, 126, 127, 2, 128, 129, 16, 130, 131, 132, 133, 14, 134, 33, 37, 41, 43, 44, 45, 135, 136, 137, 138, 140] (by decide +kernel) (by decide +kernel)
set_option maxRecDepth 20000 in
theorem ggL_law_X6_tare_5 : GoodIn wsL_law wsX6_tare_r4 := goodIn_r _ [142, 144, 150, 151, 152, 36, 153, 53, 116, 117, 154, 155, 156, 157, 158, 159, 160, 161, 54, 162, 163, 164, 165, 166] (by decide +kernel) (by decide +kernel)
set_option maxRecDepth 20000 in
theorem ggL_law_X6_tare_6 : GoodIn wsL_law wsX6_tare_r5 := goodIn_r _ [167, 168, 169, 55, 170, 171, 172, 173, 174, 175, 176, 177, 56, 178, 179, 180, 181, 182, 183, 184, 40, 185, 61, 186] (by decide +kernel) (by decide +kernel)
set_option maxRecDepth 20000 in
theorem ggL_law_X6_tare_7 : GoodIn wsL_law wsX6_tare_r6 := goodIn_r _ [187, 188, 25, 189, 83, 71, 72, 190, 193, 194, 195, 196, 197] (by decide +kernel) (by decide +kernel)
set_option maxRecDepth 20000 in
theorem ggL_law_X6_tare_8 : GoodIn wsL_law wsX60 := goodIn_r _ [1075, 1076, 1077, 1078, 1079, 1080, 1081, 1082] (by decide +kernel) (by decide +kernel)
set_option maxRecDepth 20000 in
theorem ggL_law_X6_tare_9 : GoodIn wsL_law wsX40 := goodIn_r _ [1102, 1103, 1104, 1105, 1106, 1107] (by decide +kernel) (by decide +kernel)
set_option maxRecDepth 20000 in
theorem ggL_law_X6_tare_10 : GoodIn wsL_law wsX30 := goodIn_r _ [1121, 1122, 1123, 1124, 1125, 1126, 1127, 1128, 1129, 1130, 1131] (by decide +kernel) (by decide +kernel)
set_option maxRecDepth 20000 in
theorem ggL_law_X6_tare_11 : GoodIn wsL_law wsX00 := goodIn_r _ [1132, 1133, 1134, 1135] (by decide +kernel) (by decide +kernel)
set_option maxRecDepth 20000 in
theorem ggL_law_X6_tare_12 : GoodIn wsL_law wsX20 := goodIn_r _ [1136] (by decide +kernel) (by decide +kernel)
set_option maxRecDepth 20000 in
theorem ggL_law_X6_tare_13 : GoodIn wsL_law wsX50 := goodIn_r _ [1117, 1118, 1119, 1120] (by decide +kernel) (by decide +kernel)
set_option maxRecDepth 20000 in
theorem ggL_law_X6_tare : GoodIn wsL_law wsX6_tare := goodIn_app (a := [.code yX6_tare cX6_tare 2 (some .int)]) ggL_law_X6_tare_1 (goodIn_app (goodIn_app (goodIn_app (goodIn_app (goodIn_app (goodIn_app (goodIn_app ggL_law_X6_tare_2 (goodIn_app ggL_law_X6_tare_3 (goodIn_app ggL_law_X6_tare_4 (goodIn_app ggL_law_X6_tare_5 (goodIn_app ggL_law_X6_tare_6 ggL_law_X6_tare_7))))) ggL_law_X6_tare_8) ggL_law_X6_tare_9) ggL_law_X6_tare_10) ggL_law_X6_tare_11) ggL_law_X6_tare_12) ggL_law_X6_tare_13)
set_option maxRecDepth 20000 in
theorem gL_law_X6_tare : GoodIn wsL_law (wsV RL 36 RX6 yX6_tare wsX6_tare) := goodIn_app (goodIn_of _ (by decide +kernel)) ggL_law_X6_tare
set_option maxRecDepth 20000 in
theorem ggL_law_X7_tare : GoodIn wsL_law wsX7_tare := goodIn_r _ [345, 291, 89, 326, 327, 328, 5, 329, 296, 346, 347, 348, 349, 297, 298, 299, 300, 212, 301, 302, 303, 350, 351, 352, 353, 354, 223, 224, 225, 226, 227, 90, 1083, 1084, 1085, 1086, 1087, 1088, 1089, 1090, 1091, 1092, 1093, 1094, 1095, 1096, 1097, 1098, 1099, 1100, 1101] (by decide +kernel) (by decide +kernel)
set_option maxRecDepth 20000 in
theorem gL_law_X7_tare : GoodIn wsL_law (wsV RL 39 RX7 yX7_tare wsX7_tare) := goodIn_app (goodIn_of _ (by decide +kernel)) ggL_law_X7_tare
set_option maxRecDepth 20000 in
theorem ggL_law_X6_scale_1 : GoodIn wsL_law [.code yX6_scale cX6_scale 2 (some .int)] := goodIn_r _ [358] (by decide +kernel) (by decide +kernel)
set_option maxRecDepth 20000 in
theorem ggL_law_X6_scale_2 : GoodIn wsL_law wsX6_scale_r1 := goodIn_r _ [15, 114, 113, 118, 119, 2, 120, 359, 360, 361, 32, 362, 140, 141, 142, 143, 144, 139, 262, 263, 264, 265, 149, 122] (by decide +kernel) (by decide +kernel)
set_option maxRecDepth 20000 in
theorem ggL_law_X6_scale_3 : GoodIn wsL_law wsX6_scale_r2 := goodIn_r _ [123, 124, 49, 266, 267, 268, 269, 363, 339, 340, 341, 364, 365, 366, 367, 368, 314, 315, 316, 146, 147, 148, 317, 67] (by decide +kernel) (by decide +kernel)
set_option maxRecDepth 20000 in
theorem ggL_law_X6_scale_4 : GoodIn wsL_law wsX6_scale_r3 := goodIn_r _ [68, 69, 274, 191, 192, 145, 369, 335, 336, 337, 282, 283, 284, 285] (by decide +kernel) (by decide +kernel)
set_option maxRecDepth 20000 in
theorem ggL_law_X6_scale_5 : GoodIn wsL_law wsX60 := goodIn_r _ [1075, 1076, 1077, 1078, 1079, 1080, 1081, 1082] (by decide +kernel) (by decide +kernel)
set_option maxRecDepth 20000 in
theorem ggL_law_X6_scale_6 : GoodIn wsL_law wsX40 := goodIn_r _ [1102, 1103, 1104, 1105, 1106, 1107] (by decide +kernel) (by decide +kernel)
set_option maxRecDepth 20000 in
theorem ggL_law_X6_scale_7 : GoodIn wsL_law wsX30 := goodIn_r _ [1121, 1122, 1123, 1124, 1125, 1126, 1127, 1128, 1129, 1130, 1131] (by decide +kernel) (by decide +kernel)
set_option maxRecDepth 20000 in
theorem ggL_law_X6_scale : GoodIn wsL_law wsX6_scale := goodIn_app (a := [.code yX6_scale cX6_scale 2 (some .int)]) ggL_law_X6_scale_1 (goodIn_app (goodIn_app (goodIn_app (goodIn_app ggL_law_X6_scale_2 (goodIn_app ggL_law_X6_scale_3 ggL_law_X6_scale_4)) ggL_law_X6_scale_5) ggL_law_X6_scale_6) ggL_law_X6_scale_7)
set_option maxRecDepth 20000 in
theorem gL_law_X6_scale : GoodIn wsL_law (wsV RL 40 RX6 yX6_scale wsX6_scale) := goodIn_app (goodIn_of _ (by decide +kernel)) ggL_law_X6_scale
set_option maxRecDepth 20000 in
theorem ggL_law_X7_scale : GoodIn wsL_law wsX7_scale := goodIn_r _ [373, 102, 206, 216, 217, 5, 218, 374, 375, 376, 377, 89, 297, 298, 299, 300, 212, 301, 302, 303, 350, 351, 352, 353, 354, 326, 327, 328, 329, 296, 346, 347, 348, 349, 1083, 1084, 1085, 1086, 1087, 1088, 1089, 1090, 1091, 1092, 1093, 1094, 1095, 1096, 1097, 1098, 1099, 1100, 1101] (by decide +kernel) (by decide +kernel)
set_option maxRecDepth 20000 in
theorem gL_law_X7_scale : GoodIn wsL_law (wsV RL 43 RX7 yX7_scale wsX7_scale) := goodIn_app (goodIn_of _ (by decide +kernel)) ggL_law_X7_scale
set_option maxRecDepth 20000 in
theorem ggL_law_X6_band_1 : GoodIn wsL_law [.code yX6_band cX6_band 7 (some .int)] := goodIn_r _ [381] (by decide +kernel) (by decide +kernel)
set_option maxRecDepth 20000 in
theorem ggL_law_X6_band_2 : GoodIn wsL_law wsX6_band_r1 := goodIn_r _ [241, 113, 15, 382, 383, 384, 385, 2, 386, 118, 119, 120, 387, 388, 389, 36, 390, 154, 155, 156, 157, 53, 116, 117] (by decide +kernel) (by decide +kernel)
set_option maxRecDepth 20000 in
theorem ggL_law_X6_band_3 : GoodIn wsL_law wsX6_band_r2 := goodIn_r _ [158, 159, 160, 161, 54, 162, 163, 164, 165, 391, 392, 393, 125, 126, 127, 128, 129, 16, 130, 131, 132, 133, 14, 134] (by decide +kernel) (by decide +kernel)
set_option maxRecDepth 20000 in
theorem ggL_law_X6_band_4 : GoodIn wsL_law wsX6_band_r3 := goodIn_r _ [33, 37, 41, 43, 44, 45, 135, 136, 137, 32, 138, 49, 139, 140, 141, 142, 143, 144, 145, 146, 147, 148, 149, 122] (by decide +kernel) (by decide +kernel)
set_option maxRecDepth 20000 in
theorem ggL_law_X6_band_5 : GoodIn wsL_law wsX6_band_r4 := goodIn_r _ [123, 124, 150, 151, 152, 153, 166, 167, 168, 169, 55, 170, 171, 172, 173, 174, 175, 176, 177, 56, 178, 179, 180, 181] (by decide +kernel) (by decide +kernel)
set_option maxRecDepth 20000 in
theorem ggL_law_X6_band_6 : GoodIn wsL_law wsX6_band_r5 := goodIn_r _ [182, 183, 184, 40, 185, 61, 186, 187, 188, 25, 189, 83, 71, 72, 190, 191, 68, 192, 193, 194, 195, 196, 197, 394] (by decide +kernel) (by decide +kernel)
set_option maxRecDepth 20000 in
theorem ggL_law_X6_band_7 : GoodIn wsL_law wsX6_band_r6 := goodIn_r _ [395, 396, 397, 398] (by decide +kernel) (by decide +kernel)
set_option maxRecDepth 20000 in
theorem ggL_law_X6_band_8 : GoodIn wsL_law wsX60 := goodIn_r _ [1075, 1076, 1077, 1078, 1079, 1080, 1081, 1082] (by decide +kernel) (by decide +kernel)
set_option maxRecDepth 20000 in
theorem ggL_law_X6_band_9 : GoodIn wsL_law wsX40 := goodIn_r _ [1102, 1103, 1104, 1105, 1106, 1107] (by decide +kernel) (by decide +kernel)
set_option maxRecDepth 20000 in
theorem ggL_law_X6_band_10 : GoodIn wsL_law wsX00 := goodIn_r _ [1132, 1133, 1134, 1135] (by decide +kernel) (by decide +kernel)
set_option maxRecDepth 20000 in
theorem ggL_law_X6_band_11 : GoodIn wsL_law wsX30 := goodIn_r _ [1121, 1122, 1123, 1124, 1125, 1126, 1127, 1128, 1129, 1130, 1131] (by decide +kernel) (by decide +kernel)
set_option maxRecDepth 20000 in
theorem ggL_law_X6_band_12 : GoodIn wsL_law wsX20 := goodIn_r _ [1136] (by decide +kernel) (by decide +kernel)
set_option maxRecDepth 20000 in
theorem ggL_law_X6_band_13 : GoodIn wsL_law wsX50 := goodIn_r _ [1117, 1118, 1119, 1120] (by decide +kernel) (by decide +kernel)
set_option maxRecDepth 20000 in
theorem ggL_law_X6_band : GoodIn wsL_law wsX6_band := goodIn_app (a := [.code yX6_band cX6_band 7 (some .int)]) ggL_law_X6_band_1 (goodIn_app (goodIn_app (goodIn_app (goodIn_app (goodIn_app (goodIn_app (goodIn_app ggL_law_X6_band_2 (goodIn_app ggL_law_X6_band_3 (goodIn_app ggL_law_X6_band_4 (goodIn_app ggL_law_X6_band_5 (goodIn_app ggL_law_X6_band_6 ggL_law_X6_band_7))))) ggL_law_X6_band_8) ggL_law_X6_band_9) ggL_law_X6_band_10) ggL_law_X6_band_11) ggL_law_X6_band_12) ggL_law_X6_band_13)
set_option maxRecDepth 20000 in
theorem gL_law_X6_band : GoodIn wsL_law (wsV RL 44 RX6 yX6_band wsX6_band) := goodIn_app (goodIn_of _ (by decide +kernel)) ggL_law_X6_band
set_option maxRecDepth 20000 in
theorem ggL_law_X7_band : GoodIn wsL_law wsX7_band := goodIn_r _ [402, 251, 206, 89, 403, 404, 405, 5, 406, 296, 216, 217, 218, 407, 408, 409, 410, 411, 412, 413, 223, 224, 225, 226, 227, 90, 1083, 1084, 1085, 1086, 1087, 1088, 1089, 1090, 1091, 1092, 1093, 1094, 1095, 1096, 1097, 1098, 1099, 1100, 1101] (by decide +kernel) (by decide +kernel)
set_option maxRecDepth 20000 in
theorem gL_law_X7_band : GoodIn wsL_law (wsV RL 48 RX7 yX7_band wsX7_band) := goodIn_app (goodIn_of _ (by decide +kernel)) ggL_law_X7_band
set_option maxRecDepth 20000 in
theorem ggL_law_X6_unband_1 : GoodIn wsL_law [.code yX6_unband cX6_unband 3 (some .int)] := goodIn_r _ [417] (by decide +kernel) (by decide +kernel)
set_option maxRecDepth 20000 in
theorem ggL_law_X6_unband_2 : GoodIn wsL_law wsX6_unband_r1 := goodIn_r _ [15, 382, 113, 391, 163, 164, 36, 165, 53, 125, 126, 127, 2, 128, 129, 16, 130, 131, 132, 133, 14, 134, 33, 37] (by decide +kernel) (by decide +kernel)
set_option maxRecDepth 20000 in
theorem ggL_law_X6_unband_3 : GoodIn wsL_law wsX6_unband_r2 := goodIn_r _ [41, 43, 44, 45, 135, 136, 137, 32, 138, 49, 139, 140, 141, 142, 143, 144, 145, 146, 147, 148, 149, 122, 123, 124] (by decide +kernel) (by decide +kernel)
set_option maxRecDepth 20000 in
theorem ggL_law_X6_unband_4 : GoodIn wsL_law wsX6_unband_r3 := goodIn_r _ [150, 151, 152, 153, 116, 117, 154, 155, 156, 157, 158, 159, 160, 161, 54, 162, 166, 167, 168, 169, 55, 170, 171, 172] (by decide +kernel) (by decide +kernel)
set_option maxRecDepth 20000 in
theorem ggL_law_X6_unband_5 : GoodIn wsL_law wsX6_unband_r4 := goodIn_r _ [173, 174, 175, 176, 177, 56, 178, 179, 180, 181, 182, 183, 184, 40, 185, 61, 186, 187, 188, 25, 189, 83, 71, 72] (by decide +kernel) (by decide +kernel)
set_option maxRecDepth 20000 in
theorem ggL_law_X6_unband_6 : GoodIn wsL_law wsX6_unband_r5 := goodIn_r _ [190, 191, 68, 192, 193, 194, 195, 196, 197, 418, 419, 420, 421, 393] (by decide +kernel) (by decide +kernel)
set_option maxRecDepth 20000 in
theorem ggL_law_X6_unband_7 : GoodIn wsL_law wsX60 := goodIn_r _ [1075, 1076, 1077, 1078, 1079, 1080, 1081, 1082] (by decide +kernel) (by decide +kernel)
set_option maxRecDepth 20000 in
theorem ggL_law_X6_unband_8 : GoodIn wsL_law wsX40 := goodIn_r _ [1102, 1103, 1104, 1105, 1106, 1107] (by decide +kernel) (by decide +kernel)
set_option maxRecDepth 20000 in
theorem ggL_law_X6_unband_9 : GoodIn wsL_law wsX00 := goodIn_r _ [1132, 1133, 1134, 1135] (by decide +kernel) (by decide +kernel)
set_option maxRecDepth 20000 in
theorem ggL_law_X6_unband_10 : GoodIn wsL_law wsX30 := goodIn_r _ [1121, 1122, 1123, 1124, 1125, 1126, 1127, 1128, 1129, 1130, 1131] (by decide +kernel) (by decide +kernel)
set_option maxRecDepth 20000 in
theorem ggL_law_X6_unband_11 : GoodIn wsL_law wsX20 := goodIn_r _ [1136] (by decide +kernel) (by decide +kernel)
set_option maxRecDepth 20000 in
theorem ggL_law_X6_unband_12 : GoodIn wsL_law wsX50 := goodIn_r _ [1117, 1118, 1119, 1120] (by decide +kernel) (by decide +kernel)
set_option maxRecDepth 20000 in
theorem ggL_law_X6_unband : GoodIn wsL_law wsX6_unband := goodIn_app (a := [.code yX6_unband cX6_unband 3 (some .int)]) ggL_law_X6_unband_1 (goodIn_app (goodIn_app (goodIn_app (goodIn_app (goodIn_app (goodIn_app (goodIn_app ggL_law_X6_unband_2 (goodIn_app ggL_law_X6_unband_3 (goodIn_app ggL_law_X6_unband_4 (goodIn_app ggL_law_X6_unband_5 ggL_law_X6_unband_6)))) ggL_law_X6_unband_7) ggL_law_X6_unband_8) ggL_law_X6_unband_9) ggL_law_X6_unband_10) ggL_law_X6_unband_11) ggL_law_X6_unband_12)
set_option maxRecDepth 20000 in
theorem gL_law_X6_unband : GoodIn wsL_law (wsV RL 49 RX6 yX6_unband wsX6_unband) := goodIn_app (goodIn_of _ (by decide +kernel)) ggL_law_X6_unband
set_option maxRecDepth 20000 in
theorem ggL_law_X7_unband : GoodIn wsL_law wsX7_unband := goodIn_r _ [425, 206, 89, 404, 405, 5, 406, 296, 216, 217, 218, 407, 408, 409, 410, 223, 224, 225, 226, 227, 90, 411, 412, 413, 1083, 1084, 1085, 1086, 1087, 1088, 1089, 1090, 1091, 1092, 1093, 1094, 1095, 1096, 1097, 1098, 1099, 1100, 1101] (by decide +kernel) (by decide +kernel)
set_option maxRecDepth 20000 in
theorem gL_law_X7_unband : GoodIn wsL_law (wsV RL 52 RX7 yX7_unband wsX7_unband) := goodIn_app (goodIn_of _ (by decide +kernel)) ggL_law_X7_unband
set_option maxRecDepth 20000 in
theorem ggL_law_X6_bandAt : GoodIn wsL_law wsX6_bandAt := goodIn_r _ [429, 15, 382, 113, 391, 163, 164, 36, 165, 53, 118, 119, 2, 120, 392, 159, 160, 161, 54, 162, 116, 117, 430, 167, 168, 169, 55, 1075, 1076, 1077, 1078, 1079, 1080, 1081, 1082, 1102, 1103, 1104, 1105, 1106, 1107, 1132, 1133, 1134, 1135] (by decide +kernel) (by decide +kernel)
set_option maxRecDepth 20000 in
theorem gL_law_X6_bandAt : GoodIn wsL_law (wsV RL 53 RX6 yX6_bandAt wsX6_bandAt) := goodIn_app (goodIn_of _ (by decide +kernel)) ggL_law_X6_bandAt
set_option maxRecDepth 20000 in
theorem ggL_law_X7_bandAt : GoodIn wsL_law wsX7_bandAt := goodIn_r _ [434, 89, 206, 404, 405, 5, 406, 296, 216, 217, 218, 407, 408, 409, 410, 411, 412, 413, 1083, 1084, 1085, 1086, 1087, 1088, 1089, 1090, 1091, 1092, 1093, 1094, 1095, 1096, 1097, 1098, 1099, 1100, 1101] (by decide +kernel) (by decide +kernel)
set_option maxRecDepth 20000 in
theorem gL_law_X7_bandAt : GoodIn wsL_law (wsV RL 56 RX7 yX7_bandAt wsX7_bandAt) := goodIn_app (goodIn_of _ (by decide +kernel)) ggL_law_X7_bandAt
set_option maxRecDepth 20000 in
theorem ggL_law_X6_setExtra_1 : GoodIn wsL_law [.code yX6_setExtra cX6_setExtra 4 (some .int)] := goodIn_r _ [438] (by decide +kernel) (by decide +kernel)
set_option maxRecDepth 20000 in
theorem ggL_law_X6_setExtra_2 : GoodIn wsL_law wsX6_setExtra_r1 := goodIn_r _ [113, 15, 382, 384, 385, 2, 386, 118, 119, 120, 439, 175, 176, 36, 177, 56, 116, 117, 125, 126, 127, 128, 129, 16] (by decide +kernel) (by decide +kernel)
set_option maxRecDepth 20000 in
theorem ggL_law_X6_setExtra_3 : GoodIn wsL_law wsX6_setExtra_r2 := goodIn_r _ [130, 131, 132, 133, 14, 134, 33, 37, 41, 43, 44, 45, 135, 136, 137, 32, 138, 49, 139, 140, 141, 142, 143, 144] (by decide +kernel) (by decide +kernel)
set_option maxRecDepth 20000 in
theorem ggL_law_X6_setExtra_4 : GoodIn wsL_law wsX6_setExtra_r3 := goodIn_r _ [145, 146, 147, 148, 149, 122, 123, 124, 150, 151, 152, 153, 53, 154, 155, 156, 157, 158, 159, 160, 161, 54, 162, 163] (by decide +kernel) (by decide +kernel)
set_option maxRecDepth 20000 in
theorem ggL_law_X6_setExtra_5 : GoodIn wsL_law wsX6_setExtra_r4 := goodIn_r _ [164, 165, 166, 167, 168, 169, 55, 170, 171, 172, 173, 174, 178, 179, 180, 181, 182, 183, 184, 40, 185, 61, 186, 187] (by decide +kernel) (by decide +kernel)
set_option maxRecDepth 20000 in
theorem ggL_law_X6_setExtra_6 : GoodIn wsL_law wsX6_setExtra_r5 := goodIn_r _ [188, 25, 189, 83, 71, 72, 190, 191, 68, 192, 193, 194, 195, 196, 197, 440] (by decide +kernel) (by decide +kernel)
set_option maxRecDepth 20000 in
theorem ggL_law_X6_setExtra_7 : GoodIn wsL_law wsX60 := goodIn_r _ [1075, 1076, 1077, 1078, 1079, 1080, 1081, 1082] (by decide +kernel) (by decide +kernel)
set_option maxRecDepth 20000 in
theorem ggL_law_X6_setExtra_8 : GoodIn wsL_law wsX40 := goodIn_r _ [1102, 1103, 1104, 1105, 1106, 1107] (by decide +kernel) (by decide +kernel)
set_option maxRecDepth 20000 in
theorem ggL_law_X6_setExtra_9 : GoodIn wsL_law wsX00 := goodIn_r _ [1132, 1133, 1134, 1135] (by decide +kernel) (by decide +kernel)
set_option maxRecDepth 20000 in
theorem ggL_law_X6_setExtra_10 : GoodIn wsL_law wsX30 := goodIn_r _ [1121, 1122, 1123, 1124, 1125, 1126, 1127, 1128, 1129, 1130, 1131] (by decide +kernel) (by decide +kernel)
set_option maxRecDepth 20000 in
theorem ggL_law_X6_setExtra_11 : GoodIn wsL_law wsX20 := goodIn_r _ [1136] (by decide +kernel) (by decide +kernel)
set_option maxRecDepth 20000 in
theorem ggL_law_X6_setExtra_12 : GoodIn wsL_law wsX50 := goodIn_r _ [1117, 1118, 1119, 1120] (by decide +kernel) (by decide +kernel)
set_option maxRecDepth 20000 in
theorem ggL_law_X6_setExtra : GoodIn wsL_law wsX6_setExtra := goodIn_app (a := [.code yX6_setExtra cX6_setExtra 4 (some .int)]) ggL_law_X6_setExtra_1 (goodIn_app (goodIn_app (goodIn_app (goodIn_app (goodIn_app (goodIn_app (goodIn_app ggL_law_X6_setExtra_2 (goodIn_app ggL_law_X6_setExtra_3 (goodIn_app ggL_law_X6_setExtra_4 (goodIn_app ggL_law_X6_setExtra_5 ggL_law_X6_setExtra_6)))) ggL_law_X6_setExtra_7) ggL_law_X6_setExtra_8) ggL_law_X6_setExtra_9) ggL_law_X6_setExtra_10) ggL_law_X6_setExtra_11) ggL_law_X6_setExtra_12)
set_option maxRecDepth 20000 in
theorem gL_law_X6_setExtra : GoodIn wsL_law (wsV RL 57 RX6 yX6_setExtra wsX6_setExtra) := goodIn_app (goodIn_of _ (by decide +kernel)) ggL_law_X6_setExtra
set_option maxRecDepth 20000 in
theorem ggL_law_X7_setExtra : GoodIn wsL_law wsX7_setExtra := goodIn_r _ [444, 445, 206, 404, 405, 5, 406, 296, 216, 217, 218, 219, 220, 221, 222, 89, 223, 224, 225, 226, 227, 90, 1083, 1084, 1085, 1086, 1087, 1088, 1089, 1090, 1091, 1092, 1093, 1094, 1095, 1096, 1097, 1098, 1099, 1100, 1101] (by decide +kernel) (by decide +kernel)
set_option maxRecDepth 20000 in
theorem gL_law_X7_setExtra : GoodIn wsL_law (wsV RL 60 RX7 yX7_setExtra wsX7_setExtra) := goodIn_app (goodIn_of _ (by decide +kernel)) ggL_law_X7_setExtra
set_option maxRecDepth 20000 in
theorem ggL_law_X6_type : GoodIn wsL_law wsX6_type := goodIn_r _ [449, 113, 450, 18, 383, 118, 119, 2, 120, 1075, 1076, 1077, 1078, 1079, 1080, 1081, 1082] (by decide +kernel) (by decide +kernel)
set_option maxRecDepth 20000 in
theorem gL_law_X6_type : GoodIn wsL_law (wsV RL 61 RX6 yX6_type wsX6_type) := goodIn_app (goodIn_of _ (by decide +kernel)) ggL_law_X6_type
set_option maxRecDepth 20000 in
theorem ggL_law_X7_type : GoodIn wsL_law wsX7_type := goodIn_r _ [454, 455, 456, 206, 457, 403, 91, 216, 217, 5, 218, 1083, 1084, 1085, 1086, 1087, 1088, 1089, 1090, 1091, 1092, 1093, 1094, 1095, 1096, 1097, 1098, 1099, 1100, 1101] (by decide +kernel) (by decide +kernel)
set_option maxRecDepth 20000 in
theorem gL_law_X7_type : GoodIn wsL_law (wsV RL 64 RX7 yX7_type wsX7_type) := goodIn_app (goodIn_of _ (by decide +kernel)) ggL_law_X7_type
set_option maxRecDepth 20000 in
theorem ggL_law_X6_clear : GoodIn wsL_law wsX6_clear := goodIn_r _ [461, 450, 1075, 1076, 1077, 1078, 1079, 1080, 1081, 1082] (by decide +kernel) (by decide +kernel)
set_option maxRecDepth 20000 in
theorem gL_law_X6_clear : GoodIn wsL_law (wsV RL 65 RX6 yX6_clear wsX6_clear) := goodIn_app (goodIn_of _ (by decide +kernel)) ggL_law_X6_clear
set_option maxRecDepth 20000 in
theorem ggL_law_X7_clear : GoodIn wsL_law wsX7_clear := goodIn_r _ [465, 457, 1083, 1084, 1085, 1086, 1087, 1088, 1089, 1090, 1091, 1092, 1093, 1094, 1095, 1096, 1097, 1098, 1099, 1100, 1101] (by decide +kernel) (by decide +kernel)
set_option maxRecDepth 20000 in
theorem gL_law_X7_clear : GoodIn wsL_law (wsV RL 68 RX7 yX7_clear wsX7_clear) := goodIn_app (goodIn_of _ (by decide +kernel)) ggL_law_X7_clear
