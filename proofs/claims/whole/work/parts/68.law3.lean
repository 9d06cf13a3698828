set_option maxRecDepth 20000 in
theorem ggL_law_X6_rule_1 : GoodIn wsL_law [.code yX6_rule cX6_rule 2 (some .int)] := goodIn_r _ [469] (by decide +kernel) (by decide +kernel)
set_option maxRecDepth 20000 in
theorem ggL_law_X6_rule_2 : GoodIn wsL_law wsX6_rule_r1 := goodIn_r _ [450, 22, 15, 470, 383, 471, 472, 473, 2, 474, 18, 475, 476, 477, 21, 478, 479, 480, 481, 482, 483, 484, 485, 486] (by decide +kernel) (by decide +kernel)
set_option maxRecDepth 20000 in
theorem ggL_law_X6_rule_3 : GoodIn wsL_law wsX6_rule_r2 := goodIn_r _ [487, 488, 489, 490, 491, 492, 493, 494, 77, 116, 117, 495, 496, 497, 498, 499, 500, 501, 502, 503, 504, 505, 506, 507] (by decide +kernel) (by decide +kernel)
set_option maxRecDepth 20000 in
theorem ggL_law_X6_rule_4 : GoodIn wsL_law wsX6_rule_r3 := goodIn_r _ [508, 509, 510, 511, 512, 513, 514, 515, 516, 517, 518, 519, 520, 521, 522, 523, 67, 68, 69, 524, 191, 192, 525, 526] (by decide +kernel) (by decide +kernel)
set_option maxRecDepth 20000 in
theorem ggL_law_X6_rule_5 : GoodIn wsL_law wsX6_rule_r4 := goodIn_r _ [527, 528, 529, 530, 531, 532, 533, 534, 535, 536, 537, 538, 539, 540, 541, 542, 543, 544, 545, 546, 547, 548, 549, 550] (by decide +kernel) (by decide +kernel)
set_option maxRecDepth 20000 in
theorem ggL_law_X6_rule_6 : GoodIn wsL_law wsX6_rule_r5 := goodIn_r _ [551, 552, 553, 554, 555, 556, 557, 558, 559, 560, 561, 562, 563, 564, 565, 566, 567, 568, 569, 570, 571, 572, 573, 574] (by decide +kernel) (by decide +kernel)
set_option maxRecDepth 20000 in
theorem ggL_law_X6_rule_7 : GoodIn wsL_law wsX6_rule_r6 := goodIn_r _ [575, 576, 577, 578, 579, 580, 581, 582, 583, 584, 585, 586, 587, 588, 589, 590, 591, 592, 593, 594, 595, 596, 597, 598] (by decide +kernel) (by decide +kernel)
set_option maxRecDepth 20000 in
theorem ggL_law_X6_rule_8 : GoodIn wsL_law wsX6_rule_r7 := goodIn_r _ [599, 600, 601, 602, 603, 604, 605, 606, 607, 608, 609, 610, 611, 612, 613, 614, 40, 615, 61, 616, 125, 126, 127, 128] (by decide +kernel) (by decide +kernel)
set_option maxRecDepth 20000 in
theorem ggL_law_X6_rule_9 : GoodIn wsL_law wsX6_rule_r8 := goodIn_r _ [129, 16, 130, 131, 132, 133, 14, 134, 33, 37, 41, 43, 44, 45, 135, 136, 137, 32, 138, 49, 139, 140, 141, 142] (by decide +kernel) (by decide +kernel)
set_option maxRecDepth 20000 in
theorem ggL_law_X6_rule_10 : GoodIn wsL_law wsX6_rule_r9 := goodIn_r _ [143, 144, 145, 146, 147, 148, 149, 122, 123, 124, 150, 151, 152, 36, 153, 53, 154, 155, 156, 157, 158, 159, 160, 161] (by decide +kernel) (by decide +kernel)
set_option maxRecDepth 20000 in
theorem ggL_law_X6_rule_11 : GoodIn wsL_law wsX6_rule_r10 := goodIn_r _ [54, 162, 163, 164, 165, 166, 167, 168, 169, 55, 170, 171, 172, 173, 174, 175, 176, 177, 56, 178, 179, 180, 181, 182] (by decide +kernel) (by decide +kernel)
set_option maxRecDepth 20000 in
theorem ggL_law_X6_rule_12 : GoodIn wsL_law wsX6_rule_r11 := goodIn_r _ [183, 184, 185, 186, 187, 188, 25, 189, 83, 71, 72, 190, 193, 194, 195, 196, 197, 617, 618, 619, 620, 621, 622, 623] (by decide +kernel) (by decide +kernel)
set_option maxRecDepth 20000 in
theorem ggL_law_X6_rule_13 : GoodIn wsL_law wsX6_rule_r12 := goodIn_r _ [624, 80, 81, 82, 70, 625, 626, 627, 628, 629, 630, 631, 632] (by decide +kernel) (by decide +kernel)
set_option maxRecDepth 20000 in
theorem ggL_law_X6_rule_14 : GoodIn wsL_law wsX60 := goodIn_r _ [1075, 1076, 1077, 1078, 1079, 1080, 1081, 1082] (by decide +kernel) (by decide +kernel)
set_option maxRecDepth 20000 in
theorem ggL_law_X6_rule_15 : GoodIn wsL_law wsX40 := goodIn_r _ [1102, 1103, 1104, 1105, 1106, 1107] (by decide +kernel) (by decide +kernel)
set_option maxRecDepth 20000 in
theorem ggL_law_X6_rule_16 : GoodIn wsL_law wsX10 := goodIn_r _ [1108, 1109, 1110, 1111, 1112, 1113, 1114, 1115, 1116] (by decide +kernel) (by decide +kernel)
set_option maxRecDepth 20000 in
theorem ggL_law_X6_rule_17 : GoodIn wsL_law wsX20 := goodIn_r _ [1136] (by decide +kernel) (by decide +kernel)
set_option maxRecDepth 20000 in
theorem ggL_law_X6_rule_18 : GoodIn wsL_law wsX50 := goodIn_r _ [1117, 1118, 1119, 1120] (by decide +kernel) (by decide +kernel)
set_option maxRecDepth 20000 in
theorem ggL_law_X6_rule_19 : GoodIn wsL_law wsX30 := goodIn_r _ [1121, 1122, 1123, 1124, 1125, 1126, 1127, 1128, 1129, 1130, 1131] (by decide +kernel) (by decide +kernel)
set_option maxRecDepth 20000 in
theorem ggL_law_X6_rule_20 : GoodIn wsL_law wsX00 := goodIn_r _ [1132, 1133, 1134, 1135] (by decide +kernel) (by decide +kernel)
set_option maxRecDepth 20000 in
theorem ggL_law_X6_rule : GoodIn wsL_law wsX6_rule := goodIn_app (a := [.code yX6_rule cX6_rule 2 (some .int)]) ggL_law_X6_rule_1 (goodIn_app (goodIn_app (goodIn_app (goodIn_app (goodIn_app (goodIn_app (goodIn_app (goodIn_app ggL_law_X6_rule_2 (goodIn_app ggL_law_X6_rule_3 (goodIn_app ggL_law_X6_rule_4 (goodIn_app ggL_law_X6_rule_5 (goodIn_app ggL_law_X6_rule_6 (goodIn_app ggL_law_X6_rule_7 (goodIn_app ggL_law_X6_rule_8 (goodIn_app ggL_law_X6_rule_9 (goodIn_app ggL_law_X6_rule_10 (goodIn_app ggL_law_X6_rule_11 (goodIn_app ggL_law_X6_rule_12 ggL_law_X6_rule_13))))))))))) ggL_law_X6_rule_14) ggL_law_X6_rule_15) ggL_law_X6_rule_16) ggL_law_X6_rule_17) ggL_law_X6_rule_18) ggL_law_X6_rule_19) ggL_law_X6_rule_20)
set_option maxRecDepth 20000 in
theorem gL_law_X6_rule : GoodIn wsL_law (wsV RL 69 RX6 yX6_rule wsX6_rule) := goodIn_app (goodIn_of _ (by decide +kernel)) ggL_law_X6_rule
set_option maxRecDepth 20000 in
theorem ggL_law_X7_rule_1 : GoodIn wsL_law [.code yX7_rule cX7_rule 3 (some .int)] := goodIn_r _ [636] (by decide +kernel) (by decide +kernel)
set_option maxRecDepth 20000 in
theorem ggL_law_X7_rule_2 : GoodIn wsL_law wsX7_rule_r1 := goodIn_r _ [457, 637, 92, 91, 638, 89, 639, 403, 640, 641, 642, 5, 643, 644, 94, 645, 97, 95, 96, 646, 647, 648, 649, 650] (by decide +kernel) (by decide +kernel)
set_option maxRecDepth 20000 in
theorem ggL_law_X7_rule_3 : GoodIn wsL_law wsX7_rule_r2 := goodIn_r _ [651, 652, 653, 654, 655, 656, 657, 658, 659, 660, 661, 662, 216, 217, 218, 663, 664, 665, 666, 93, 667, 668, 669, 670] (by decide +kernel) (by decide +kernel)
set_option maxRecDepth 20000 in
theorem ggL_law_X7_rule_4 : GoodIn wsL_law wsX7_rule_r3 := goodIn_r _ [671, 672, 673, 674, 675, 676, 677, 678, 223, 224, 225, 226, 227, 90] (by decide +kernel) (by decide +kernel)
set_option maxRecDepth 20000 in
theorem ggL_law_X7_rule_5 : GoodIn wsL_law wsX70 := goodIn_r _ [1083, 1084, 1085, 1086, 1087, 1088, 1089, 1090, 1091, 1092, 1093, 1094, 1095, 1096, 1097, 1098, 1099, 1100, 1101] (by decide +kernel) (by decide +kernel)
set_option maxRecDepth 20000 in
theorem ggL_law_X7_rule : GoodIn wsL_law wsX7_rule := goodIn_app (a := [.code yX7_rule cX7_rule 3 (some .int)]) ggL_law_X7_rule_1 (goodIn_app (goodIn_app ggL_law_X7_rule_2 (goodIn_app ggL_law_X7_rule_3 ggL_law_X7_rule_4)) ggL_law_X7_rule_5)
set_option maxRecDepth 20000 in
theorem gL_law_X7_rule : GoodIn wsL_law (wsV RL 72 RX7 yX7_rule wsX7_rule) := goodIn_app (goodIn_of _ (by decide +kernel)) ggL_law_X7_rule
set_option maxRecDepth 20000 in
theorem ggL_law_X6_unrule_1 : GoodIn wsL_law [.code yX6_unrule cX6_unrule 1 (some .int)] := goodIn_r _ [682] (by decide +kernel) (by decide +kernel)
set_option maxRecDepth 20000 in
theorem ggL_law_X6_unrule_2 : GoodIn wsL_law wsX6_unrule_r1 := goodIn_r _ [15, 470, 257, 612, 613, 614, 40, 615, 61, 616, 125, 126, 127, 2, 128, 129, 16, 130, 131, 132, 133, 14, 134, 33] (by decide +kernel) (by decide +kernel)
set_option maxRecDepth 20000 in
theorem ggL_law_X6_unrule_3 : GoodIn wsL_law wsX6_unrule_r2 := goodIn_r _ [37, 41, 43, 44, 45, 135, 136, 137, 32, 138, 49, 139, 140, 141, 142, 143, 144, 145, 146, 147, 148, 149, 122, 123] (by decide +kernel) (by decide +kernel)
set_option maxRecDepth 20000 in
theorem ggL_law_X6_unrule_4 : GoodIn wsL_law wsX6_unrule_r3 := goodIn_r _ [124, 150, 151, 152, 36, 153, 53, 116, 117, 154, 155, 156, 157, 158, 159, 160, 161, 54, 162, 163, 164, 165, 166, 167] (by decide +kernel) (by decide +kernel)
set_option maxRecDepth 20000 in
theorem ggL_law_X6_unrule_5 : GoodIn wsL_law wsX6_unrule_r4 := goodIn_r _ [168, 169, 55, 170, 171, 172, 173, 174, 175, 176, 177, 56, 178, 179, 180, 181, 182, 183, 184, 185, 186, 187, 188, 25] (by decide +kernel) (by decide +kernel)
set_option maxRecDepth 20000 in
theorem ggL_law_X6_unrule_6 : GoodIn wsL_law wsX6_unrule_r5 := goodIn_r _ [189, 83, 71, 72, 190, 191, 68, 192, 193, 194, 195, 196, 197, 683, 684, 685, 686, 687, 67, 69] (by decide +kernel) (by decide +kernel)
set_option maxRecDepth 20000 in
theorem ggL_law_X6_unrule_7 : GoodIn wsL_law wsX60 := goodIn_r _ [1075, 1076, 1077, 1078, 1079, 1080, 1081, 1082] (by decide +kernel) (by decide +kernel)
set_option maxRecDepth 20000 in
theorem ggL_law_X6_unrule_8 : GoodIn wsL_law wsX40 := goodIn_r _ [1102, 1103, 1104, 1105, 1106, 1107] (by decide +kernel) (by decide +kernel)
set_option maxRecDepth 20000 in
theorem ggL_law_X6_unrule_9 : GoodIn wsL_law wsX20 := goodIn_r _ [1136] (by decide +kernel) (by decide +kernel)
set_option maxRecDepth 20000 in
theorem ggL_law_X6_unrule_10 : GoodIn wsL_law wsX50 := goodIn_r _ [1117, 1118, 1119, 1120] (by decide +kernel) (by decide +kernel)
set_option maxRecDepth 20000 in
theorem ggL_law_X6_unrule_11 : GoodIn wsL_law wsX30 := goodIn_r _ [1121, 1122, 1123, 1124, 1125, 1126, 1127, 1128, 1129, 1130, 1131] (by decide +kernel) (by decide +kernel)
set_option maxRecDepth 20000 in
theorem ggL_law_X6_unrule_12 : GoodIn wsL_law wsX00 := goodIn_r _ [1132, 1133, 1134, 1135] (by decide +kernel) (by decide +kernel)
set_option maxRecDepth 20000 in
theorem ggL_law_X6_unrule : GoodIn wsL_law wsX6_unrule := goodIn_app (a := [.code yX6_unrule cX6_unrule 1 (some .int)]) ggL_law_X6_unrule_1 (goodIn_app (goodIn_app (goodIn_app (goodIn_app (goodIn_app (goodIn_app (goodIn_app ggL_law_X6_unrule_2 (goodIn_app ggL_law_X6_unrule_3 (goodIn_app ggL_law_X6_unrule_4 (goodIn_app ggL_law_X6_unrule_5 ggL_law_X6_unrule_6)))) ggL_law_X6_unrule_7) ggL_law_X6_unrule_8) ggL_law_X6_unrule_9) ggL_law_X6_unrule_10) ggL_law_X6_unrule_11) ggL_law_X6_unrule_12)
set_option maxRecDepth 20000 in
theorem gL_law_X6_unrule : GoodIn wsL_law (wsV RL 73 RX6 yX6_unrule wsX6_unrule) := goodIn_app (goodIn_of _ (by decide +kernel)) ggL_law_X6_unrule
set_option maxRecDepth 20000 in
theorem ggL_law_X7_unrule : GoodIn wsL_law wsX7_unrule := goodIn_r _ [691, 89, 291, 223, 224, 225, 5, 226, 227, 90, 1083, 1084, 1085, 1086, 1087, 1088, 1089, 1090, 1091, 1092, 1093, 1094, 1095, 1096, 1097, 1098, 1099, 1100, 1101] (by decide +kernel) (by decide +kernel)
set_option maxRecDepth 20000 in
theorem gL_law_X7_unrule : GoodIn wsL_law (wsV RL 76 RX7 yX7_unrule wsX7_unrule) := goodIn_app (goodIn_of _ (by decide +kernel)) ggL_law_X7_unrule
set_option maxRecDepth 20000 in
theorem ggL_law_X6_rules : GoodIn wsL_law wsX6_rules := goodIn_r _ [695, 15, 470, 612, 613, 614, 40, 615, 61, 616, 1075, 1076, 1077, 1078, 1079, 1080, 1081, 1082, 1102, 1103, 1104, 1105, 1106, 1107, 1136, 1117, 1118, 1119, 1120] (by decide +kernel) (by decide +kernel)
set_option maxRecDepth 20000 in
theorem gL_law_X6_rules : GoodIn wsL_law (wsV RL 77 RX6 yX6_rules wsX6_rules) := goodIn_app (goodIn_of _ (by decide +kernel)) ggL_law_X6_rules
set_option maxRecDepth 20000 in
theorem ggL_law_X7_rules : GoodIn wsL_law wsX7_rules := goodIn_r _ [699, 89, 1083, 1084, 1085, 1086, 1087, 1088, 1089, 1090, 1091, 1092, 1093, 1094, 1095, 1096, 1097, 1098, 1099, 1100, 1101] (by decide +kernel) (by decide +kernel)
set_option maxRecDepth 20000 in
theorem gL_law_X7_rules : GoodIn wsL_law (wsV RL 80 RX7 yX7_rules wsX7_rules) := goodIn_app (goodIn_of _ (by decide +kernel)) ggL_law_X7_rules
set_option maxRecDepth 20000 in
theorem ggL_law_X6_take_1 : GoodIn wsL_law [.code yX6_take cX6_take 7 (some .int)] := goodIn_r _ [703] (by decide +kernel) (by decide +kernel)
set_option maxRecDepth 20000 in
theorem ggL_law_X6_take_2 : GoodIn wsL_law wsX6_take_r1 := goodIn_r _ [113, 15, 114, 257, 704, 705, 383, 706, 707, 2, 708, 709, 710, 711, 118, 119, 120, 384, 385, 386, 313, 314, 315, 32] (by decide +kernel) (by decide +kernel)
set_option maxRecDepth 20000 in
theorem ggL_law_X6_take_3 : GoodIn wsL_law wsX6_take_r2 := goodIn_r _ [316, 146, 147, 148, 317, 67, 68, 69, 274, 191, 192, 145, 149, 122, 123, 124, 49, 334, 335, 336, 337, 282, 283, 284] (by decide +kernel) (by decide +kernel)
set_option maxRecDepth 20000 in
theorem ggL_law_X6_take_4 : GoodIn wsL_law wsX6_take_r3 := goodIn_r _ [285, 141, 262, 263, 264, 265, 139, 143, 266, 267, 268, 269, 712, 365, 366, 367, 142, 363, 339, 340, 341, 713, 714, 715] (by decide +kernel) (by decide +kernel)
set_option maxRecDepth 20000 in
theorem ggL_law_X6_take_5 : GoodIn wsL_law wsX6_take_r4 := goodIn_r _ [716, 382, 393, 155, 156, 36, 157, 53, 116, 117, 125, 126, 127, 128, 129, 16, 130, 131, 132, 133, 14, 134, 33, 37] (by decide +kernel) (by decide +kernel)
set_option maxRecDepth 20000 in
theorem ggL_law_X6_take_6 : GoodIn wsL_law wsX6_take_r5 := goodIn_r _ [41, 43, 44, 45, 135, 136, 137, 138, 140, 144, 150, 151, 152, 153, 154, 158, 159, 160, 161, 54, 162, 163, 164, 165] (by decide +kernel) (by decide +kernel)
set_option maxRecDepth 20000 in
theorem ggL_law_X6_take_7 : GoodIn wsL_law wsX6_take_r6 := goodIn_r _ [166, 167, 168, 169, 55, 170, 171, 172, 173, 174, 175, 176, 177, 56, 178, 179, 180, 181, 182, 183, 184, 40, 185, 61] (by decide +kernel) (by decide +kernel)
set_option maxRecDepth 20000 in
theorem ggL_law_X6_take_8 : GoodIn wsL_law wsX6_take_r7 := goodIn_r _ [186, 187, 188, 25, 189, 83, 71, 72, 190, 193, 194, 195, 196, 197, 79, 80, 81, 82, 70, 717, 718, 719, 720, 626] (by decide +kernel) (by decide +kernel)
set_option maxRecDepth 20000 in
theorem ggL_law_X6_take_9 : GoodIn wsL_law wsX6_take_r8 := goodIn_r _ [627, 628, 721, 722, 723, 724, 725, 726, 727, 728, 729, 730, 731, 732, 733, 734, 735, 736, 737, 738, 739, 740, 741, 742] (by decide +kernel) (by decide +kernel)
set_option maxRecDepth 20000 in
theorem ggL_law_X6_take_10 : GoodIn wsL_law wsX6_take_r9 := goodIn_r _ [743, 744, 745, 746, 747, 748, 749, 750, 751, 388, 389, 390, 752, 753, 754, 755, 756, 757, 758, 759, 616, 760, 761, 762] (by decide +kernel) (by decide +kernel)
set_option maxRecDepth 20000 in
theorem ggL_law_X6_take_11 : GoodIn wsL_law wsX6_take_r10 := goodIn_r _ [763, 764, 765, 766, 767, 768, 769, 770, 771, 772, 773, 774, 775, 776, 777, 778, 779, 780, 781, 782, 783, 784, 785, 786] (by decide +kernel) (by decide +kernel)
set_option maxRecDepth 20000 in
theorem ggL_law_X6_take_12 : GoodIn wsL_law wsX6_take_r11 := goodIn_r _ [787, 788, 789, 790] (by decide +kernel) (by decide +kernel)
set_option maxRecDepth 20000 in
theorem ggL_law_X6_take_13 : GoodIn wsL_law wsX60 := goodIn_r _ [1075, 1076, 1077, 1078, 1079, 1080, 1081, 1082] (by decide +kernel) (by decide +kernel)
set_option maxRecDepth 20000 in
theorem ggL_law_X6_take_14 : GoodIn wsL_law wsX40 := goodIn_r _ [1102, 1103, 1104, 1105, 1106, 1107] (by decide +kernel) (by decide +kernel)
set_option maxRecDepth 20000 in
theorem ggL_law_X6_take_15 : GoodIn wsL_law wsX50 := goodIn_r _ [1117, 1118, 1119, 1120] (by decide +kernel) (by decide +kernel)
set_option maxRecDepth 20000 in
theorem ggL_law_X6_take_16 : GoodIn wsL_law wsX30 := goodIn_r _ [1121, 1122, 1123, 1124, 1125, 1126, 1127, 1128, 1129, 1130, 1131] (by decide +kernel) (by decide +kernel)
set_option maxRecDepth 20000 in
theorem ggL_law_X6_take_17 : GoodIn wsL_law wsX00 := goodIn_r _ [1132, 1133, 1134, 1135] (by decide +kernel) (by decide +kernel)
set_option maxRecDepth 20000 in
theorem ggL_law_X6_take_18 : GoodIn wsL_law wsX20 := goodIn_r _ [1136] (by decide +kernel) (by decide +kernel)
set_option maxRecDepth 20000 in
theorem ggL_law_X6_take : GoodIn wsL_law wsX6_take := goodIn_app (a := [.code yX6_take cX6_take 7 (some .int)]) ggL_law_X6_take_1 (goodIn_app (goodIn_app (goodIn_app (goodIn_app (goodIn_app (goodIn_app (goodIn_app ggL_law_X6_take_2 (goodIn_app ggL_law_X6_take_3 (goodIn_app ggL_law_X6_take_4 (goodIn_app ggL_law_X6_take_5 (goodIn_app ggL_law_X6_take_6 (goodIn_app ggL_law_X6_take_7 (goodIn_app ggL_law_X6_take_8 (goodIn_app ggL_law_X6_take_9 (goodIn_app ggL_law_X6_take_10 (goodIn_app ggL_law_X6_take_11 ggL_law_X6_take_12)))))))))) ggL_law_X6_take_13) ggL_law_X6_take_14) ggL_law_X6_take_15) ggL_law_X6_take_16) ggL_law_X6_take_17) ggL_law_X6_take_18)
set_option maxRecDepth 20000 in
theorem gL_law_X6_take : GoodIn wsL_law (wsV RL 81 RX6 yX6_take wsX6_take) := goodIn_app (goodIn_of _ (by decide +kernel)) ggL_law_X6_take
set_option maxRecDepth 20000 in
theorem ggL_law_X7_take_1 : GoodIn wsL_law [.code yX7_take cX7_take 9 (some .int)] := goodIn_r _ [794] (by decide +kernel) (by decide +kernel)
set_option maxRecDepth 20000 in
theorem ggL_law_X7_take_2 : GoodIn wsL_law wsX7_take_r1 := goodIn_r _ [206, 89, 291, 795, 403, 98, 796, 797, 5, 798, 799, 216, 217, 218, 404, 405, 406, 296, 326, 327, 328, 329, 346, 347] (by decide +kernel) (by decide +kernel)
set_option maxRecDepth 20000 in
theorem ggL_law_X7_take_3 : GoodIn wsL_law wsX7_take_r2 := goodIn_r _ [348, 349, 297, 298, 299, 300, 212, 301, 302, 303, 350, 351, 352, 353, 354, 407, 408, 409, 410, 223, 224, 225, 226, 227] (by decide +kernel) (by decide +kernel)
set_option maxRecDepth 20000 in
theorem ggL_law_X7_take_4 : GoodIn wsL_law wsX7_take_r3 := goodIn_r _ [90, 800, 801, 802, 803, 637, 92, 804, 640, 641, 642, 643, 644, 94, 645, 638, 97, 95, 96, 646, 647, 648, 649, 650] (by decide +kernel) (by decide +kernel)
set_option maxRecDepth 20000 in
theorem ggL_law_X7_take_5 : GoodIn wsL_law wsX7_take_r4 := goodIn_r _ [651, 652, 653, 654, 655, 656, 657, 658, 659, 660, 661, 662, 663, 664, 665, 666, 93, 667, 668, 669, 670, 671, 672, 673] (by decide +kernel) (by decide +kernel)
set_option maxRecDepth 20000 in
theorem ggL_law_X7_take_6 : GoodIn wsL_law wsX7_take_r5 := goodIn_r _ [674, 675, 676, 677, 678, 805, 806, 807, 808, 99, 809, 810, 811, 812, 102, 813, 814, 815, 816, 817, 818, 819, 211, 411] (by decide +kernel) (by decide +kernel)
set_option maxRecDepth 20000 in
theorem ggL_law_X7_take_7 : GoodIn wsL_law wsX7_take_r6 := goodIn_r _ [412, 413, 820, 821, 822, 823, 824, 825, 826, 827, 828, 829, 101, 830, 831, 832] (by decide +kernel) (by decide +kernel)
set_option maxRecDepth 20000 in
theorem ggL_law_X7_take_8 : GoodIn wsL_law wsX70 := goodIn_r _ [1083, 1084, 1085, 1086, 1087, 1088, 1089, 1090, 1091, 1092, 1093, 1094, 1095, 1096, 1097, 1098, 1099, 1100, 1101] (by decide +kernel) (by decide +kernel)
set_option maxRecDepth 20000 in
theorem ggL_law_X7_take : GoodIn wsL_law wsX7_take := goodIn_app (a := [.code yX7_take cX7_take 9 (some .int)]) ggL_law_X7_take_1 (goodIn_app (goodIn_app ggL_law_X7_take_2 (goodIn_app ggL_law_X7_take_3 (goodIn_app ggL_law_X7_take_4 (goodIn_app ggL_law_X7_take_5 (goodIn_app ggL_law_X7_take_6 ggL_law_X7_take_7))))) ggL_law_X7_take_8)
set_option maxRecDepth 20000 in
theorem gL_law_X7_take : GoodIn wsL_law (wsV RL 85 RX7 yX7_take wsX7_take) := goodIn_app (goodIn_of _ (by decide +kernel)) ggL_law_X7_take
set_option maxRecDepth 20000 in
theorem ggL_law_X6_quote_1 : GoodIn wsL_law [.code yX6_quote cX6_quote 6 (some .int)] := goodIn_r _ [836] (by decide +kernel) (by decide +kernel)
set_option maxRecDepth 20000 in
theorem ggL_law_X6_quote_2 : GoodIn wsL_law wsX6_quote_r1 := goodIn_r _ [241, 113, 257, 26, 118, 119, 2, 120, 706, 707, 708, 709, 710, 711, 384, 385, 386, 713, 714, 715, 716, 15, 382, 393] (by decide +kernel) (by decide +kernel)
set_option maxRecDepth 20000 in
theorem ggL_law_X6_quote_3 : GoodIn wsL_law wsX6_quote_r2 := goodIn_r _ [155, 156, 36, 157, 53, 116, 117, 717, 718, 719, 720, 626, 627, 25, 628, 70, 71, 72, 837, 838, 839, 840, 721, 722] (by decide +kernel) (by decide +kernel)
set_option maxRecDepth 20000 in
theorem ggL_law_X6_quote_4 : GoodIn wsL_law wsX6_quote_r3 := goodIn_r _ [723, 14, 724, 725, 33, 726, 67, 68, 69, 37, 41, 727, 728, 729, 730, 731, 732, 733, 734, 122, 123, 32, 124, 49] (by decide +kernel) (by decide +kernel)
set_option maxRecDepth 20000 in
theorem ggL_law_X6_quote_5 : GoodIn wsL_law wsX6_quote_r4 := goodIn_r _ [735, 736, 737, 738, 739, 740, 741, 742, 743, 744, 745, 746, 747, 748, 749, 750, 751, 388, 389, 390, 154, 158, 159, 160] (by decide +kernel) (by decide +kernel)
set_option maxRecDepth 20000 in
theorem ggL_law_X6_quote_6 : GoodIn wsL_law wsX6_quote_r5 := goodIn_r _ [161, 54, 162, 163, 164, 165, 166, 167, 168, 169, 55, 752, 753, 754, 755, 174, 175, 176, 177, 56, 756, 757, 758, 40] (by decide +kernel) (by decide +kernel)
set_option maxRecDepth 20000 in
theorem ggL_law_X6_quote_7 : GoodIn wsL_law wsX6_quote_r6 := goodIn_r _ [759, 61, 616, 760, 761, 762, 763, 764, 765, 766, 767, 768, 769, 770, 771, 772, 773, 774, 775, 776, 777, 778, 779, 780] (by decide +kernel) (by decide +kernel)
set_option maxRecDepth 20000 in
theorem ggL_law_X6_quote_8 : GoodIn wsL_law wsX6_quote_r7 := goodIn_r _ [781, 782, 783, 784, 785, 786, 787, 788, 789, 790] (by decide +kernel) (by decide +kernel)
set_option maxRecDepth 20000 in
theorem ggL_law_X6_quote_9 : GoodIn wsL_law wsX60 := goodIn_r _ [1075, 1076, 1077, 1078, 1079, 1080, 1081, 1082] (by decide +kernel) (by decide +kernel)
set_option maxRecDepth 20000 in
theorem ggL_law_X6_quote_10 : GoodIn wsL_law wsX40 := goodIn_r _ [1102, 1103, 1104, 1105, 1106, 1107] (by decide +kernel) (by decide +kernel)
set_option maxRecDepth 20000 in
theorem ggL_law_X6_quote_11 : GoodIn wsL_law wsX00 := goodIn_r _ [1132, 1133, 1134, 1135] (by decide +kernel) (by decide +kernel)
set_option maxRecDepth 20000 in
theorem ggL_law_X6_quote_12 : GoodIn wsL_law wsX50 := goodIn_r _ [1117, 1118, 1119, 1120] (by decide +kernel) (by decide +kernel)
set_option maxRecDepth 20000 in
theorem ggL_law_X6_quote_13 : GoodIn wsL_law wsX30 := goodIn_r _ [1121, 1122, 1123, 1124, 1125, 1126, 1127, 1128, 1129, 1130, 1131] (by decide +kernel) (by decide +kernel)
set_option maxRecDepth 20000 in
theorem ggL_law_X6_quote_14 : GoodIn wsL_law wsX20 := goodIn_r _ [1136] (by decide +kernel) (by decide +kernel)
set_option maxRecDepth 20000 in
theorem ggL_law_X6_quote : GoodIn wsL_law wsX6_quote := goodIn_app (a := [.code yX6_quote cX6_quote 6 (some .int)]) ggL_law_X6_quote_1 (goodIn_app (goodIn_app (goodIn_app (goodIn_app (goodIn_app (goodIn_app (goodIn_app ggL_law_X6_quote_2 (goodIn_app ggL_law_X6_quote_3 (goodIn_app ggL_law_X6_quote_4 (goodIn_app ggL_law_X6_quote_5 (goodIn_app ggL_law_X6_quote_6 (goodIn_app ggL_law_X6_quote_7 ggL_law_X6_quote_8)))))) ggL_law_X6_quote_9) ggL_law_X6_quote_10) ggL_law_X6_quote_11) ggL_law_X6_quote_12) ggL_law_X6_quote_13) ggL_law_X6_quote_14)
set_option maxRecDepth 20000 in
theorem gL_law_X6_quote : GoodIn wsL_law (wsV RL 86 RX6 yX6_quote wsX6_quote) := goodIn_app (goodIn_of _ (by decide +kernel)) ggL_law_X6_quote
set_option maxRecDepth 20000 in
theorem ggL_law_X7_quote_1 : GoodIn wsL_law [.code yX7_quote cX7_quote 6 (some .int)] := goodIn_r _ [844] (by decide +kernel) (by decide +kernel)
set_option maxRecDepth 20000 in
theorem ggL_law_X7_quote_2 : GoodIn wsL_law wsX7_quote_r1 := goodIn_r _ [251, 206, 291, 216, 217, 5, 218, 796, 797, 798, 799, 404, 405, 406, 296, 407, 408, 409, 410, 89, 800, 801, 802, 803] (by decide +kernel) (by decide +kernel)
set_option maxRecDepth 20000 in
theorem ggL_law_X7_quote_3 : GoodIn wsL_law wsX7_quote_r2 := goodIn_r _ [637, 92, 804, 640, 641, 642, 643, 644, 94, 645, 638, 97, 95, 96, 646, 647, 648, 649, 650, 651, 652, 653, 654, 655] (by decide +kernel) (by decide +kernel)
set_option maxRecDepth 20000 in
theorem ggL_law_X7_quote_4 : GoodIn wsL_law wsX7_quote_r3 := goodIn_r _ [656, 657, 658, 659, 660, 661, 662, 663, 664, 665, 666, 93, 667, 668, 669, 670, 671, 672, 673, 674, 675, 676, 677, 678] (by decide +kernel) (by decide +kernel)
set_option maxRecDepth 20000 in
theorem ggL_law_X7_quote_5 : GoodIn wsL_law wsX7_quote_r4 := goodIn_r _ [805, 806, 807, 808, 98, 212, 354, 99, 809, 810, 811, 812, 102, 813, 814, 815, 816, 817, 818, 819, 211, 411, 412, 413] (by decide +kernel) (by decide +kernel)
set_option maxRecDepth 20000 in
theorem ggL_law_X7_quote_6 : GoodIn wsL_law wsX7_quote_r5 := goodIn_r _ [820, 821, 822, 823, 824, 825, 826, 827, 828, 829, 101, 301, 302, 303] (by decide +kernel) (by decide +kernel)
set_option maxRecDepth 20000 in
theorem ggL_law_X7_quote_7 : GoodIn wsL_law wsX70 := goodIn_r _ [1083, 1084, 1085, 1086, 1087, 1088, 1089, 1090, 1091, 1092, 1093, 1094, 1095, 1096, 1097, 1098, 1099, 1100, 1101] (by decide +kernel) (by decide +kernel)
set_option maxRecDepth 20000 in
theorem ggL_law_X7_quote : GoodIn wsL_law wsX7_quote := goodIn_app (a := [.code yX7_quote cX7_quote 6 (some .int)]) ggL_law_X7_quote_1 (goodIn_app (goodIn_app ggL_law_X7_quote_2 (goodIn_app ggL_law_X7_quote_3 (goodIn_app ggL_law_X7_quote_4 (goodIn_app ggL_law_X7_quote_5 ggL_law_X7_quote_6)))) ggL_law_X7_quote_7)
set_option maxRecDepth 20000 in
theorem gL_law_X7_quote : GoodIn wsL_law (wsV RL 90 RX7 yX7_quote wsX7_quote) := goodIn_app (goodIn_of _ (by decide +kernel)) ggL_law_X7_quote
set_option maxRecDepth 20000 in
theorem ggL_law_X6_parcel : GoodIn wsL_law wsX6_parcel := goodIn_r _ [848, 15, 704, 113, 849, 850, 851, 25, 852, 83, 118, 119, 2, 120, 853, 854, 855, 856, 857, 705, 858, 733, 728, 729, 730, 70, 71, 72, 1075, 1076, 1077, 1078, 1079, 1080, 1081, 1082, 1102, 1103, 1104, 1105, 1106, 1107, 1117, 1118, 1119, 1120] (by decide +kernel) (by decide +kernel)
set_option maxRecDepth 20000 in
theorem gL_law_X6_parcel : GoodIn wsL_law (wsV RL 91 RX6 yX6_parcel wsX6_parcel) := goodIn_app (goodIn_of _ (by decide +kernel)) ggL_law_X6_parcel
set_option maxRecDepth 20000 in
theorem ggL_law_X7_parcel : GoodIn wsL_law wsX7_parcel := goodIn_r _ [862, 102, 206, 863, 864, 865, 5, 866, 89, 216, 217, 218, 867, 868, 869, 870, 830, 831, 832, 820, 821, 822, 354, 823, 824, 825, 871, 872, 873, 874, 875, 876, 877, 878, 1083, 1084, 1085, 1086, 1087, 1088, 1089, 1090, 1091, 1092, 1093, 1094, 1095, 1096, 1097, 1098, 1099, 1100, 1101] (by decide +kernel) (by decide +kernel)
set_option maxRecDepth 20000 in
theorem gL_law_X7_parcel : GoodIn wsL_law (wsV RL 94 RX7 yX7_parcel wsX7_parcel) := goodIn_app (goodIn_of _ (by decide +kernel)) ggL_law_X7_parcel
set_option maxRecDepth 20000 in
theorem ggL_law_X6_why : GoodIn wsL_law wsX6_why := goodIn_r _ [882, 15, 704, 113, 858, 849, 850, 851, 25, 852, 83, 733, 728, 729, 730, 70, 71, 72, 1075, 1076, 1077, 1078, 1079, 1080, 1081, 1082, 1102, 1103, 1104, 1105, 1106, 1107, 1117, 1118, 1119, 1120] (by decide +kernel) (by decide +kernel)
set_option maxRecDepth 20000 in
theorem gL_law_X6_why : GoodIn wsL_law (wsV RL 95 RX6 yX6_why wsX6_why) := goodIn_app (goodIn_of _ (by decide +kernel)) ggL_law_X6_why
set_option maxRecDepth 20000 in
theorem ggL_law_X7_why : GoodIn wsL_law wsX7_why := goodIn_r _ [886, 206, 863, 864, 865, 5, 866, 89, 216, 217, 218, 887, 888, 889, 890, 875, 830, 831, 832, 1083, 1084, 1085, 1086, 1087, 1088, 1089, 1090, 1091, 1092, 1093, 1094, 1095, 1096, 1097, 1098, 1099, 1100, 1101] (by decide +kernel) (by decide +kernel)
set_option maxRecDepth 20000 in
theorem gL_law_X7_why : GoodIn wsL_law (wsV RL 98 RX7 yX7_why wsX7_why) := goodIn_app (goodIn_of _ (by decide +kernel)) ggL_law_X7_why
set_option maxRecDepth 20000 in
theorem ggL_law_X6_parcels : GoodIn wsL_law wsX6_parcels := goodIn_r _ [894, 15, 704, 705, 1075, 1076, 1077, 1078, 1079, 1080, 1081, 1082, 1102, 1103, 1104, 1105, 1106, 1107, 1117, 1118, 1119, 1120] (by decide +kernel) (by decide +kernel)
set_option maxRecDepth 20000 in
theorem gL_law_X6_parcels : GoodIn wsL_law (wsV RL 99 RX6 yX6_parcels wsX6_parcels) := goodIn_app (goodIn_of _ (by decide +kernel)) ggL_law_X6_parcels
set_option maxRecDepth 20000 in
theorem ggL_law_X7_parcels : GoodIn wsL_law wsX7_parcels := goodIn_r _ [898, 89, 1083, 1084, 1085, 1086, 1087, 1088, 1089, 1090, 1091, 1092, 1093, 1094, 1095, 1096, 1097, 1098, 1099, 1100, 1101] (by decide +kernel) (by decide +kernel)
set_option maxRecDepth 20000 in
theorem gL_law_X7_parcels : GoodIn wsL_law (wsV RL 102 RX7 yX7_parcels wsX7_parcels) := goodIn_app (goodIn_of _ (by decide +kernel)) ggL_law_X7_parcels
set_option maxRecDepth 20000 in
theorem ggL_law_X6_density : GoodIn wsL_law wsX6_density := goodIn_r _ [902, 15, 704, 903, 849, 850, 851, 25, 852, 83, 904, 731, 2, 732, 733, 728, 729, 730, 70, 71, 72, 1075, 1076, 1077, 1078, 1079, 1080, 1081, 1082, 1102, 1103, 1104, 1105, 1106, 1107, 1117, 1118, 1119, 1120] (by decide +kernel) (by decide +kernel)
set_option maxRecDepth 20000 in
theorem gL_law_X6_density : GoodIn wsL_law (wsV RL 103 RX6 yX6_density wsX6_density) := goodIn_app (goodIn_of _ (by decide +kernel)) ggL_law_X6_density
set_option maxRecDepth 20000 in
theorem ggL_law_X7_density : GoodIn wsL_law wsX7_density := goodIn_r _ [908, 909, 89, 863, 864, 865, 5, 866, 216, 217, 218, 830, 831, 832, 810, 811, 812, 102, 813, 814, 815, 1083, 1084, 1085, 1086, 1087, 1088, 1089, 1090, 1091, 1092, 1093, 1094, 1095, 1096, 1097, 1098, 1099, 1100, 1101] (by decide +kernel) (by decide +kernel)
set_option maxRecDepth 20000 in
theorem gL_law_X7_density : GoodIn wsL_law (wsV RL 107 RX7 yX7_density wsX7_density) := goodIn_app (goodIn_of _ (by decide +kernel)) ggL_law_X7_density
