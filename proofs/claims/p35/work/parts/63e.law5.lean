set_option maxRecDepth 20000 in
theorem ggL_law_L_fails_19 : GoodIn wsL_law wsL_fails_r18 := goodIn_r _ [353, 354, 355, 356, 357, 358, 359, 360, 361, 362, 363, 364, 365, 366, 367, 368, 369, 29, 371, 372, 373, 374, 518, 519] (by decide +kernel) (by decide +kernel)
set_option maxRecDepth 20000 in
theorem ggL_law_L_fails_20 : GoodIn wsL_law wsL_fails_r19 := goodIn_r _ [520, 521, 522, 523, 524, 525, 526, 527, 528, 529, 530, 531, 532, 533, 534, 535, 536, 537, 538, 539, 540, 541, 542, 543] (by decide +kernel) (by decide +kernel)
set_option maxRecDepth 20000 in
theorem ggL_law_L_fails_21 : GoodIn wsL_law wsL_fails_r20 := goodIn_r _ [544, 545, 546, 547, 548, 549, 550, 551, 552, 553, 554, 555, 556, 557, 558, 559, 560, 561, 562, 563, 564, 565, 566, 567] (by decide +kernel) (by decide +kernel)
set_option maxRecDepth 20000 in
theorem ggL_law_L_fails_22 : GoodIn wsL_law wsL_fails_r21 := goodIn_r _ [264, 568, 569, 570, 571, 572, 573, 574, 575, 576, 577, 578] (by decide +kernel) (by decide +kernel)
set_option maxRecDepth 20000 in
theorem ggL_law_L_fails_23 : GoodIn wsL_law wsX60 := goodIn_r _ [770, 771, 772, 773, 774, 775, 776, 777] (by decide +kernel) (by decide +kernel)
set_option maxRecDepth 20000 in
theorem ggL_law_L_fails_24 : GoodIn wsL_law wsX40 := goodIn_r _ [778, 779, 780, 781, 782, 783] (by decide +kernel) (by decide +kernel)
set_option maxRecDepth 20000 in
theorem ggL_law_L_fails_25 : GoodIn wsL_law wsX30 := goodIn_r _ [797, 798, 799, 800, 801, 802, 803, 804, 805, 806, 807] (by decide +kernel) (by decide +kernel)
set_option maxRecDepth 20000 in
theorem ggL_law_L_fails_26 : GoodIn wsL_law wsX00 := goodIn_r _ [808, 809, 810, 811] (by decide +kernel) (by decide +kernel)
set_option maxRecDepth 20000 in
theorem ggL_law_L_fails_27 : GoodIn wsL_law wsX20 := goodIn_r _ [812] (by decide +kernel) (by decide +kernel)
set_option maxRecDepth 20000 in
theorem ggL_law_L_fails_28 : GoodIn wsL_law wsX50 := goodIn_r _ [793, 794, 795, 796] (by decide +kernel) (by decide +kernel)
set_option maxRecDepth 20000 in
theorem ggL_law_L_fails : GoodIn wsL_law wsL_fails := goodIn_app (a := [.code yL_fails cL_fails 6 (some .boolean)]) ggL_law_L_fails_1 (goodIn_app (goodIn_app (goodIn_app (goodIn_app (goodIn_app (goodIn_app (goodIn_app ggL_law_L_fails_2 (goodIn_app ggL_law_L_fails_3 (goodIn_app ggL_law_L_fails_4 (goodIn_app ggL_law_L_fails_5 (goodIn_app ggL_law_L_fails_6 (goodIn_app ggL_law_L_fails_7 (goodIn_app ggL_law_L_fails_8 (goodIn_app ggL_law_L_fails_9 (goodIn_app ggL_law_L_fails_10 (goodIn_app ggL_law_L_fails_11 (goodIn_app ggL_law_L_fails_12 (goodIn_app ggL_law_L_fails_13 (goodIn_app ggL_law_L_fails_14 (goodIn_app ggL_law_L_fails_15 (goodIn_app ggL_law_L_fails_16 (goodIn_app ggL_law_L_fails_17 (goodIn_app ggL_law_L_fails_18 (goodIn_app ggL_law_L_fails_19 (goodIn_app ggL_law_L_fails_20 (goodIn_app ggL_law_L_fails_21 ggL_law_L_fails_22)))))))))))))))))))) ggL_law_L_fails_23) ggL_law_L_fails_24) ggL_law_L_fails_25) ggL_law_L_fails_26) ggL_law_L_fails_27) ggL_law_L_fails_28)
set_option maxRecDepth 20000 in
theorem gL_law_L_fails : GoodIn wsL_law (va_wsS RL 137 yL_fails wsL_fails) := goodIn_app (goodIn_of _ (by decide +kernel)) ggL_law_L_fails
set_option maxRecDepth 20000 in
theorem ggL_law_L_cell : GoodIn wsL_law wsL_cell := goodIn_r _ [581, 582] (by decide +kernel) (by decide +kernel)
set_option maxRecDepth 20000 in
theorem gL_law_L_cell : GoodIn wsL_law (va_wsS RL 141 yL_cell wsL_cell) := goodIn_app (goodIn_of _ (by decide +kernel)) ggL_law_L_cell
set_option maxRecDepth 20000 in
theorem ggL_law_L_up : GoodIn wsL_law wsL_up := goodIn_r _ [585, 586] (by decide +kernel) (by decide +kernel)
set_option maxRecDepth 20000 in
theorem gL_law_L_up : GoodIn wsL_law (va_wsS RL 108 yL_up wsL_up) := goodIn_app (goodIn_of _ (by decide +kernel)) ggL_law_L_up
set_option maxRecDepth 20000 in
theorem ggL_law_X6_fingerprint_1 : GoodIn wsL_law [.code yX6_fingerprint cX6_fingerprint 4 (some .long)] := goodIn_r _ [385] (by decide +kernel) (by decide +kernel)
set_option maxRecDepth 20000 in
theorem ggL_law_X6_fingerprint_2 : GoodIn wsL_law wsX6_fingerprint_r1 := goodIn_r _ [386, 387, 388, 389, 390, 391, 2, 392, 18, 191, 192, 393, 120, 121, 394, 113, 114, 35, 115, 52, 395, 188, 189, 190] (by decide +kernel) (by decide +kernel)
set_option maxRecDepth 20000 in
theorem ggL_law_X6_fingerprint_3 : GoodIn wsL_law wsX6_fingerprint_r2 := goodIn_r _ [193, 194, 195, 196, 197, 198, 199, 103, 104, 105, 106, 107, 102, 200, 201, 202, 203, 112, 204, 205, 206, 207, 208, 209] (by decide +kernel) (by decide +kernel)
set_option maxRecDepth 20000 in
theorem ggL_law_X6_fingerprint_4 : GoodIn wsL_law wsX6_fingerprint_r3 := goodIn_r _ [210, 211, 212, 213, 214, 215, 216, 217, 218, 219, 109, 110, 111, 220, 70, 71, 72, 221, 159, 160, 108, 222, 223, 224] (by decide +kernel) (by decide +kernel)
set_option maxRecDepth 20000 in
theorem ggL_law_X6_fingerprint_5 : GoodIn wsL_law wsX6_fingerprint_r4 := goodIn_r _ [225, 226, 227, 228, 229, 396, 397, 398, 399, 284, 285, 123, 124, 39, 125, 56, 400, 401, 402, 403, 404, 131, 132, 133] (by decide +kernel) (by decide +kernel)
set_option maxRecDepth 20000 in
theorem ggL_law_X6_fingerprint_6 : GoodIn wsL_law wsX6_fingerprint_r5 := goodIn_r _ [405, 127, 128, 129, 57, 130, 406, 135, 136, 137, 58, 407, 143, 144, 145, 59, 408, 178, 179, 180, 181, 182, 183, 184] (by decide +kernel) (by decide +kernel)
set_option maxRecDepth 20000 in
theorem ggL_law_X6_fingerprint_7 : GoodIn wsL_law wsX6_fingerprint_r6 := goodIn_r _ [43, 185, 64, 186, 409, 410, 411, 412, 170, 413, 167, 168, 169, 171, 414, 415, 416, 417, 418, 419, 420, 28, 421, 86] (by decide +kernel) (by decide +kernel)
set_option maxRecDepth 20000 in
theorem ggL_law_X6_fingerprint_8 : GoodIn wsL_law wsX6_fingerprint_r7 := goodIn_r _ [422, 423, 424, 425, 176, 92, 305, 300, 301, 302, 73, 74, 75, 426, 427, 428, 429, 430, 431, 432, 433, 434, 173, 174] (by decide +kernel) (by decide +kernel)
set_option maxRecDepth 20000 in
theorem ggL_law_X6_fingerprint_9 : GoodIn wsL_law wsX6_fingerprint_r8 := goodIn_r _ [175, 435, 436, 437, 438, 439, 440, 441, 442, 443, 444, 445, 446, 447, 448, 449, 450, 451, 452] (by decide +kernel) (by decide +kernel)
set_option maxRecDepth 20000 in
theorem ggL_law_X6_fingerprint_10 : GoodIn wsL_law wsX60 := goodIn_r _ [770, 771, 772, 773, 774, 775, 776, 777] (by decide +kernel) (by decide +kernel)
set_option maxRecDepth 20000 in
theorem ggL_law_X6_fingerprint_11 : GoodIn wsL_law wsX40 := goodIn_r _ [778, 779, 780, 781, 782, 783] (by decide +kernel) (by decide +kernel)
set_option maxRecDepth 20000 in
theorem ggL_law_X6_fingerprint_12 : GoodIn wsL_law wsX30 := goodIn_r _ [797, 798, 799, 800, 801, 802, 803, 804, 805, 806, 807] (by decide +kernel) (by decide +kernel)
set_option maxRecDepth 20000 in
theorem ggL_law_X6_fingerprint_13 : GoodIn wsL_law wsX00 := goodIn_r _ [808, 809, 810, 811] (by decide +kernel) (by decide +kernel)
set_option maxRecDepth 20000 in
theorem ggL_law_X6_fingerprint_14 : GoodIn wsL_law wsX20 := goodIn_r _ [812] (by decide +kernel) (by decide +kernel)
set_option maxRecDepth 20000 in
theorem ggL_law_X6_fingerprint_15 : GoodIn wsL_law wsX50 := goodIn_r _ [793, 794, 795, 796] (by decide +kernel) (by decide +kernel)
set_option maxRecDepth 20000 in
theorem ggL_law_X6_fingerprint : GoodIn wsL_law wsX6_fingerprint := goodIn_app (a := [.code yX6_fingerprint cX6_fingerprint 4 (some .long)]) ggL_law_X6_fingerprint_1 (goodIn_app (goodIn_app (goodIn_app (goodIn_app (goodIn_app (goodIn_app (goodIn_app ggL_law_X6_fingerprint_2 (goodIn_app ggL_law_X6_fingerprint_3 (goodIn_app ggL_law_X6_fingerprint_4 (goodIn_app ggL_law_X6_fingerprint_5 (goodIn_app ggL_law_X6_fingerprint_6 (goodIn_app ggL_law_X6_fingerprint_7 (goodIn_app ggL_law_X6_fingerprint_8 ggL_law_X6_fingerprint_9))))))) ggL_law_X6_fingerprint_10) ggL_law_X6_fingerprint_11) ggL_law_X6_fingerprint_12) ggL_law_X6_fingerprint_13) ggL_law_X6_fingerprint_14) ggL_law_X6_fingerprint_15)
set_option maxRecDepth 20000 in
theorem gL_law_X6_fingerprint : GoodIn wsL_law (wsV RL 9 RX6 yX6_fingerprint wsX6_fingerprint) := goodIn_app (goodIn_of _ (by decide +kernel)) ggL_law_X6_fingerprint
set_option maxRecDepth 20000 in
theorem ggL_law_X6_band_1 : GoodIn wsL_law [.code yX6_band cX6_band 7 (some .int)] := goodIn_r _ [492] (by decide +kernel) (by decide +kernel)
set_option maxRecDepth 20000 in
theorem ggL_law_X6_band_2 : GoodIn wsL_law wsX6_band_r1 := goodIn_r _ [370, 192, 18, 284, 269, 276, 277, 2, 278, 193, 194, 195, 493, 324, 325, 39, 326, 122, 123, 124, 125, 56, 120, 121] (by decide +kernel) (by decide +kernel)
set_option maxRecDepth 20000 in
theorem ggL_law_X6_band_3 : GoodIn wsL_law wsX6_band_r2 := goodIn_r _ [126, 127, 128, 129, 57, 130, 131, 132, 133, 404, 405, 285, 245, 246, 247, 248, 93, 19, 91, 94, 95, 96, 17, 97] (by decide +kernel) (by decide +kernel)
set_option maxRecDepth 20000 in
theorem ggL_law_X6_band_4 : GoodIn wsL_law wsX6_band_r3 := goodIn_r _ [36, 40, 44, 46, 47, 48, 98, 99, 100, 35, 101, 52, 102, 103, 104, 105, 106, 107, 108, 109, 110, 111, 112, 113] (by decide +kernel) (by decide +kernel)
set_option maxRecDepth 20000 in
theorem ggL_law_X6_band_5 : GoodIn wsL_law wsX6_band_r4 := goodIn_r _ [114, 115, 116, 117, 118, 119, 134, 135, 136, 137, 58, 138, 139, 140, 141, 142, 143, 144, 145, 59, 146, 147, 148, 149] (by decide +kernel) (by decide +kernel)
set_option maxRecDepth 20000 in
theorem ggL_law_X6_band_6 : GoodIn wsL_law wsX6_band_r5 := goodIn_r _ [150, 151, 152, 43, 153, 64, 154, 155, 156, 28, 157, 86, 74, 75, 158, 159, 71, 160, 161, 162, 163, 164, 165, 494] (by decide +kernel) (by decide +kernel)
set_option maxRecDepth 20000 in
theorem ggL_law_X6_band_7 : GoodIn wsL_law wsX6_band_r6 := goodIn_r _ [495, 496, 497, 498] (by decide +kernel) (by decide +kernel)
set_option maxRecDepth 20000 in
theorem ggL_law_X6_band_8 : GoodIn wsL_law wsX60 := goodIn_r _ [770, 771, 772, 773, 774, 775, 776, 777] (by decide +kernel) (by decide +kernel)
set_option maxRecDepth 20000 in
theorem ggL_law_X6_band_9 : GoodIn wsL_law wsX40 := goodIn_r _ [778, 779, 780, 781, 782, 783] (by decide +kernel) (by decide +kernel)
set_option maxRecDepth 20000 in
theorem ggL_law_X6_band_10 : GoodIn wsL_law wsX00 := goodIn_r _ [808, 809, 810, 811] (by decide +kernel) (by decide +kernel)
set_option maxRecDepth 20000 in
theorem ggL_law_X6_band_11 : GoodIn wsL_law wsX30 := goodIn_r _ [797, 798, 799, 800, 801, 802, 803, 804, 805, 806, 807] (by decide +kernel) (by decide +kernel)
set_option maxRecDepth 20000 in
theorem ggL_law_X6_band_12 : GoodIn wsL_law wsX20 := goodIn_r _ [812] (by decide +kernel) (by decide +kernel)
set_option maxRecDepth 20000 in
theorem ggL_law_X6_band_13 : GoodIn wsL_law wsX50 := goodIn_r _ [793, 794, 795, 796] (by decide +kernel) (by decide +kernel)
set_option maxRecDepth 20000 in
theorem ggL_law_X6_band : GoodIn wsL_law wsX6_band := goodIn_app (a := [.code yX6_band cX6_band 7 (some .int)]) ggL_law_X6_band_1 (goodIn_app (goodIn_app (goodIn_app (goodIn_app (goodIn_app (goodIn_app (goodIn_app ggL_law_X6_band_2 (goodIn_app ggL_law_X6_band_3 (goodIn_app ggL_law_X6_band_4 (goodIn_app ggL_law_X6_band_5 (goodIn_app ggL_law_X6_band_6 ggL_law_X6_band_7))))) ggL_law_X6_band_8) ggL_law_X6_band_9) ggL_law_X6_band_10) ggL_law_X6_band_11) ggL_law_X6_band_12) ggL_law_X6_band_13)
set_option maxRecDepth 20000 in
theorem gL_law_X6_band : GoodIn wsL_law (wsV RL 36 RX6 yX6_band wsX6_band) := goodIn_app (goodIn_of _ (by decide +kernel)) ggL_law_X6_band
set_option maxRecDepth 20000 in
theorem ggL_law_X6_load_1 : GoodIn wsL_law [.code yX6_load cX6_load 3 (some .int)] := goodIn_r _ [466] (by decide +kernel) (by decide +kernel)
set_option maxRecDepth 20000 in
theorem ggL_law_X6_load_2 : GoodIn wsL_law wsX6_load_r1 := goodIn_r _ [370, 192, 18, 191, 467, 193, 194, 2, 195, 245, 246, 247, 248, 93, 19, 91, 94, 95, 96, 17, 97, 36, 40, 44] (by decide +kernel) (by decide +kernel)
set_option maxRecDepth 20000 in
theorem ggL_law_X6_load_3 : GoodIn wsL_law wsX6_load_r2 := goodIn_r _ [46, 47, 48, 98, 99, 100, 35, 101, 52, 102, 103, 104, 105, 106, 107, 108, 109, 110, 111, 112, 113, 114, 115, 116] (by decide +kernel) (by decide +kernel)
set_option maxRecDepth 20000 in
theorem ggL_law_X6_load_4 : GoodIn wsL_law wsX6_load_r3 := goodIn_r _ [117, 118, 39, 119, 56, 120, 121, 122, 123, 124, 125, 126, 127, 128, 129, 57, 130, 131, 132, 133, 134, 135, 136, 137] (by decide +kernel) (by decide +kernel)
set_option maxRecDepth 20000 in
theorem ggL_law_X6_load_5 : GoodIn wsL_law wsX6_load_r4 := goodIn_r _ [58, 138, 139, 140, 141, 142, 143, 144, 145, 59, 146, 147, 148, 149, 150, 151, 152, 43, 153, 64, 154, 155, 156, 28] (by decide +kernel) (by decide +kernel)
set_option maxRecDepth 20000 in
theorem ggL_law_X6_load_6 : GoodIn wsL_law wsX6_load_r5 := goodIn_r _ [157, 86, 74, 75, 158, 159, 71, 160, 161, 162, 163, 164, 165, 468, 469, 470, 471] (by decide +kernel) (by decide +kernel)
set_option maxRecDepth 20000 in
theorem ggL_law_X6_load_7 : GoodIn wsL_law wsX60 := goodIn_r _ [770, 771, 772, 773, 774, 775, 776, 777] (by decide +kernel) (by decide +kernel)
set_option maxRecDepth 20000 in
theorem ggL_law_X6_load_8 : GoodIn wsL_law wsX40 := goodIn_r _ [778, 779, 780, 781, 782, 783] (by decide +kernel) (by decide +kernel)
set_option maxRecDepth 20000 in
theorem ggL_law_X6_load_9 : GoodIn wsL_law wsX30 := goodIn_r _ [797, 798, 799, 800, 801, 802, 803, 804, 805, 806, 807] (by decide +kernel) (by decide +kernel)
set_option maxRecDepth 20000 in
theorem ggL_law_X6_load_10 : GoodIn wsL_law wsX00 := goodIn_r _ [808, 809, 810, 811] (by decide +kernel) (by decide +kernel)
set_option maxRecDepth 20000 in
theorem ggL_law_X6_load_11 : GoodIn wsL_law wsX20 := goodIn_r _ [812] (by decide +kernel) (by decide +kernel)
set_option maxRecDepth 20000 in
theorem ggL_law_X6_load_12 : GoodIn wsL_law wsX50 := goodIn_r _ [793, 794, 795, 796] (by decide +kernel) (by decide +kernel)
set_option maxRecDepth 20000 in
theorem ggL_law_X6_load : GoodIn wsL_law wsX6_load := goodIn_app (a := [.code yX6_load cX6_load 3 (some .int)]) ggL_law_X6_load_1 (goodIn_app (goodIn_app (goodIn_app (goodIn_app (goodIn_app (goodIn_app (goodIn_app ggL_law_X6_load_2 (goodIn_app ggL_law_X6_load_3 (goodIn_app ggL_law_X6_load_4 (goodIn_app ggL_law_X6_load_5 ggL_law_X6_load_6)))) ggL_law_X6_load_7) ggL_law_X6_load_8) ggL_law_X6_load_9) ggL_law_X6_load_10) ggL_law_X6_load_11) ggL_law_X6_load_12)
set_option maxRecDepth 20000 in
theorem gL_law_X6_load : GoodIn wsL_law (wsV RL 27 RX6 yX6_load wsX6_load) := goodIn_app (goodIn_of _ (by decide +kernel)) ggL_law_X6_load
set_option maxRecDepth 20000 in
theorem ggL_law_X6_tick_1 : GoodIn wsL_law [.code yX6_tick cX6_tick 3 (some .int)] := goodIn_r _ [475] (by decide +kernel) (by decide +kernel)
set_option maxRecDepth 20000 in
theorem ggL_law_X6_tick_2 : GoodIn wsL_law wsX6_tick_r1 := goodIn_r _ [192, 18, 191, 476, 370, 234, 193, 194, 2, 195, 245, 246, 247, 248, 93, 19, 91, 94, 95, 96, 17, 97, 36, 40] (by decide +kernel) (by decide +kernel)
set_option maxRecDepth 20000 in
theorem ggL_law_X6_tick_3 : GoodIn wsL_law wsX6_tick_r2 := goodIn_r _ [44, 46, 47, 48, 98, 99, 100, 35, 101, 52, 102, 103, 104, 105, 106, 107, 108, 109, 110, 111, 112, 113, 114, 115] (by decide +kernel) (by decide +kernel)
set_option maxRecDepth 20000 in
theorem ggL_law_X6_tick_4 : GoodIn wsL_law wsX6_tick_r3 := goodIn_r _ [116, 117, 118, 39, 119, 56, 120, 121, 122, 123, 124, 125, 126, 127, 128, 129, 57, 130, 131, 132, 133, 134, 135, 136] (by decide +kernel) (by decide +kernel)
set_option maxRecDepth 20000 in
theorem ggL_law_X6_tick_5 : GoodIn wsL_law wsX6_tick_r4 := goodIn_r _ [137, 58, 138, 139, 140, 141, 142, 143, 144, 145, 59, 146, 147, 148, 149, 150, 151, 152, 43, 153, 64, 154, 155, 156] (by decide +kernel) (by decide +kernel)
set_option maxRecDepth 20000 in
theorem ggL_law_X6_tick_6 : GoodIn wsL_law wsX6_tick_r5 := goodIn_r _ [28, 157, 86, 74, 75, 158, 159, 71, 160, 161, 162, 163, 164, 165, 477, 478, 479, 480, 200, 201, 202, 203, 204, 205] (by decide +kernel) (by decide +kernel)
set_option maxRecDepth 20000 in
theorem ggL_law_X6_tick_7 : GoodIn wsL_law wsX6_tick_r6 := goodIn_r _ [206, 207, 481, 482, 483, 484, 221, 485, 486, 487, 488, 242, 243, 244, 226, 227, 228, 229, 249] (by decide +kernel) (by decide +kernel)
set_option maxRecDepth 20000 in
theorem ggL_law_X6_tick_8 : GoodIn wsL_law wsX60 := goodIn_r _ [770, 771, 772, 773, 774, 775, 776, 777] (by decide +kernel) (by decide +kernel)
set_option maxRecDepth 20000 in
theorem ggL_law_X6_tick_9 : GoodIn wsL_law wsX40 := goodIn_r _ [778, 779, 780, 781, 782, 783] (by decide +kernel) (by decide +kernel)
set_option maxRecDepth 20000 in
theorem ggL_law_X6_tick_10 : GoodIn wsL_law wsX30 := goodIn_r _ [797, 798, 799, 800, 801, 802, 803, 804, 805, 806, 807] (by decide +kernel) (by decide +kernel)
set_option maxRecDepth 20000 in
theorem ggL_law_X6_tick_11 : GoodIn wsL_law wsX00 := goodIn_r _ [808, 809, 810, 811] (by decide +kernel) (by decide +kernel)
set_option maxRecDepth 20000 in
theorem ggL_law_X6_tick_12 : GoodIn wsL_law wsX20 := goodIn_r _ [812] (by decide +kernel) (by decide +kernel)
set_option maxRecDepth 20000 in
theorem ggL_law_X6_tick_13 : GoodIn wsL_law wsX50 := goodIn_r _ [793, 794, 795, 796] (by decide +kernel) (by decide +kernel)
set_option maxRecDepth 20000 in
theorem ggL_law_X6_tick : GoodIn wsL_law wsX6_tick := goodIn_app (a := [.code yX6_tick cX6_tick 3 (some .int)]) ggL_law_X6_tick_1 (goodIn_app (goodIn_app (goodIn_app (goodIn_app (goodIn_app (goodIn_app (goodIn_app ggL_law_X6_tick_2 (goodIn_app ggL_law_X6_tick_3 (goodIn_app ggL_law_X6_tick_4 (goodIn_app ggL_law_X6_tick_5 (goodIn_app ggL_law_X6_tick_6 ggL_law_X6_tick_7))))) ggL_law_X6_tick_8) ggL_law_X6_tick_9) ggL_law_X6_tick_10) ggL_law_X6_tick_11) ggL_law_X6_tick_12) ggL_law_X6_tick_13)
set_option maxRecDepth 20000 in
theorem gL_law_X6_tick : GoodIn wsL_law (wsV RL 30 RX6 yX6_tick wsX6_tick) := goodIn_app (goodIn_of _ (by decide +kernel)) ggL_law_X6_tick
set_option maxRecDepth 20000 in
theorem ggL_law_L_scale_1 : GoodIn wsL_law [.code yL_scale cL_scale 4 (some .boolean)] := goodIn_r _ [589] (by decide +kernel) (by decide +kernel)
set_option maxRecDepth 20000 in
theorem ggL_law_L_scale_2 : GoodIn wsL_law wsL_scale_r1 := goodIn_r _ [187, 188, 189, 2, 190, 18, 191, 192, 193, 194, 195, 196, 197, 198, 35, 199, 103, 104, 105, 106, 107, 102, 200, 201] (by decide +kernel) (by decide +kernel)
set_option maxRecDepth 20000 in
theorem ggL_law_L_scale_3 : GoodIn wsL_law wsL_scale_r2 := goodIn_r _ [202, 203, 112, 113, 114, 115, 52, 204, 205, 206, 207, 208, 209, 210, 211, 212, 213, 214, 215, 216, 217, 218, 219, 109] (by decide +kernel) (by decide +kernel)
set_option maxRecDepth 20000 in
theorem ggL_law_L_scale_4 : GoodIn wsL_law wsL_scale_r3 := goodIn_r _ [110, 111, 220, 70, 71, 72, 221, 159, 160, 108, 222, 223, 224, 225, 226, 227, 228, 229, 462, 390, 391, 392, 387, 393] (by decide +kernel) (by decide +kernel)
set_option maxRecDepth 20000 in
theorem ggL_law_L_scale_5 : GoodIn wsL_law wsL_scale_r4 := goodIn_r _ [120, 121, 394, 590, 591, 377, 592] (by decide +kernel) (by decide +kernel)
set_option maxRecDepth 20000 in
theorem ggL_law_L_scale_6 : GoodIn wsL_law wsX60 := goodIn_r _ [770, 771, 772, 773, 774, 775, 776, 777] (by decide +kernel) (by decide +kernel)
set_option maxRecDepth 20000 in
theorem ggL_law_L_scale_7 : GoodIn wsL_law wsX40 := goodIn_r _ [778, 779, 780, 781, 782, 783] (by decide +kernel) (by decide +kernel)
set_option maxRecDepth 20000 in
theorem ggL_law_L_scale_8 : GoodIn wsL_law wsX30 := goodIn_r _ [797, 798, 799, 800, 801, 802, 803, 804, 805, 806, 807] (by decide +kernel) (by decide +kernel)
set_option maxRecDepth 20000 in
theorem ggL_law_L_scale : GoodIn wsL_law wsL_scale := goodIn_app (a := [.code yL_scale cL_scale 4 (some .boolean)]) ggL_law_L_scale_1 (goodIn_app (goodIn_app (goodIn_app (goodIn_app ggL_law_L_scale_2 (goodIn_app ggL_law_L_scale_3 (goodIn_app ggL_law_L_scale_4 ggL_law_L_scale_5))) ggL_law_L_scale_6) ggL_law_L_scale_7) ggL_law_L_scale_8)
set_option maxRecDepth 20000 in
theorem gL_law_L_scale : GoodIn wsL_law (va_wsS RL 146 yL_scale wsL_scale) := goodIn_app (goodIn_of _ (by decide +kernel)) ggL_law_L_scale
set_option maxRecDepth 20000 in
theorem ggL_law_X6_setting : GoodIn wsL_law wsX6_setting := goodIn_r _ [392, 387, 18, 191, 192, 393, 120, 2, 121, 394, 113, 114, 35, 115, 52, 770, 771, 772, 773, 774, 775, 776, 777, 778, 779, 780, 781, 782, 783, 797, 798, 799, 800, 801, 802, 803, 804, 805, 806, 807] (by decide +kernel) (by decide +kernel)
set_option maxRecDepth 20000 in
theorem gL_law_X6_setting : GoodIn wsL_law (wsV RL 22 RX6 yX6_setting wsX6_setting) := goodIn_app (goodIn_of _ (by decide +kernel)) ggL_law_X6_setting
set_option maxRecDepth 20000 in
theorem ggL_law_L_size : GoodIn wsL_law wsL_size := goodIn_r _ [592] (by decide +kernel) (by decide +kernel)
set_option maxRecDepth 20000 in
theorem gL_law_L_size : GoodIn wsL_law (va_wsS RL 96 yL_size wsL_size) := goodIn_app (goodIn_of _ (by decide +kernel)) ggL_law_L_size
set_option maxRecDepth 20000 in
theorem ggL_law_X6_bandAt_1 : GoodIn wsL_law [.code yX6_bandAt cX6_bandAt 4 (some .int)] := goodIn_r _ [403] (by decide +kernel) (by decide +kernel)
set_option maxRecDepth 20000 in
theorem ggL_law_X6_bandAt_2 : GoodIn wsL_law wsX6_bandAt_r1 := goodIn_r _ [18, 284, 192, 404, 131, 132, 39, 133, 56, 193, 194, 2, 195, 405, 127, 128, 129, 57, 130, 120, 121, 406, 135, 136] (by decide +kernel) (by decide +kernel)
set_option maxRecDepth 20000 in
theorem ggL_law_X6_bandAt_3 : GoodIn wsL_law wsX6_bandAt_r2 := goodIn_r _ [137, 58] (by decide +kernel) (by decide +kernel)
set_option maxRecDepth 20000 in
theorem ggL_law_X6_bandAt_4 : GoodIn wsL_law wsX60 := goodIn_r _ [770, 771, 772, 773, 774, 775, 776, 777] (by decide +kernel) (by decide +kernel)
set_option maxRecDepth 20000 in
theorem ggL_law_X6_bandAt_5 : GoodIn wsL_law wsX40 := goodIn_r _ [778, 779, 780, 781, 782, 783] (by decide +kernel) (by decide +kernel)
set_option maxRecDepth 20000 in
theorem ggL_law_X6_bandAt_6 : GoodIn wsL_law wsX00 := goodIn_r _ [808, 809, 810, 811] (by decide +kernel) (by decide +kernel)
set_option maxRecDepth 20000 in
theorem ggL_law_X6_bandAt : GoodIn wsL_law wsX6_bandAt := goodIn_app (a := [.code yX6_bandAt cX6_bandAt 4 (some .int)]) ggL_law_X6_bandAt_1 (goodIn_app (goodIn_app (goodIn_app (goodIn_app ggL_law_X6_bandAt_2 ggL_law_X6_bandAt_3) ggL_law_X6_bandAt_4) ggL_law_X6_bandAt_5) ggL_law_X6_bandAt_6)
set_option maxRecDepth 20000 in
theorem gL_law_X6_bandAt : GoodIn wsL_law (wsV RL 43 RX6 yX6_bandAt wsX6_bandAt) := goodIn_app (goodIn_of _ (by decide +kernel)) ggL_law_X6_bandAt
set_option maxRecDepth 20000 in
theorem ggL_law_X6_parcel_1 : GoodIn wsL_law [.code yX6_parcel cX6_parcel 3 (some .int)] := goodIn_r _ [417] (by decide +kernel) (by decide +kernel)
set_option maxRecDepth 20000 in
theorem ggL_law_X6_parcel_2 : GoodIn wsL_law wsX6_parcel_r1 := goodIn_r _ [18, 170, 192, 418, 419, 420, 28, 421, 86, 193, 194, 2, 195, 422, 423, 424, 425, 176, 171, 92, 305, 300, 301, 302] (by decide +kernel) (by decide +kernel)
set_option maxRecDepth 20000 in
theorem ggL_law_X6_parcel_3 : GoodIn wsL_law wsX6_parcel_r2 := goodIn_r _ [73, 74, 75] (by decide +kernel) (by decide +kernel)
set_option maxRecDepth 20000 in
theorem ggL_law_X6_parcel_4 : GoodIn wsL_law wsX60 := goodIn_r _ [770, 771, 772, 773, 774, 775, 776, 777] (by decide +kernel) (by decide +kernel)
set_option maxRecDepth 20000 in
theorem ggL_law_X6_parcel_5 : GoodIn wsL_law wsX40 := goodIn_r _ [778, 779, 780, 781, 782, 783] (by decide +kernel) (by decide +kernel)
set_option maxRecDepth 20000 in
theorem ggL_law_X6_parcel_6 : GoodIn wsL_law wsX50 := goodIn_r _ [793, 794, 795, 796] (by decide +kernel) (by decide +kernel)
set_option maxRecDepth 20000 in
theorem ggL_law_X6_parcel : GoodIn wsL_law wsX6_parcel := goodIn_app (a := [.code yX6_parcel cX6_parcel 3 (some .int)]) ggL_law_X6_parcel_1 (goodIn_app (goodIn_app (goodIn_app (goodIn_app ggL_law_X6_parcel_2 ggL_law_X6_parcel_3) ggL_law_X6_parcel_4) ggL_law_X6_parcel_5) ggL_law_X6_parcel_6)
set_option maxRecDepth 20000 in
theorem gL_law_X6_parcel : GoodIn wsL_law (wsV RL 60 RX6 yX6_parcel wsX6_parcel) := goodIn_app (goodIn_of _ (by decide +kernel)) ggL_law_X6_parcel
set_option maxRecDepth 20000 in
theorem ggL_law_X6_set_1 : GoodIn wsL_law [.code yX6_set cX6_set 4 (some .int)] := goodIn_r _ [456] (by decide +kernel) (by decide +kernel)
set_option maxRecDepth 20000 in
theorem ggL_law_X6_set_2 : GoodIn wsL_law wsX6_set_r1 := goodIn_r _ [387, 457, 192, 18, 191, 393, 120, 2, 121, 193, 194, 195, 394, 113, 114, 35, 115, 52, 245, 246, 247, 248, 93, 19] (by decide +kernel) (by decide +kernel)
set_option maxRecDepth 20000 in
theorem ggL_law_X6_set_3 : GoodIn wsL_law wsX6_set_r2 := goodIn_r _ [91, 94, 95, 96, 17, 97, 36, 40, 44, 46, 47, 48, 98, 99, 100, 101, 102, 103, 104, 105, 106, 107, 108, 109] (by decide +kernel) (by decide +kernel)
set_option maxRecDepth 20000 in
theorem ggL_law_X6_set_4 : GoodIn wsL_law wsX6_set_r3 := goodIn_r _ [110, 111, 112, 116, 117, 118, 39, 119, 56, 122, 123, 124, 125, 126, 127, 128, 129, 57, 130, 131, 132, 133, 134, 135] (by decide +kernel) (by decide +kernel)
set_option maxRecDepth 20000 in
theorem ggL_law_X6_set_5 : GoodIn wsL_law wsX6_set_r4 := goodIn_r _ [136, 137, 58, 138, 139, 140, 141, 142, 143, 144, 145, 59, 146, 147, 148, 149, 150, 151, 152, 43, 153, 64, 154, 155] (by decide +kernel) (by decide +kernel)
set_option maxRecDepth 20000 in
theorem ggL_law_X6_set_6 : GoodIn wsL_law wsX6_set_r5 := goodIn_r _ [156, 28, 157, 86, 74, 75, 158, 159, 71, 160, 161, 162, 163, 164, 165, 458, 459, 460, 461] (by decide +kernel) (by decide +kernel)
set_option maxRecDepth 20000 in
theorem ggL_law_X6_set_7 : GoodIn wsL_law wsX60 := goodIn_r _ [770, 771, 772, 773, 774, 775, 776, 777] (by decide +kernel) (by decide +kernel)
set_option maxRecDepth 20000 in
theorem ggL_law_X6_set_8 : GoodIn wsL_law wsX40 := goodIn_r _ [778, 779, 780, 781, 782, 783] (by decide +kernel) (by decide +kernel)
set_option maxRecDepth 20000 in
theorem ggL_law_X6_set_9 : GoodIn wsL_law wsX30 := goodIn_r _ [797, 798, 799, 800, 801, 802, 803, 804, 805, 806, 807] (by decide +kernel) (by decide +kernel)
set_option maxRecDepth 20000 in
theorem ggL_law_X6_set_10 : GoodIn wsL_law wsX00 := goodIn_r _ [808, 809, 810, 811] (by decide +kernel) (by decide +kernel)
set_option maxRecDepth 20000 in
theorem ggL_law_X6_set_11 : GoodIn wsL_law wsX20 := goodIn_r _ [812] (by decide +kernel) (by decide +kernel)
set_option maxRecDepth 20000 in
theorem ggL_law_X6_set_12 : GoodIn wsL_law wsX50 := goodIn_r _ [793, 794, 795, 796] (by decide +kernel) (by decide +kernel)
set_option maxRecDepth 20000 in
theorem ggL_law_X6_set : GoodIn wsL_law wsX6_set := goodIn_app (a := [.code yX6_set cX6_set 4 (some .int)]) ggL_law_X6_set_1 (goodIn_app (goodIn_app (goodIn_app (goodIn_app (goodIn_app (goodIn_app (goodIn_app ggL_law_X6_set_2 (goodIn_app ggL_law_X6_set_3 (goodIn_app ggL_law_X6_set_4 (goodIn_app ggL_law_X6_set_5 ggL_law_X6_set_6)))) ggL_law_X6_set_7) ggL_law_X6_set_8) ggL_law_X6_set_9) ggL_law_X6_set_10) ggL_law_X6_set_11) ggL_law_X6_set_12)
set_option maxRecDepth 20000 in
theorem gL_law_X6_set : GoodIn wsL_law (wsV RL 15 RX6 yX6_set wsX6_set) := goodIn_app (goodIn_of _ (by decide +kernel)) ggL_law_X6_set
set_option maxRecDepth 20000 in
theorem ggL_law_L_rule_1 : GoodIn wsL_law [.code yL_rule cL_rule 8 (some .int)] := goodIn_r _ [595] (by decide +kernel) (by decide +kernel)
set_option maxRecDepth 20000 in
theorem ggL_law_L_rule_2 : GoodIn wsL_law wsL_rule_r1 := goodIn_r _ [583, 584, 377, 585, 586, 513, 514, 515, 2, 516, 192, 517, 21, 269, 193, 194, 195, 596, 597, 598, 599, 25, 18, 181] (by decide +kernel) (by decide +kernel)
set_option maxRecDepth 20000 in
theorem ggL_law_L_rule_3 : GoodIn wsL_law wsL_rule_r2 := goodIn_r _ [600, 601, 602, 603, 604, 605, 606, 24, 607, 608, 609, 610, 611, 612, 613, 614, 615, 616, 617, 618, 619, 620, 621, 622] (by decide +kernel) (by decide +kernel)
set_option maxRecDepth 20000 in
theorem ggL_law_L_rule_4 : GoodIn wsL_law wsL_rule_r3 := goodIn_r _ [623, 80, 120, 121, 624, 625, 626, 627, 628, 629, 630, 631, 632, 633, 634, 635, 636, 637, 638, 639, 640, 641, 642, 643] (by decide +kernel) (by decide +kernel)
set_option maxRecDepth 20000 in
theorem ggL_law_L_rule_5 : GoodIn wsL_law wsL_rule_r4 := goodIn_r _ [644, 645, 646, 647, 648, 649, 650, 651, 652, 70, 71, 72, 653, 159, 160, 654, 655, 656, 657, 658, 659, 660, 661, 662] (by decide +kernel) (by decide +kernel)
set_option maxRecDepth 20000 in
theorem ggL_law_L_rule_6 : GoodIn wsL_law wsL_rule_r5 := goodIn_r _ [663, 664, 665, 666, 667, 668, 669, 670, 671, 672, 673, 674, 675, 676, 677, 678, 679, 680, 681, 682, 683, 684, 685, 686] (by decide +kernel) (by decide +kernel)
set_option maxRecDepth 20000 in
theorem ggL_law_L_rule_7 : GoodIn wsL_law wsL_rule_r6 := goodIn_r _ [687, 688, 689, 690, 691, 692, 693, 694, 695, 696, 697, 698, 699, 700, 701, 702, 703, 704, 705, 706, 707, 708, 709, 710] (by decide +kernel) (by decide +kernel)
set_option maxRecDepth 20000 in
theorem ggL_law_L_rule_8 : GoodIn wsL_law wsL_rule_r7 := goodIn_r _ [711, 712, 713, 714, 715, 716, 717, 718, 719, 720, 721, 722, 723, 724, 725, 726, 727, 728, 729, 730, 731, 732, 733, 734] (by decide +kernel) (by decide +kernel)
set_option maxRecDepth 20000 in
theorem ggL_law_L_rule_9 : GoodIn wsL_law wsL_rule_r8 := goodIn_r _ [735, 736, 737, 738, 739, 740, 182, 183, 184, 43, 185, 64, 186, 245, 246, 247, 248, 93, 19, 91, 94, 95, 96, 17] (by decide +kernel) (by decide +kernel)
set_option maxRecDepth 20000 in
theorem ggL_law_L_rule_10 : GoodIn wsL_law wsL_rule_r9 := goodIn_r _ [97, 36, 40, 44, 46, 47, 48, 98, 99, 100, 35, 101, 52, 102, 103, 104, 105, 106, 107, 108, 109, 110, 111, 112] (by decide +kernel) (by decide +kernel)
set_option maxRecDepth 20000 in
theorem ggL_law_L_rule_11 : GoodIn wsL_law wsL_rule_r10 := goodIn_r _ [113, 114, 115, 116, 117, 118, 39, 119, 56, 122, 123, 124, 125, 126, 127, 128, 129, 57, 130, 131, 132, 133, 134, 135] (by decide +kernel) (by decide +kernel)
set_option maxRecDepth 20000 in
theorem ggL_law_L_rule_12 : GoodIn wsL_law wsL_rule_r11 := goodIn_r _ [136, 137, 58, 138, 139, 140, 141, 142, 143, 144, 145, 59, 146, 147, 148, 149, 150, 151, 152, 153, 154, 155, 156, 28] (by decide +kernel) (by decide +kernel)
set_option maxRecDepth 20000 in
theorem ggL_law_L_rule_13 : GoodIn wsL_law wsL_rule_r12 := goodIn_r _ [157, 86, 74, 75, 158, 161, 162, 163, 164, 165, 741, 742, 743, 744, 745, 746, 747, 748, 83, 84, 85, 73, 749, 290] (by decide +kernel) (by decide +kernel)
set_option maxRecDepth 20000 in
theorem ggL_law_L_rule_14 : GoodIn wsL_law wsL_rule_r13 := goodIn_r _ [291, 292, 750, 751, 752, 753] (by decide +kernel) (by decide +kernel)
set_option maxRecDepth 20000 in
theorem ggL_law_L_rule_15 : GoodIn wsL_law wsX60 := goodIn_r _ [770, 771, 772, 773, 774, 775, 776, 777] (by decide +kernel) (by decide +kernel)
set_option maxRecDepth 20000 in
theorem ggL_law_L_rule_16 : GoodIn wsL_law wsX40 := goodIn_r _ [778, 779, 780, 781, 782, 783] (by decide +kernel) (by decide +kernel)
set_option maxRecDepth 20000 in
theorem ggL_law_L_rule_17 : GoodIn wsL_law wsX10 := goodIn_r _ [784, 785, 786, 787, 788, 789, 790, 791, 792] (by decide +kernel) (by decide +kernel)
set_option maxRecDepth 20000 in
theorem ggL_law_L_rule_18 : GoodIn wsL_law wsX20 := goodIn_r _ [812] (by decide +kernel) (by decide +kernel)
set_option maxRecDepth 20000 in
theorem ggL_law_L_rule_19 : GoodIn wsL_law wsX50 := goodIn_r _ [793, 794, 795, 796] (by decide +kernel) (by decide +kernel)
set_option maxRecDepth 20000 in
theorem ggL_law_L_rule_20 : GoodIn wsL_law wsX30 := goodIn_r _ [797, 798, 799, 800, 801, 802, 803, 804, 805, 806, 807] (by decide +kernel) (by decide +kernel)
set_option maxRecDepth 20000 in
theorem ggL_law_L_rule_21 : GoodIn wsL_law wsX00 := goodIn_r _ [808, 809, 810, 811] (by decide +kernel) (by decide +kernel)
set_option maxRecDepth 20000 in
theorem ggL_law_L_rule : GoodIn wsL_law wsL_rule := goodIn_app (a := [.code yL_rule cL_rule 8 (some .int)]) ggL_law_L_rule_1 (goodIn_app (goodIn_app (goodIn_app (goodIn_app (goodIn_app (goodIn_app (goodIn_app (goodIn_app ggL_law_L_rule_2 (goodIn_app ggL_law_L_rule_3 (goodIn_app ggL_law_L_rule_4 (goodIn_app ggL_law_L_rule_5 (goodIn_app ggL_law_L_rule_6 (goodIn_app ggL_law_L_rule_7 (goodIn_app ggL_law_L_rule_8 (goodIn_app ggL_law_L_rule_9 (goodIn_app ggL_law_L_rule_10 (goodIn_app ggL_law_L_rule_11 (goodIn_app ggL_law_L_rule_12 (goodIn_app ggL_law_L_rule_13 ggL_law_L_rule_14)))))))))))) ggL_law_L_rule_15) ggL_law_L_rule_16) ggL_law_L_rule_17) ggL_law_L_rule_18) ggL_law_L_rule_19) ggL_law_L_rule_20) ggL_law_L_rule_21)
set_option maxRecDepth 20000 in
theorem gL_law_L_rule : GoodIn wsL_law (va_wsS RL 150 yL_rule wsL_rule) := goodIn_app (goodIn_of _ (by decide +kernel)) ggL_law_L_rule
set_option maxRecDepth 20000 in
theorem ggL_law_X6_clear : GoodIn wsL_law wsX6_clear := goodIn_r _ [757, 517, 770, 771, 772, 773, 774, 775, 776, 777] (by decide +kernel) (by decide +kernel)
set_option maxRecDepth 20000 in
theorem gL_law_X6_clear : GoodIn wsL_law (wsV RL 153 RX6 yX6_clear wsX6_clear) := goodIn_app (goodIn_of _ (by decide +kernel)) ggL_law_X6_clear
set_option maxRecDepth 20000 in
theorem ggL_law_X6_unband_1 : GoodIn wsL_law [.code yX6_unband cX6_unband 3 (some .int)] := goodIn_r _ [502] (by decide +kernel) (by decide +kernel)
set_option maxRecDepth 20000 in
theorem ggL_law_X6_unband_2 : GoodIn wsL_law wsX6_unband_r1 := goodIn_r _ [18, 284, 192, 404, 131, 132, 39, 133, 56, 245, 246, 247, 2, 248, 93, 19, 91, 94, 95, 96, 17, 97, 36, 40] (by decide +kernel) (by decide +kernel)
set_option maxRecDepth 20000 in
theorem ggL_law_X6_unband_3 : GoodIn wsL_law wsX6_unband_r2 := goodIn_r _ [44, 46, 47, 48, 98, 99, 100, 35, 101, 52, 102, 103, 104, 105, 106, 107, 108, 109, 110, 111, 112, 113, 114, 115] (by decide +kernel) (by decide +kernel)
set_option maxRecDepth 20000 in
theorem ggL_law_X6_unband_4 : GoodIn wsL_law wsX6_unband_r3 := goodIn_r _ [116, 117, 118, 119, 120, 121, 122, 123, 124, 125, 126, 127, 128, 129, 57, 130, 134, 135, 136, 137, 58, 138, 139, 140] (by decide +kernel) (by decide +kernel)
set_option maxRecDepth 20000 in
theorem ggL_law_X6_unband_5 : GoodIn wsL_law wsX6_unband_r4 := goodIn_r _ [141, 142, 143, 144, 145, 59, 146, 147, 148, 149, 150, 151, 152, 43, 153, 64, 154, 155, 156, 28, 157, 86, 74, 75] (by decide +kernel) (by decide +kernel)
set_option maxRecDepth 20000 in
theorem ggL_law_X6_unband_6 : GoodIn wsL_law wsX6_unband_r5 := goodIn_r _ [158, 159, 71, 160, 161, 162, 163, 164, 165, 503, 504, 505, 506, 285] (by decide +kernel) (by decide +kernel)
set_option maxRecDepth 20000 in
theorem ggL_law_X6_unband_7 : GoodIn wsL_law wsX60 := goodIn_r _ [770, 771, 772, 773, 774, 775, 776, 777] (by decide +kernel) (by decide +kernel)
set_option maxRecDepth 20000 in
theorem ggL_law_X6_unband_8 : GoodIn wsL_law wsX40 := goodIn_r _ [778, 779, 780, 781, 782, 783] (by decide +kernel) (by decide +kernel)
set_option maxRecDepth 20000 in
theorem ggL_law_X6_unband_9 : GoodIn wsL_law wsX00 := goodIn_r _ [808, 809, 810, 811] (by decide +kernel) (by decide +kernel)
set_option maxRecDepth 20000 in
theorem ggL_law_X6_unband_10 : GoodIn wsL_law wsX30 := goodIn_r _ [797, 798, 799, 800, 801, 802, 803, 804, 805, 806, 807] (by decide +kernel) (by decide +kernel)
set_option maxRecDepth 20000 in
theorem ggL_law_X6_unband_11 : GoodIn wsL_law wsX20 := goodIn_r _ [812] (by decide +kernel) (by decide +kernel)
set_option maxRecDepth 20000 in
theorem ggL_law_X6_unband_12 : GoodIn wsL_law wsX50 := goodIn_r _ [793, 794, 795, 796] (by decide +kernel) (by decide +kernel)
set_option maxRecDepth 20000 in
theorem ggL_law_X6_unband : GoodIn wsL_law wsX6_unband := goodIn_app (a := [.code yX6_unband cX6_unband 3 (some .int)]) ggL_law_X6_unband_1 (goodIn_app (goodIn_app (goodIn_app (goodIn_app (goodIn_app (goodIn_app (goodIn_app ggL_law_X6_unband_2 (goodIn_app ggL_law_X6_unband_3 (goodIn_app ggL_law_X6_unband_4 (goodIn_app ggL_law_X6_unband_5 ggL_law_X6_unband_6)))) ggL_law_X6_unband_7) ggL_law_X6_unband_8) ggL_law_X6_unband_9) ggL_law_X6_unband_10) ggL_law_X6_unband_11) ggL_law_X6_unband_12)
set_option maxRecDepth 20000 in
theorem gL_law_X6_unband : GoodIn wsL_law (wsV RL 40 RX6 yX6_unband wsX6_unband) := goodIn_app (goodIn_of _ (by decide +kernel)) ggL_law_X6_unband
set_option maxRecDepth 20000 in
theorem ggL_law_X6_dispute_1 : GoodIn wsL_law [.code yX6_dispute cX6_dispute 4 (some .int)] := goodIn_r _ [529] (by decide +kernel) (by decide +kernel)
set_option maxRecDepth 20000 in
theorem ggL_law_X6_dispute_2 : GoodIn wsL_law wsX6_dispute_r1 := goodIn_r _ [18, 170, 192, 370, 92, 234, 176, 171, 269, 418, 419, 420, 28, 421, 86, 193, 194, 2, 195, 422, 423, 424, 425, 305] (by decide +kernel) (by decide +kernel)
set_option maxRecDepth 20000 in
theorem ggL_law_X6_dispute_3 : GoodIn wsL_law wsX6_dispute_r2 := goodIn_r _ [300, 301, 302, 73, 74, 75, 280, 281, 282, 283, 284, 285, 123, 124, 39, 125, 56, 120, 121, 245, 246, 247, 248, 93] (by decide +kernel) (by decide +kernel)
set_option maxRecDepth 20000 in
theorem ggL_law_X6_dispute_4 : GoodIn wsL_law wsX6_dispute_r3 := goodIn_r _ [19, 91, 94, 95, 96, 17, 97, 36, 40, 44, 46, 47, 48, 98, 99, 100, 35, 101, 52, 102, 103, 104, 105, 106] (by decide +kernel) (by decide +kernel)
set_option maxRecDepth 20000 in
theorem ggL_law_X6_dispute_5 : GoodIn wsL_law wsX6_dispute_r4 := goodIn_r _ [107, 108, 109, 110, 111, 112, 113, 114, 115, 116, 117, 118, 119, 122, 126, 127, 128, 129, 57, 130, 131, 132, 133, 134] (by decide +kernel) (by decide +kernel)
set_option maxRecDepth 20000 in
theorem ggL_law_X6_dispute_6 : GoodIn wsL_law wsX6_dispute_r5 := goodIn_r _ [135, 136, 137, 58, 138, 139, 140, 141, 142, 143, 144, 145, 59, 146, 147, 148, 149, 150, 151, 152, 43, 153, 64, 154] (by decide +kernel) (by decide +kernel)
set_option maxRecDepth 20000 in
theorem ggL_law_X6_dispute_7 : GoodIn wsL_law wsX6_dispute_r6 := goodIn_r _ [155, 156, 157, 158, 159, 71, 160, 161, 162, 163, 164, 165, 530, 531, 532, 533, 534, 82, 83, 84, 85, 535, 536, 537] (by decide +kernel) (by decide +kernel)
set_option maxRecDepth 20000 in
theorem ggL_law_X6_dispute_8 : GoodIn wsL_law wsX6_dispute_r7 := goodIn_r _ [538, 448, 539, 290, 291, 292, 289, 293, 294, 295, 296, 297, 298, 70, 72, 299, 303, 304, 306, 307, 308, 309, 310, 311] (by decide +kernel) (by decide +kernel)
set_option maxRecDepth 20000 in
theorem ggL_law_X6_dispute_9 : GoodIn wsL_law wsX6_dispute_r8 := goodIn_r _ [312, 313, 314, 315, 316, 317, 318, 319, 320, 321, 322, 323, 324, 325, 326, 327, 328, 329, 330, 331, 332, 333, 334, 186] (by decide +kernel) (by decide +kernel)
set_option maxRecDepth 20000 in
theorem ggL_law_X6_dispute_10 : GoodIn wsL_law wsX6_dispute_r9 := goodIn_r _ [335, 336, 337, 338, 339, 340, 341, 342, 343, 344, 345, 346, 347, 348, 349, 350, 351, 352, 353, 354, 355, 356, 357, 358] (by decide +kernel) (by decide +kernel)
set_option maxRecDepth 20000 in
theorem ggL_law_X6_dispute_11 : GoodIn wsL_law wsX6_dispute_r10 := goodIn_r _ [359, 360, 361, 362, 363, 364, 365] (by decide +kernel) (by decide +kernel)
set_option maxRecDepth 20000 in
theorem ggL_law_X6_dispute_12 : GoodIn wsL_law wsX60 := goodIn_r _ [770, 771, 772, 773, 774, 775, 776, 777] (by decide +kernel) (by decide +kernel)
set_option maxRecDepth 20000 in
theorem ggL_law_X6_dispute_13 : GoodIn wsL_law wsX40 := goodIn_r _ [778, 779, 780, 781, 782, 783] (by decide +kernel) (by decide +kernel)
set_option maxRecDepth 20000 in
theorem ggL_law_X6_dispute_14 : GoodIn wsL_law wsX50 := goodIn_r _ [793, 794, 795, 796] (by decide +kernel) (by decide +kernel)
set_option maxRecDepth 20000 in
theorem ggL_law_X6_dispute_15 : GoodIn wsL_law wsX00 := goodIn_r _ [808, 809, 810, 811] (by decide +kernel) (by decide +kernel)
set_option maxRecDepth 20000 in
theorem ggL_law_X6_dispute_16 : GoodIn wsL_law wsX30 := goodIn_r _ [797, 798, 799, 800, 801, 802, 803, 804, 805, 806, 807] (by decide +kernel) (by decide +kernel)
set_option maxRecDepth 20000 in
theorem ggL_law_X6_dispute_17 : GoodIn wsL_law wsX20 := goodIn_r _ [812] (by decide +kernel) (by decide +kernel)
set_option maxRecDepth 20000 in
theorem ggL_law_X6_dispute : GoodIn wsL_law wsX6_dispute := goodIn_app (a := [.code yX6_dispute cX6_dispute 4 (some .int)]) ggL_law_X6_dispute_1 (goodIn_app (goodIn_app (goodIn_app (goodIn_app (goodIn_app (goodIn_app (goodIn_app ggL_law_X6_dispute_2 (goodIn_app ggL_law_X6_dispute_3 (goodIn_app ggL_law_X6_dispute_4 (goodIn_app ggL_law_X6_dispute_5 (goodIn_app ggL_law_X6_dispute_6 (goodIn_app ggL_law_X6_dispute_7 (goodIn_app ggL_law_X6_dispute_8 (goodIn_app ggL_law_X6_dispute_9 (goodIn_app ggL_law_X6_dispute_10 ggL_law_X6_dispute_11))))))))) ggL_law_X6_dispute_12) ggL_law_X6_dispute_13) ggL_law_X6_dispute_14) ggL_law_X6_dispute_15) ggL_law_X6_dispute_16) ggL_law_X6_dispute_17)
set_option maxRecDepth 20000 in
theorem gL_law_X6_dispute : GoodIn wsL_law (wsV RL 71 RX6 yX6_dispute wsX6_dispute) := goodIn_app (goodIn_of _ (by decide +kernel)) ggL_law_X6_dispute
set_option maxRecDepth 20000 in
theorem ggL_law_X6_note : GoodIn wsL_law wsX6_note := goodIn_r _ [438, 18, 176, 192, 418, 419, 420, 28, 421, 86, 193, 194, 2, 195, 305, 300, 301, 302, 73, 74, 75, 770, 771, 772, 773, 774, 775, 776, 777, 778, 779, 780, 781, 782, 783, 793, 794, 795, 796] (by decide +kernel) (by decide +kernel)
set_option maxRecDepth 20000 in
theorem gL_law_X6_note : GoodIn wsL_law (wsV RL 78 RX6 yX6_note wsX6_note) := goodIn_app (goodIn_of _ (by decide +kernel)) ggL_law_X6_note
set_option maxRecDepth 20000 in
theorem ggL_law_X6_settle_1 : GoodIn wsL_law [.code yX6_settle cX6_settle 3 (some .int)] := goodIn_r _ [543] (by decide +kernel) (by decide +kernel)
set_option maxRecDepth 20000 in
theorem ggL_law_X6_settle_2 : GoodIn wsL_law wsX6_settle_r1 := goodIn_r _ [18, 176, 192, 234, 418, 419, 420, 28, 421, 86, 305, 300, 301, 302, 73, 74, 75, 245, 246, 247, 2, 248, 93, 19] (by decide +kernel) (by decide +kernel)
set_option maxRecDepth 20000 in
theorem ggL_law_X6_settle_3 : GoodIn wsL_law wsX6_settle_r2 := goodIn_r _ [91, 94, 95, 96, 17, 97, 36, 40, 44, 46, 47, 48, 98, 99, 100, 35, 101, 52, 102, 103, 104, 105, 106, 107] (by decide +kernel) (by decide +kernel)
set_option maxRecDepth 20000 in
theorem ggL_law_X6_settle_4 : GoodIn wsL_law wsX6_settle_r3 := goodIn_r _ [108, 109, 110, 111, 112, 113, 114, 115, 116, 117, 118, 39, 119, 56, 120, 121, 122, 123, 124, 125, 126, 127, 128, 129] (by decide +kernel) (by decide +kernel)
set_option maxRecDepth 20000 in
theorem ggL_law_X6_settle_5 : GoodIn wsL_law wsX6_settle_r4 := goodIn_r _ [57, 130, 131, 132, 133, 134, 135, 136, 137, 58, 138, 139, 140, 141, 142, 143, 144, 145, 59, 146, 147, 148, 149, 150] (by decide +kernel) (by decide +kernel)
set_option maxRecDepth 20000 in
theorem ggL_law_X6_settle_6 : GoodIn wsL_law wsX6_settle_r5 := goodIn_r _ [151, 152, 43, 153, 64, 154, 155, 156, 157, 158, 159, 71, 160, 161, 162, 163, 164, 165, 289, 290, 291, 292, 544, 545] (by decide +kernel) (by decide +kernel)
set_option maxRecDepth 20000 in
theorem ggL_law_X6_settle_7 : GoodIn wsL_law wsX6_settle_r6 := goodIn_r _ [546, 547, 170, 534, 535, 536, 537, 538, 448, 539] (by decide +kernel) (by decide +kernel)
set_option maxRecDepth 20000 in
theorem ggL_law_X6_settle_8 : GoodIn wsL_law wsX60 := goodIn_r _ [770, 771, 772, 773, 774, 775, 776, 777] (by decide +kernel) (by decide +kernel)
set_option maxRecDepth 20000 in
theorem ggL_law_X6_settle_9 : GoodIn wsL_law wsX40 := goodIn_r _ [778, 779, 780, 781, 782, 783] (by decide +kernel) (by decide +kernel)
set_option maxRecDepth 20000 in
theorem ggL_law_X6_settle_10 : GoodIn wsL_law wsX50 := goodIn_r _ [793, 794, 795, 796] (by decide +kernel) (by decide +kernel)
set_option maxRecDepth 20000 in
theorem ggL_law_X6_settle_11 : GoodIn wsL_law wsX30 := goodIn_r _ [797, 798, 799, 800, 801, 802, 803, 804, 805, 806, 807] (by decide +kernel) (by decide +kernel)
set_option maxRecDepth 20000 in
theorem ggL_law_X6_settle_12 : GoodIn wsL_law wsX00 := goodIn_r _ [808, 809, 810, 811] (by decide +kernel) (by decide +kernel)
set_option maxRecDepth 20000 in
theorem ggL_law_X6_settle_13 : GoodIn wsL_law wsX20 := goodIn_r _ [812] (by decide +kernel) (by decide +kernel)
set_option maxRecDepth 20000 in
theorem ggL_law_X6_settle : GoodIn wsL_law wsX6_settle := goodIn_app (a := [.code yX6_settle cX6_settle 3 (some .int)]) ggL_law_X6_settle_1 (goodIn_app (goodIn_app (goodIn_app (goodIn_app (goodIn_app (goodIn_app (goodIn_app ggL_law_X6_settle_2 (goodIn_app ggL_law_X6_settle_3 (goodIn_app ggL_law_X6_settle_4 (goodIn_app ggL_law_X6_settle_5 (goodIn_app ggL_law_X6_settle_6 ggL_law_X6_settle_7))))) ggL_law_X6_settle_8) ggL_law_X6_settle_9) ggL_law_X6_settle_10) ggL_law_X6_settle_11) ggL_law_X6_settle_12) ggL_law_X6_settle_13)
set_option maxRecDepth 20000 in
theorem gL_law_X6_settle : GoodIn wsL_law (wsV RL 74 RX6 yX6_settle wsX6_settle) := goodIn_app (goodIn_of _ (by decide +kernel)) ggL_law_X6_settle
set_option maxRecDepth 20000 in
theorem ggL_law_L_cheaper_1 : GoodIn wsL_law [.code yL_cheaper cL_cheaper 12 (some .boolean)] := goodIn_r _ [760] (by decide +kernel) (by decide +kernel)
set_option maxRecDepth 20000 in
theorem ggL_law_L_cheaper_2 : GoodIn wsL_law wsL_cheaper_r1 := goodIn_r _ [7, 4, 3, 518, 415, 416, 2, 417, 18, 170, 192, 418, 419, 420, 28, 421, 86, 193, 194, 195, 422, 423, 424, 425] (by decide +kernel) (by decide +kernel)
set_option maxRecDepth 20000 in
theorem ggL_law_L_cheaper_3 : GoodIn wsL_law wsL_cheaper_r2 := goodIn_r _ [176, 171, 92, 305, 300, 301, 302, 73, 74, 75, 366, 367, 368, 369, 370, 234, 29, 270, 271, 272, 273, 274, 275, 276] (by decide +kernel) (by decide +kernel)
set_option maxRecDepth 20000 in
theorem ggL_law_L_cheaper_4 : GoodIn wsL_law wsL_cheaper_r3 := goodIn_r _ [277, 278, 280, 281, 282, 283, 284, 285, 123, 124, 39, 125, 56, 120, 121, 286, 287, 288, 289, 290, 291, 292, 371, 372] (by decide +kernel) (by decide +kernel)
set_option maxRecDepth 20000 in
theorem ggL_law_L_cheaper_5 : GoodIn wsL_law wsL_cheaper_r4 := goodIn_r _ [373, 374, 293, 294, 295, 17, 296, 297, 36, 298, 70, 71, 72, 40, 44, 299, 303, 304, 306, 113, 114, 35, 115, 52] (by decide +kernel) (by decide +kernel)
set_option maxRecDepth 20000 in
theorem ggL_law_L_cheaper_6 : GoodIn wsL_law wsL_cheaper_r5 := goodIn_r _ [307, 308, 309, 310, 311, 312, 313, 314, 315, 316, 317, 318, 319, 320, 321, 322, 323, 324, 325, 326, 122, 126, 127, 128] (by decide +kernel) (by decide +kernel)
set_option maxRecDepth 20000 in
theorem ggL_law_L_cheaper_7 : GoodIn wsL_law wsL_cheaper_r6 := goodIn_r _ [129, 57, 130, 131, 132, 133, 134, 135, 136, 137, 58, 327, 328, 329, 330, 142, 143, 144, 145, 59, 331, 332, 333, 43] (by decide +kernel) (by decide +kernel)
set_option maxRecDepth 20000 in
theorem ggL_law_L_cheaper_8 : GoodIn wsL_law wsL_cheaper_r7 := goodIn_r _ [334, 64, 186, 335, 336, 337, 338, 339, 340, 341, 342, 343, 344, 345, 346, 347, 348, 349, 350, 351, 352, 353, 354, 355] (by decide +kernel) (by decide +kernel)
set_option maxRecDepth 20000 in
theorem ggL_law_L_cheaper_9 : GoodIn wsL_law wsL_cheaper_r8 := goodIn_r _ [356, 357, 358, 359, 360, 361, 362, 363, 364, 365, 550, 551, 552, 553, 535, 536, 537, 538, 448, 539, 554, 555, 556, 557] (by decide +kernel) (by decide +kernel)
set_option maxRecDepth 20000 in
theorem ggL_law_L_cheaper_10 : GoodIn wsL_law wsL_cheaper_r9 := goodIn_r _ [558, 559, 560, 561, 562, 563, 564, 565, 566, 567, 264, 568, 569, 570, 571, 572, 573, 574, 575, 576, 577, 578] (by decide +kernel) (by decide +kernel)
set_option maxRecDepth 20000 in
theorem ggL_law_L_cheaper_11 : GoodIn wsL_law wsX60 := goodIn_r _ [770, 771, 772, 773, 774, 775, 776, 777] (by decide +kernel) (by decide +kernel)
set_option maxRecDepth 20000 in
theorem ggL_law_L_cheaper_12 : GoodIn wsL_law wsX40 := goodIn_r _ [778, 779, 780, 781, 782, 783] (by decide +kernel) (by decide +kernel)
set_option maxRecDepth 20000 in
theorem ggL_law_L_cheaper_13 : GoodIn wsL_law wsX50 := goodIn_r _ [793, 794, 795, 796] (by decide +kernel) (by decide +kernel)
set_option maxRecDepth 20000 in
theorem ggL_law_L_cheaper_14 : GoodIn wsL_law wsX00 := goodIn_r _ [808, 809, 810, 811] (by decide +kernel) (by decide +kernel)
set_option maxRecDepth 20000 in
theorem ggL_law_L_cheaper_15 : GoodIn wsL_law wsX30 := goodIn_r _ [797, 798, 799, 800, 801, 802, 803, 804, 805, 806, 807] (by decide +kernel) (by decide +kernel)
set_option maxRecDepth 20000 in
theorem ggL_law_L_cheaper_16 : GoodIn wsL_law wsX20 := goodIn_r _ [812] (by decide +kernel) (by decide +kernel)
set_option maxRecDepth 20000 in
theorem ggL_law_L_cheaper : GoodIn wsL_law wsL_cheaper := goodIn_app (a := [.code yL_cheaper cL_cheaper 12 (some .boolean)]) ggL_law_L_cheaper_1 (goodIn_app (goodIn_app (goodIn_app (goodIn_app (goodIn_app (goodIn_app (goodIn_app ggL_law_L_cheaper_2 (goodIn_app ggL_law_L_cheaper_3 (goodIn_app ggL_law_L_cheaper_4 (goodIn_app ggL_law_L_cheaper_5 (goodIn_app ggL_law_L_cheaper_6 (goodIn_app ggL_law_L_cheaper_7 (goodIn_app ggL_law_L_cheaper_8 (goodIn_app ggL_law_L_cheaper_9 ggL_law_L_cheaper_10)))))))) ggL_law_L_cheaper_11) ggL_law_L_cheaper_12) ggL_law_L_cheaper_13) ggL_law_L_cheaper_14) ggL_law_L_cheaper_15) ggL_law_L_cheaper_16)
set_option maxRecDepth 20000 in
theorem gL_law_L_cheaper : GoodIn wsL_law (va_wsS RL 156 yL_cheaper wsL_cheaper) := goodIn_app (goodIn_of _ (by decide +kernel)) ggL_law_L_cheaper
set_option maxRecDepth 20000 in
theorem ggL_law_L_sums_1 : GoodIn wsL_law [.code yL_sums cL_sums 15 (some .boolean)] := goodIn_r _ [763] (by decide +kernel) (by decide +kernel)
set_option maxRecDepth 20000 in
theorem ggL_law_L_sums_2 : GoodIn wsL_law wsL_sums_r1 := goodIn_r _ [3, 518, 415, 416, 2, 417, 18, 170, 192, 418, 419, 420, 28, 421, 86, 193, 194, 195, 422, 423, 424, 425, 176, 171] (by decide +kernel) (by decide +kernel)
set_option maxRecDepth 20000 in
theorem ggL_law_L_sums_3 : GoodIn wsL_law wsL_sums_r2 := goodIn_r _ [92, 305, 300, 301, 302, 73, 74, 75, 519, 427, 428, 429, 548, 436, 437, 438, 764, 765, 377, 766, 767, 768, 769, 520] (by decide +kernel) (by decide +kernel)
set_option maxRecDepth 20000 in
theorem ggL_law_L_sums_4 : GoodIn wsL_law wsL_sums_r3 := goodIn_r _ [521, 522, 523, 524, 525, 303, 304, 549, 440, 441, 442, 443, 444, 445, 446, 447, 448, 449, 450, 451, 452] (by decide +kernel) (by decide +kernel)
set_option maxRecDepth 20000 in
theorem ggL_law_L_sums_5 : GoodIn wsL_law wsX60 := goodIn_r _ [770, 771, 772, 773, 774, 775, 776, 777] (by decide +kernel) (by decide +kernel)
set_option maxRecDepth 20000 in
theorem ggL_law_L_sums_6 : GoodIn wsL_law wsX40 := goodIn_r _ [778, 779, 780, 781, 782, 783] (by decide +kernel) (by decide +kernel)
set_option maxRecDepth 20000 in
theorem ggL_law_L_sums_7 : GoodIn wsL_law wsX50 := goodIn_r _ [793, 794, 795, 796] (by decide +kernel) (by decide +kernel)
set_option maxRecDepth 20000 in
theorem ggL_law_L_sums : GoodIn wsL_law wsL_sums := goodIn_app (a := [.code yL_sums cL_sums 15 (some .boolean)]) ggL_law_L_sums_1 (goodIn_app (goodIn_app (goodIn_app (goodIn_app ggL_law_L_sums_2 (goodIn_app ggL_law_L_sums_3 ggL_law_L_sums_4)) ggL_law_L_sums_5) ggL_law_L_sums_6) ggL_law_L_sums_7)
set_option maxRecDepth 20000 in
theorem gL_law_L_sums : GoodIn wsL_law (va_wsS RL 159 yL_sums wsL_sums) := goodIn_app (goodIn_of _ (by decide +kernel)) ggL_law_L_sums
