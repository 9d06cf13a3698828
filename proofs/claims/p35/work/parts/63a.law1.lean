set_option maxRecDepth 20000 in
theorem wsL_law_in_1 : GoodIn lw_tbl wsL_law_r1 := goodIn_p _ [43, 46] (by decide +kernel) (by decide +kernel)
set_option maxRecDepth 20000 in
theorem wsL_law_in_2 : GoodIn lw_tbl wsL_law_r2 := goodIn_p _ [51] (by decide +kernel) (by decide +kernel)
set_option maxRecDepth 20000 in
theorem wsL_law_in_3 : GoodIn lw_tbl wsL_law_r3 := goodIn_p _ [57, 102, 121, 127] (by decide +kernel) (by decide +kernel)
set_option maxRecDepth 20000 in
theorem wsL_law_in_4 : GoodIn lw_tbl wsL_law_r4 := goodIn_p _ [131, 183, 221, 630] (by decide +kernel) (by decide +kernel)
set_option maxRecDepth 20000 in
theorem wsL_law_in_5 : GoodIn lw_tbl wsL_law_r5 := goodIn_p _ [273, 277, 265, 282] (by decide +kernel) (by decide +kernel)
set_option maxRecDepth 20000 in
theorem wsL_law_in_6 : GoodIn lw_tbl wsL_law_r6 := goodIn_p _ [255, 287, 291, 295, 299, 303] (by decide +kernel) (by decide +kernel)
set_option maxRecDepth 20000 in
theorem wsL_law_in_7 : GoodIn lw_tbl wsL_law_r7 := goodIn_p _ [307, 311, 315, 319, 322] (by decide +kernel) (by decide +kernel)
set_option maxRecDepth 20000 in
theorem wsL_law_in_8 : GoodIn lw_tbl wsL_law_r8 := goodIn_p _ [596, 626, 471, 462, 406] (by decide +kernel) (by decide +kernel)
set_option maxRecDepth 20000 in
theorem wsL_law_in_9 : GoodIn lw_tbl wsL_law_r9 := goodIn_p _ [261, 410, 357, 360, 402, 415] (by decide +kernel) (by decide +kernel)
set_option maxRecDepth 20000 in
theorem wsL_law_in_10 : GoodIn lw_tbl wsL_law_r10 := goodIn_p _ [385, 398, 373, 381] (by decide +kernel) (by decide +kernel)
set_option maxRecDepth 20000 in
theorem wsL_law_in_11 : GoodIn lw_tbl wsL_law_r11 := goodIn_p _ [390, 376, 269, 394, 458, 466] (by decide +kernel) (by decide +kernel)
set_option maxRecDepth 20000 in
theorem wsL_law_in_12 : GoodIn lw_tbl wsL_law_r12 := goodIn_p _ [475, 478, 481, 424, 486] (by decide +kernel) (by decide +kernel)
set_option maxRecDepth 20000 in
theorem wsL_law_in_13 : GoodIn lw_tbl wsL_law_r13 := goodIn_p _ [489, 493, 497, 501, 504, 510] (by decide +kernel) (by decide +kernel)
set_option maxRecDepth 20000 in
theorem wsL_law_in_14 : GoodIn lw_tbl wsL_law_r14 := goodIn_p _ [515, 518, 521, 525, 428, 532, 537] (by decide +kernel) (by decide +kernel)
set_option maxRecDepth 20000 in
theorem wsL_law_in_15 : GoodIn lw_tbl wsL_law_r15 := goodIn_p _ [542, 545, 548, 551, 555, 562] (by decide +kernel) (by decide +kernel)
set_option maxRecDepth 20000 in
theorem wsL_law_in_16 : GoodIn lw_tbl wsL_law_r16 := goodIn_p _ [567, 570, 575, 579, 685] (by decide +kernel) (by decide +kernel)
set_option maxRecDepth 20000 in
theorem wsL_law_in_17 : GoodIn lw_tbl wsL_law_r17 := goodIn_p _ [634, 335, 642, 449] (by decide +kernel) (by decide +kernel)
set_option maxRecDepth 20000 in
theorem wsL_law_in_18 : GoodIn lw_tbl wsL_law_r18 := goodIn_p _ [649, 583, 587, 591, 655] (by decide +kernel) (by decide +kernel)
set_option maxRecDepth 20000 in
theorem wsL_law_in_19 : GoodIn lw_tbl wsL_law_r19 := goodIn_p _ [659, 622, 665, 669, 673] (by decide +kernel) (by decide +kernel)
set_option maxRecDepth 20000 in
theorem wsL_law_in_20 : GoodIn lw_tbl wsL_law_r20 := goodIn_p _ [250, 330, 339, 344, 348] (by decide +kernel) (by decide +kernel)
set_option maxRecDepth 20000 in
theorem wsL_law_in_21 : GoodIn lw_tbl wsL_law_r21 := goodIn_p _ [353, 364, 369, 421, 436, 441] (by decide +kernel) (by decide +kernel)
set_option maxRecDepth 20000 in
theorem wsL_law_in_22 : GoodIn lw_tbl wsL_law_r22 := goodIn_p _ [445, 691, 696, 701] (by decide +kernel) (by decide +kernel)
set_option maxRecDepth 20000 in
theorem wsL_law_in_23 : GoodIn lw_tbl wsL_law_r23 := goodIn_p _ [600, 604, 608, 614, 618] (by decide +kernel) (by decide +kernel)
set_option maxRecDepth 20000 in
theorem wsL_law_in_24 : GoodIn lw_tbl wsL_law_r24 := goodIn_p _ [710, 714, 718, 721, 725, 728, 733] (by decide +kernel) (by decide +kernel)
set_option maxRecDepth 20000 in
theorem wsL_law_in_25 : GoodIn lw_tbl wsL_law_r25 := goodIn_p _ [737, 677, 681, 743, 740, 761, 765] (by decide +kernel) (by decide +kernel)
set_option maxRecDepth 20000 in
theorem wsL_law_in_26 : GoodIn lw_tbl wsL_law_r26 := goodIn_p _ [769, 773, 777, 781, 785] (by decide +kernel) (by decide +kernel)
set_option maxRecDepth 20000 in
theorem wsL_law_in_27 : GoodIn lw_tbl wsL_law_r27 := goodIn_p _ [791, 795, 799, 805, 809] (by decide +kernel) (by decide +kernel)
set_option maxRecDepth 20000 in
theorem wsL_law_in_28 : GoodIn lw_tbl wsL_law_r28 := goodIn_p _ [812, 815, 820, 823, 829] (by decide +kernel) (by decide +kernel)
set_option maxRecDepth 20000 in
theorem wsL_law_in_29 : GoodIn lw_tbl wsL_law_r29 := goodIn_p _ [832, 835, 838, 843, 846, 849, 858] (by decide +kernel) (by decide +kernel)
set_option maxRecDepth 20000 in
theorem wsL_law_in_30 : GoodIn lw_tbl wsL_law_r30 := goodIn_p _ [861, 864, 868, 873, 878] (by decide +kernel) (by decide +kernel)
set_option maxRecDepth 20000 in
theorem wsL_law_in_31 : GoodIn lw_tbl wsL_law_r31 := goodIn_p _ [882, 886, 891, 895, 899] (by decide +kernel) (by decide +kernel)
set_option maxRecDepth 20000 in
theorem wsL_law_in_32 : GoodIn lw_tbl wsL_law_r32 := goodIn_p _ [903, 909, 454, 756, 746, 750] (by decide +kernel) (by decide +kernel)
set_option maxRecDepth 20000 in
theorem wsL_law_in_33 : GoodIn lw_tbl wsL_law_r33 := goodIn_p _ [753] (by decide +kernel) (by decide +kernel)
set_option maxRecDepth 20000 in
theorem wsL_law_in_34 : GoodIn lw_tbl wsX60 := goodIn_p _ [] (by decide +kernel) (by decide +kernel)
set_option maxRecDepth 20000 in
theorem wsL_law_in_35 : GoodIn lw_tbl wsX40 := goodIn_p _ [] (by decide +kernel) (by decide +kernel)
set_option maxRecDepth 20000 in
theorem wsL_law_in_36 : GoodIn lw_tbl wsX10 := goodIn_p _ [] (by decide +kernel) (by decide +kernel)
set_option maxRecDepth 20000 in
theorem wsL_law_in_37 : GoodIn lw_tbl wsX50 := goodIn_p _ [] (by decide +kernel) (by decide +kernel)
set_option maxRecDepth 20000 in
theorem wsL_law_in_38 : GoodIn lw_tbl wsX30 := goodIn_p _ [] (by decide +kernel) (by decide +kernel)
set_option maxRecDepth 20000 in
theorem wsL_law_in_39 : GoodIn lw_tbl wsX00 := goodIn_p _ [] (by decide +kernel) (by decide +kernel)
set_option maxRecDepth 20000 in
theorem wsL_law_in_40 : GoodIn lw_tbl wsX20 := goodIn_p _ [] (by decide +kernel) (by decide +kernel)
set_option maxRecDepth 20000 in
theorem wsL_law_in : ∀ w ∈ wsL_law, w ∈ lw_tbl := fun w h => ((show GoodIn lw_tbl wsL_law from (goodIn_app (goodIn_app (goodIn_app (goodIn_app (goodIn_app (goodIn_app (goodIn_app (goodIn_app (goodIn_app wsL_law_in_1 (goodIn_app wsL_law_in_2 (goodIn_app wsL_law_in_3 (goodIn_app wsL_law_in_4 (goodIn_app wsL_law_in_5 (goodIn_app wsL_law_in_6 (goodIn_app wsL_law_in_7 (goodIn_app wsL_law_in_8 (goodIn_app wsL_law_in_9 (goodIn_app wsL_law_in_10 (goodIn_app wsL_law_in_11 (goodIn_app wsL_law_in_12 (goodIn_app wsL_law_in_13 (goodIn_app wsL_law_in_14 (goodIn_app wsL_law_in_15 (goodIn_app wsL_law_in_16 (goodIn_app wsL_law_in_17 (goodIn_app wsL_law_in_18 (goodIn_app wsL_law_in_19 (goodIn_app wsL_law_in_20 (goodIn_app wsL_law_in_21 (goodIn_app wsL_law_in_22 (goodIn_app wsL_law_in_23 (goodIn_app wsL_law_in_24 (goodIn_app wsL_law_in_25 (goodIn_app wsL_law_in_26 (goodIn_app wsL_law_in_27 (goodIn_app wsL_law_in_28 (goodIn_app wsL_law_in_29 (goodIn_app wsL_law_in_30 (goodIn_app wsL_law_in_31 (goodIn_app wsL_law_in_32 wsL_law_in_33)))))))))))))))))))))))))))))))) wsL_law_in_34) wsL_law_in_35) wsL_law_in_36) wsL_law_in_37) wsL_law_in_38) wsL_law_in_39) wsL_law_in_40) (fun w h => absurd h List.not_mem_nil))) w h).1
theorem inX0 : ∀ w ∈ wsX00, w ∈ lw_tbl := fun w h => wsL_law_in w (inlX0 w h)
theorem inX1 : ∀ w ∈ wsX10, w ∈ lw_tbl := fun w h => wsL_law_in w (inlX1 w h)
theorem inX2 : ∀ w ∈ wsX20, w ∈ lw_tbl := fun w h => wsL_law_in w (inlX2 w h)
theorem inX3 : ∀ w ∈ wsX30, w ∈ lw_tbl := fun w h => wsL_law_in w (inlX3 w h)
theorem inX4 : ∀ w ∈ wsX40, w ∈ lw_tbl := fun w h => wsL_law_in w (inlX4 w h)
theorem inX5 : ∀ w ∈ wsX50, w ∈ lw_tbl := fun w h => wsL_law_in w (inlX5 w h)
theorem inX6 : ∀ w ∈ wsX60, w ∈ lw_tbl := fun w h => wsL_law_in w (inlX6 w h)
theorem inX7 : ∀ w ∈ wsX70, w ∈ lw_tbl := by decide +kernel
theorem dL_cell_0 : decode cL_cell 0 = .ok (.iload_n 1, 1) := by decide +kernel
theorem dL_cell_1 : decode cL_cell 1 = .ok (.aload_n 0, 1) := by decide +kernel
theorem dL_cell_2 : decode cL_cell 2 = .ok (.arraylength, 1) := by decide +kernel
theorem dL_cell_3 : decode cL_cell 3 = .ok (.if_icmp .ge 9, 3) := by decide +kernel
theorem dL_cell_6 : decode cL_cell 6 = .ok (.aload_n 0, 1) := by decide +kernel
theorem dL_cell_7 : decode cL_cell 7 = .ok (.iload_n 1, 1) := by decide +kernel
theorem dL_cell_8 : decode cL_cell 8 = .ok (.iaload, 1) := by decide +kernel
theorem dL_cell_9 : decode cL_cell 9 = .ok (.goto 9, 3) := by decide +kernel
theorem dL_cell_12 : decode cL_cell 12 = .ok (.ldc 7, 2) := by decide +kernel
theorem dL_cell_14 : decode cL_cell 14 = .ok (.iload_n 1, 1) := by decide +kernel
theorem dL_cell_15 : decode cL_cell 15 = .ok (.iconst 3, 1) := by decide +kernel
theorem dL_cell_16 : decode cL_cell 16 = .ok (.iadd, 1) := by decide +kernel
theorem dL_cell_17 : decode cL_cell 17 = .ok (.imul, 1) := by decide +kernel
theorem dL_cell_18 : decode cL_cell 18 = .ok (.ireturn, 1) := by decide +kernel
theorem dL_up_0 : decode cL_up 0 = .ok (.iload_n 0, 1) := by decide +kernel
theorem dL_up_1 : decode cL_up 1 = .ok (.ldc 8, 2) := by decide +kernel
theorem dL_up_3 : decode cL_up 3 = .ok (.iand, 1) := by decide +kernel
theorem dL_up_4 : decode cL_up 4 = .ok (.iload_n 1, 1) := by decide +kernel
theorem dL_up_5 : decode cL_up 5 = .ok (.irem, 1) := by decide +kernel
theorem dL_up_6 : decode cL_up 6 = .ok (.ireturn, 1) := by decide +kernel
set_option maxRecDepth 20000 in
theorem ggL_fails_X6_fingerprint_1 : GoodIn wsL_fails [.code yX6_fingerprint cX6_fingerprint 4 (some .long)] := goodIn_r _ [9] (by decide +kernel) (by decide +kernel)
set_option maxRecDepth 20000 in
theorem ggL_fails_X6_fingerprint_2 : GoodIn wsL_fails wsX6_fingerprint_r1 := goodIn_r _ [10, 11, 12, 13, 14, 15, 8, 16, 17, 18, 19, 20, 21, 22, 23, 24, 25, 26, 27, 28, 29, 30, 31, 32] (by decide +kernel) (by decide +kernel)
set_option maxRecDepth 20000 in
theorem ggL_fails_X6_fingerprint_3 : GoodIn wsL_fails wsX6_fingerprint_r2 := goodIn_r _ [33, 34, 35, 36, 37, 38, 39, 40, 41, 42, 43, 44, 45, 46, 47, 48, 49, 50, 51, 52, 53, 54, 55, 56] (by decide +kernel) (by decide +kernel)
set_option maxRecDepth 20000 in
theorem ggL_fails_X6_fingerprint_4 : GoodIn wsL_fails wsX6_fingerprint_r3 := goodIn_r _ [57, 58, 59, 60, 61, 62, 63, 64, 65, 66, 67, 68, 69, 70, 71, 72, 73, 74, 75, 76, 77, 78, 79, 80] (by decide +kernel) (by decide +kernel)
set_option maxRecDepth 20000 in
theorem ggL_fails_X6_fingerprint_5 : GoodIn wsL_fails wsX6_fingerprint_r4 := goodIn_r _ [81, 82, 83, 84, 85, 86, 87, 88, 89, 90, 91, 92, 93, 94, 95, 96, 97, 98, 99, 100, 101, 102, 103, 104] (by decide +kernel) (by decide +kernel)
set_option maxRecDepth 20000 in
theorem ggL_fails_X6_fingerprint_6 : GoodIn wsL_fails wsX6_fingerprint_r5 := goodIn_r _ [105, 106, 107, 108, 109, 110, 111, 112, 113, 114, 115, 116, 117, 118, 119, 120, 121, 122, 123, 124, 125, 126, 127, 128] (by decide +kernel) (by decide +kernel)
set_option maxRecDepth 20000 in
theorem ggL_fails_X6_fingerprint_7 : GoodIn wsL_fails wsX6_fingerprint_r6 := goodIn_r _ [129, 130, 131, 132, 133, 134, 135, 136, 137, 138, 139, 140, 141, 142, 143, 144, 145, 146, 147, 148, 149, 150, 151, 152] (by decide +kernel) (by decide +kernel)
set_option maxRecDepth 20000 in
theorem ggL_fails_X6_fingerprint_8 : GoodIn wsL_fails wsX6_fingerprint_r7 := goodIn_r _ [153, 154, 155, 156, 157, 158, 159, 160, 161, 162, 163, 164, 165, 166, 167, 168, 169, 170, 171, 172, 173, 174, 175, 176] (by decide +kernel) (by decide +kernel)
set_option maxRecDepth 20000 in
theorem ggL_fails_X6_fingerprint_9 : GoodIn wsL_fails wsX6_fingerprint_r8 := goodIn_r _ [177, 178, 179, 180, 181, 182, 183, 184, 185, 186, 187, 188, 189, 190, 191, 192, 193, 194, 195] (by decide +kernel) (by decide +kernel)
set_option maxRecDepth 20000 in
theorem ggL_fails_X6_fingerprint_10 : GoodIn wsL_fails wsX60 := goodIn_r _ [493, 494, 495, 496, 497, 498, 499, 500] (by decide +kernel) (by decide +kernel)
set_option maxRecDepth 20000 in
theorem ggL_fails_X6_fingerprint_11 : GoodIn wsL_fails wsX40 := goodIn_r _ [501, 502, 503, 504, 505, 506] (by decide +kernel) (by decide +kernel)
set_option maxRecDepth 20000 in
theorem ggL_fails_X6_fingerprint_12 : GoodIn wsL_fails wsX30 := goodIn_r _ [507, 508, 509, 510, 511, 512, 513, 514, 515, 516, 517] (by decide +kernel) (by decide +kernel)
set_option maxRecDepth 20000 in
theorem ggL_fails_X6_fingerprint_13 : GoodIn wsL_fails wsX00 := goodIn_r _ [518, 519, 520, 521] (by decide +kernel) (by decide +kernel)
set_option maxRecDepth 20000 in
theorem ggL_fails_X6_fingerprint_14 : GoodIn wsL_fails wsX20 := goodIn_r _ [522] (by decide +kernel) (by decide +kernel)
set_option maxRecDepth 20000 in
theorem ggL_fails_X6_fingerprint_15 : GoodIn wsL_fails wsX50 := goodIn_r _ [523, 524, 525, 526] (by decide +kernel) (by decide +kernel)
set_option maxRecDepth 20000 in
theorem ggL_fails_X6_fingerprint : GoodIn wsL_fails wsX6_fingerprint := goodIn_app (a := [.code yX6_fingerprint cX6_fingerprint 4 (some .long)]) ggL_fails_X6_fingerprint_1 (goodIn_app (goodIn_app (goodIn_app (goodIn_app (goodIn_app (goodIn_app (goodIn_app ggL_fails_X6_fingerprint_2 (goodIn_app ggL_fails_X6_fingerprint_3 (goodIn_app ggL_fails_X6_fingerprint_4 (goodIn_app ggL_fails_X6_fingerprint_5 (goodIn_app ggL_fails_X6_fingerprint_6 (goodIn_app ggL_fails_X6_fingerprint_7 (goodIn_app ggL_fails_X6_fingerprint_8 ggL_fails_X6_fingerprint_9))))))) ggL_fails_X6_fingerprint_10) ggL_fails_X6_fingerprint_11) ggL_fails_X6_fingerprint_12) ggL_fails_X6_fingerprint_13) ggL_fails_X6_fingerprint_14) ggL_fails_X6_fingerprint_15)
set_option maxRecDepth 20000 in
theorem gL_fails_X6_fingerprint : GoodIn wsL_fails (wsV RL 9 RX6 yX6_fingerprint wsX6_fingerprint) := goodIn_app (goodIn_of _ (by decide +kernel)) ggL_fails_X6_fingerprint
set_option maxRecDepth 20000 in
theorem ggL_fails_X6_set_1 : GoodIn wsL_fails [.code yX6_set cX6_set 4 (some .int)] := goodIn_r _ [199] (by decide +kernel) (by decide +kernel)
set_option maxRecDepth 20000 in
theorem ggL_fails_X6_set_2 : GoodIn wsL_fails wsX6_set_r1 := goodIn_r _ [11, 200, 19, 17, 18, 20, 21, 8, 22, 33, 34, 35, 23, 24, 25, 26, 27, 28, 201, 202, 203, 204, 205, 206] (by decide +kernel) (by decide +kernel)
set_option maxRecDepth 20000 in
theorem ggL_fails_X6_set_3 : GoodIn wsL_fails wsX6_set_r2 := goodIn_r _ [207, 208, 209, 210, 211, 212, 213, 214, 215, 216, 217, 218, 219, 220, 221, 222, 45, 40, 41, 42, 43, 44, 77, 67] (by decide +kernel) (by decide +kernel)
set_option maxRecDepth 20000 in
theorem ggL_fails_X6_set_4 : GoodIn wsL_fails wsX6_set_r3 := goodIn_r _ [68, 69, 50, 223, 224, 225, 94, 226, 96, 227, 92, 93, 95, 228, 106, 107, 108, 109, 110, 102, 103, 104, 229, 112] (by decide +kernel) (by decide +kernel)
set_option maxRecDepth 20000 in
theorem ggL_fails_X6_set_5 : GoodIn wsL_fails wsX6_set_r4 := goodIn_r _ [113, 114, 115, 230, 231, 232, 233, 234, 117, 118, 119, 120, 235, 236, 237, 238, 239, 240, 241, 129, 242, 131, 243, 244] (by decide +kernel) (by decide +kernel)
set_option maxRecDepth 20000 in
theorem ggL_fails_X6_set_6 : GoodIn wsL_fails wsX6_set_r5 := goodIn_r _ [245, 150, 246, 152, 164, 165, 247, 75, 72, 76, 248, 249, 250, 251, 252, 253, 254, 255, 256] (by decide +kernel) (by decide +kernel)
set_option maxRecDepth 20000 in
theorem ggL_fails_X6_set_7 : GoodIn wsL_fails wsX60 := goodIn_r _ [493, 494, 495, 496, 497, 498, 499, 500] (by decide +kernel) (by decide +kernel)
set_option maxRecDepth 20000 in
theorem ggL_fails_X6_set_8 : GoodIn wsL_fails wsX40 := goodIn_r _ [501, 502, 503, 504, 505, 506] (by decide +kernel) (by decide +kernel)
set_option maxRecDepth 20000 in
theorem ggL_fails_X6_set_9 : GoodIn wsL_fails wsX30 := goodIn_r _ [507, 508, 509, 510, 511, 512, 513, 514, 515, 516, 517] (by decide +kernel) (by decide +kernel)
set_option maxRecDepth 20000 in
theorem ggL_fails_X6_set_10 : GoodIn wsL_fails wsX00 := goodIn_r _ [518, 519, 520, 521] (by decide +kernel) (by decide +kernel)
set_option maxRecDepth 20000 in
theorem ggL_fails_X6_set_11 : GoodIn wsL_fails wsX20 := goodIn_r _ [522] (by decide +kernel) (by decide +kernel)
set_option maxRecDepth 20000 in
theorem ggL_fails_X6_set_12 : GoodIn wsL_fails wsX50 := goodIn_r _ [523, 524, 525, 526] (by decide +kernel) (by decide +kernel)
set_option maxRecDepth 20000 in
theorem ggL_fails_X6_set : GoodIn wsL_fails wsX6_set := goodIn_app (a := [.code yX6_set cX6_set 4 (some .int)]) ggL_fails_X6_set_1 (goodIn_app (goodIn_app (goodIn_app (goodIn_app (goodIn_app (goodIn_app (goodIn_app ggL_fails_X6_set_2 (goodIn_app ggL_fails_X6_set_3 (goodIn_app ggL_fails_X6_set_4 (goodIn_app ggL_fails_X6_set_5 ggL_fails_X6_set_6)))) ggL_fails_X6_set_7) ggL_fails_X6_set_8) ggL_fails_X6_set_9) ggL_fails_X6_set_10) ggL_fails_X6_set_11) ggL_fails_X6_set_12)
set_option maxRecDepth 20000 in
theorem gL_fails_X6_set : GoodIn wsL_fails (wsV RL 15 RX6 yX6_set wsX6_set) := goodIn_app (goodIn_of _ (by decide +kernel)) ggL_fails_X6_set
set_option maxRecDepth 20000 in
theorem ggL_fails_X6_setting : GoodIn wsL_fails wsX6_setting := goodIn_r _ [16, 11, 17, 18, 19, 20, 21, 8, 22, 23, 24, 25, 26, 27, 28, 493, 494, 495, 496, 497, 498, 499, 500, 501, 502, 503, 504, 505, 506, 507, 508, 509, 510, 511, 512, 513, 514, 515, 516, 517] (by decide +kernel) (by decide +kernel)
set_option maxRecDepth 20000 in
theorem gL_fails_X6_setting : GoodIn wsL_fails (wsV RL 22 RX6 yX6_setting wsX6_setting) := goodIn_app (goodIn_of _ (by decide +kernel)) ggL_fails_X6_setting
set_option maxRecDepth 20000 in
theorem ggL_fails_X6_load_1 : GoodIn wsL_fails [.code yX6_load cX6_load 3 (some .int)] := goodIn_r _ [261] (by decide +kernel) (by decide +kernel)
set_option maxRecDepth 20000 in
theorem ggL_fails_X6_load_2 : GoodIn wsL_fails wsX6_load_r1 := goodIn_r _ [262, 19, 17, 18, 263, 33, 34, 8, 35, 201, 202, 203, 204, 205, 206, 207, 208, 209, 210, 211, 212, 213, 214, 215] (by decide +kernel) (by decide +kernel)
set_option maxRecDepth 20000 in
theorem ggL_fails_X6_load_3 : GoodIn wsL_fails wsX6_load_r2 := goodIn_r _ [216, 217, 218, 219, 220, 221, 26, 222, 28, 45, 40, 41, 42, 43, 44, 77, 67, 68, 69, 50, 24, 25, 27, 223] (by decide +kernel) (by decide +kernel)
set_option maxRecDepth 20000 in
theorem ggL_fails_X6_load_4 : GoodIn wsL_fails wsX6_load_r3 := goodIn_r _ [224, 225, 94, 226, 96, 21, 22, 227, 92, 93, 95, 228, 106, 107, 108, 109, 110, 102, 103, 104, 229, 112, 113, 114] (by decide +kernel) (by decide +kernel)
set_option maxRecDepth 20000 in
theorem ggL_fails_X6_load_5 : GoodIn wsL_fails wsX6_load_r4 := goodIn_r _ [115, 230, 231, 232, 233, 234, 117, 118, 119, 120, 235, 236, 237, 238, 239, 240, 241, 129, 242, 131, 243, 244, 245, 150] (by decide +kernel) (by decide +kernel)
set_option maxRecDepth 20000 in
theorem ggL_fails_X6_load_6 : GoodIn wsL_fails wsX6_load_r5 := goodIn_r _ [246, 152, 164, 165, 247, 75, 72, 76, 248, 249, 250, 251, 252, 264, 265, 266, 267] (by decide +kernel) (by decide +kernel)
set_option maxRecDepth 20000 in
theorem ggL_fails_X6_load_7 : GoodIn wsL_fails wsX60 := goodIn_r _ [493, 494, 495, 496, 497, 498, 499, 500] (by decide +kernel) (by decide +kernel)
set_option maxRecDepth 20000 in
theorem ggL_fails_X6_load_8 : GoodIn wsL_fails wsX40 := goodIn_r _ [501, 502, 503, 504, 505, 506] (by decide +kernel) (by decide +kernel)
set_option maxRecDepth 20000 in
theorem ggL_fails_X6_load_9 : GoodIn wsL_fails wsX30 := goodIn_r _ [507, 508, 509, 510, 511, 512, 513, 514, 515, 516, 517] (by decide +kernel) (by decide +kernel)
set_option maxRecDepth 20000 in
theorem ggL_fails_X6_load_10 : GoodIn wsL_fails wsX00 := goodIn_r _ [518, 519, 520, 521] (by decide +kernel) (by decide +kernel)
set_option maxRecDepth 20000 in
theorem ggL_fails_X6_load_11 : GoodIn wsL_fails wsX20 := goodIn_r _ [522] (by decide +kernel) (by decide +kernel)
set_option maxRecDepth 20000 in
theorem ggL_fails_X6_load_12 : GoodIn wsL_fails wsX50 := goodIn_r _ [523, 524, 525, 526] (by decide +kernel) (by decide +kernel)
set_option maxRecDepth 20000 in
theorem ggL_fails_X6_load : GoodIn wsL_fails wsX6_load := goodIn_app (a := [.code yX6_load cX6_load 3 (some .int)]) ggL_fails_X6_load_1 (goodIn_app (goodIn_app (goodIn_app (goodIn_app (goodIn_app (goodIn_app (goodIn_app ggL_fails_X6_load_2 (goodIn_app ggL_fails_X6_load_3 (goodIn_app ggL_fails_X6_load_4 (goodIn_app ggL_fails_X6_load_5 ggL_fails_X6_load_6)))) ggL_fails_X6_load_7) ggL_fails_X6_load_8) ggL_fails_X6_load_9) ggL_fails_X6_load_10) ggL_fails_X6_load_11) ggL_fails_X6_load_12)
set_option maxRecDepth 20000 in
theorem gL_fails_X6_load : GoodIn wsL_fails (wsV RL 27 RX6 yX6_load wsX6_load) := goodIn_app (goodIn_of _ (by decide +kernel)) ggL_fails_X6_load
set_option maxRecDepth 20000 in
theorem ggL_fails_X6_tick_1 : GoodIn wsL_fails [.code yX6_tick cX6_tick 3 (some .int)] := goodIn_r _ [271] (by decide +kernel) (by decide +kernel)
set_option maxRecDepth 20000 in
theorem ggL_fails_X6_tick_2 : GoodIn wsL_fails wsX6_tick_r1 := goodIn_r _ [19, 17, 18, 272, 262, 273, 33, 34, 8, 35, 201, 202, 203, 204, 205, 206, 207, 208, 209, 210, 211, 212, 213, 214] (by decide +kernel) (by decide +kernel)
set_option maxRecDepth 20000 in
theorem ggL_fails_X6_tick_3 : GoodIn wsL_fails wsX6_tick_r2 := goodIn_r _ [215, 216, 217, 218, 219, 220, 221, 26, 222, 28, 45, 40, 41, 42, 43, 44, 77, 67, 68, 69, 50, 24, 25, 27] (by decide +kernel) (by decide +kernel)
set_option maxRecDepth 20000 in
theorem ggL_fails_X6_tick_4 : GoodIn wsL_fails wsX6_tick_r3 := goodIn_r _ [223, 224, 225, 94, 226, 96, 21, 22, 227, 92, 93, 95, 228, 106, 107, 108, 109, 110, 102, 103, 104, 229, 112, 113] (by decide +kernel) (by decide +kernel)
set_option maxRecDepth 20000 in
theorem ggL_fails_X6_tick_5 : GoodIn wsL_fails wsX6_tick_r4 := goodIn_r _ [114, 115, 230, 231, 232, 233, 234, 117, 118, 119, 120, 235, 236, 237, 238, 239, 240, 241, 129, 242, 131, 243, 244, 245] (by decide +kernel) (by decide +kernel)
set_option maxRecDepth 20000 in
theorem ggL_fails_X6_tick_6 : GoodIn wsL_fails wsX6_tick_r5 := goodIn_r _ [150, 246, 152, 164, 165, 247, 75, 72, 76, 248, 249, 250, 251, 252, 274, 275, 276, 277, 46, 47, 48, 49, 51, 52] (by decide +kernel) (by decide +kernel)
set_option maxRecDepth 20000 in
theorem ggL_fails_X6_tick_7 : GoodIn wsL_fails wsX6_tick_r6 := goodIn_r _ [53, 54, 278, 279, 280, 281, 74, 282, 283, 284, 285, 286, 287, 288, 82, 83, 84, 85, 289] (by decide +kernel) (by decide +kernel)
set_option maxRecDepth 20000 in
theorem ggL_fails_X6_tick_8 : GoodIn wsL_fails wsX60 := goodIn_r _ [493, 494, 495, 496, 497, 498, 499, 500] (by decide +kernel) (by decide +kernel)
set_option maxRecDepth 20000 in
theorem ggL_fails_X6_tick_9 : GoodIn wsL_fails wsX40 := goodIn_r _ [501, 502, 503, 504, 505, 506] (by decide +kernel) (by decide +kernel)
set_option maxRecDepth 20000 in
theorem ggL_fails_X6_tick_10 : GoodIn wsL_fails wsX30 := goodIn_r _ [507, 508, 509, 510, 511, 512, 513, 514, 515, 516, 517] (by decide +kernel) (by decide +kernel)
set_option maxRecDepth 20000 in
theorem ggL_fails_X6_tick_11 : GoodIn wsL_fails wsX00 := goodIn_r _ [518, 519, 520, 521] (by decide +kernel) (by decide +kernel)
set_option maxRecDepth 20000 in
theorem ggL_fails_X6_tick_12 : GoodIn wsL_fails wsX20 := goodIn_r _ [522] (by decide +kernel) (by decide +kernel)
set_option maxRecDepth 20000 in
theorem ggL_fails_X6_tick_13 : GoodIn wsL_fails wsX50 := goodIn_r _ [523, 524, 525, 526] (by decide +kernel) (by decide +kernel)
set_option maxRecDepth 20000 in
theorem ggL_fails_X6_tick : GoodIn wsL_fails wsX6_tick := goodIn_app (a := [.code yX6_tick cX6_tick 3 (some .int)]) ggL_fails_X6_tick_1 (goodIn_app (goodIn_app (goodIn_app (goodIn_app (goodIn_app (goodIn_app (goodIn_app ggL_fails_X6_tick_2 (goodIn_app ggL_fails_X6_tick_3 (goodIn_app ggL_fails_X6_tick_4 (goodIn_app ggL_fails_X6_tick_5 (goodIn_app ggL_fails_X6_tick_6 ggL_fails_X6_tick_7))))) ggL_fails_X6_tick_8) ggL_fails_X6_tick_9) ggL_fails_X6_tick_10) ggL_fails_X6_tick_11) ggL_fails_X6_tick_12) ggL_fails_X6_tick_13)
set_option maxRecDepth 20000 in
theorem gL_fails_X6_tick : GoodIn wsL_fails (wsV RL 30 RX6 yX6_tick wsX6_tick) := goodIn_app (goodIn_of _ (by decide +kernel)) ggL_fails_X6_tick
set_option maxRecDepth 20000 in
theorem ggL_fails_X6_scale_1 : GoodIn wsL_fails [.code yX6_scale cX6_scale 2 (some .int)] := goodIn_r _ [32] (by decide +kernel) (by decide +kernel)
set_option maxRecDepth 20000 in
theorem ggL_fails_X6_scale_2 : GoodIn wsL_fails wsX6_scale_r1 := goodIn_r _ [17, 18, 19, 33, 34, 8, 35, 36, 37, 38, 26, 39, 40, 41, 42, 43, 44, 45, 46, 47, 48, 49, 50, 24] (by decide +kernel) (by decide +kernel)
set_option maxRecDepth 20000 in
theorem ggL_fails_X6_scale_3 : GoodIn wsL_fails wsX6_scale_r2 := goodIn_r _ [25, 27, 28, 51, 52, 53, 54, 55, 56, 57, 58, 59, 60, 61, 62, 63, 64, 65, 66, 67, 68, 69, 70, 71] (by decide +kernel) (by decide +kernel)
set_option maxRecDepth 20000 in
theorem ggL_fails_X6_scale_4 : GoodIn wsL_fails wsX6_scale_r3 := goodIn_r _ [72, 73, 74, 75, 76, 77, 78, 79, 80, 81, 82, 83, 84, 85] (by decide +kernel) (by decide +kernel)
set_option maxRecDepth 20000 in
theorem ggL_fails_X6_scale_5 : GoodIn wsL_fails wsX60 := goodIn_r _ [493, 494, 495, 496, 497, 498, 499, 500] (by decide +kernel) (by decide +kernel)
set_option maxRecDepth 20000 in
theorem ggL_fails_X6_scale_6 : GoodIn wsL_fails wsX40 := goodIn_r _ [501, 502, 503, 504, 505, 506] (by decide +kernel) (by decide +kernel)
set_option maxRecDepth 20000 in
theorem ggL_fails_X6_scale_7 : GoodIn wsL_fails wsX30 := goodIn_r _ [507, 508, 509, 510, 511, 512, 513, 514, 515, 516, 517] (by decide +kernel) (by decide +kernel)
set_option maxRecDepth 20000 in
theorem ggL_fails_X6_scale : GoodIn wsL_fails wsX6_scale := goodIn_app (a := [.code yX6_scale cX6_scale 2 (some .int)]) ggL_fails_X6_scale_1 (goodIn_app (goodIn_app (goodIn_app (goodIn_app ggL_fails_X6_scale_2 (goodIn_app ggL_fails_X6_scale_3 ggL_fails_X6_scale_4)) ggL_fails_X6_scale_5) ggL_fails_X6_scale_6) ggL_fails_X6_scale_7)
set_option maxRecDepth 20000 in
theorem gL_fails_X6_scale : GoodIn wsL_fails (wsV RL 33 RX6 yX6_scale wsX6_scale) := goodIn_app (goodIn_of _ (by decide +kernel)) ggL_fails_X6_scale
set_option maxRecDepth 20000 in
theorem ggL_fails_X6_band_1 : GoodIn wsL_fails [.code yX6_band cX6_band 7 (some .int)] := goodIn_r _ [294] (by decide +kernel) (by decide +kernel)
set_option maxRecDepth 20000 in
theorem ggL_fails_X6_band_2 : GoodIn wsL_fails wsX6_band_r1 := goodIn_r _ [262, 19, 17, 90, 295, 296, 297, 8, 298, 33, 34, 35, 299, 300, 301, 94, 302, 227, 92, 93, 95, 96, 21, 22] (by decide +kernel) (by decide +kernel)
set_option maxRecDepth 20000 in
theorem ggL_fails_X6_band_3 : GoodIn wsL_fails wsX6_band_r2 := goodIn_r _ [228, 106, 107, 108, 109, 110, 102, 103, 104, 101, 105, 91, 201, 202, 203, 204, 205, 206, 207, 208, 209, 210, 211, 212] (by decide +kernel) (by decide +kernel)
set_option maxRecDepth 20000 in
theorem ggL_fails_X6_band_4 : GoodIn wsL_fails wsX6_band_r3 := goodIn_r _ [213, 214, 215, 216, 217, 218, 219, 220, 221, 26, 222, 28, 45, 40, 41, 42, 43, 44, 77, 67, 68, 69, 50, 24] (by decide +kernel) (by decide +kernel)
set_option maxRecDepth 20000 in
theorem ggL_fails_X6_band_5 : GoodIn wsL_fails wsX6_band_r4 := goodIn_r _ [25, 27, 223, 224, 225, 226, 229, 112, 113, 114, 115, 230, 231, 232, 233, 234, 117, 118, 119, 120, 235, 236, 237, 238] (by decide +kernel) (by decide +kernel)
set_option maxRecDepth 20000 in
theorem ggL_fails_X6_band_6 : GoodIn wsL_fails wsX6_band_r5 := goodIn_r _ [239, 240, 241, 129, 242, 131, 243, 244, 245, 150, 246, 152, 164, 165, 247, 75, 72, 76, 248, 249, 250, 251, 252, 303] (by decide +kernel) (by decide +kernel)
set_option maxRecDepth 20000 in
theorem ggL_fails_X6_band_7 : GoodIn wsL_fails wsX6_band_r6 := goodIn_r _ [304, 305, 306, 307] (by decide +kernel) (by decide +kernel)
set_option maxRecDepth 20000 in
theorem ggL_fails_X6_band_8 : GoodIn wsL_fails wsX60 := goodIn_r _ [493, 494, 495, 496, 497, 498, 499, 500] (by decide +kernel) (by decide +kernel)
set_option maxRecDepth 20000 in
theorem ggL_fails_X6_band_9 : GoodIn wsL_fails wsX40 := goodIn_r _ [501, 502, 503, 504, 505, 506] (by decide +kernel) (by decide +kernel)
set_option maxRecDepth 20000 in
theorem ggL_fails_X6_band_10 : GoodIn wsL_fails wsX00 := goodIn_r _ [518, 519, 520, 521] (by decide +kernel) (by decide +kernel)
set_option maxRecDepth 20000 in
theorem ggL_fails_X6_band_11 : GoodIn wsL_fails wsX30 := goodIn_r _ [507, 508, 509, 510, 511, 512, 513, 514, 515, 516, 517] (by decide +kernel) (by decide +kernel)
set_option maxRecDepth 20000 in
theorem ggL_fails_X6_band_12 : GoodIn wsL_fails wsX20 := goodIn_r _ [522] (by decide +kernel) (by decide +kernel)
set_option maxRecDepth 20000 in
theorem ggL_fails_X6_band_13 : GoodIn wsL_fails wsX50 := goodIn_r _ [523, 524, 525, 526] (by decide +kernel) (by decide +kernel)
set_option maxRecDepth 20000 in
theorem ggL_fails_X6_band : GoodIn wsL_fails wsX6_band := goodIn_app (a := [.code yX6_band cX6_band 7 (some .int)]) ggL_fails_X6_band_1 (goodIn_app (goodIn_app (goodIn_app (goodIn_app (goodIn_app (goodIn_app (goodIn_app ggL_fails_X6_band_2 (goodIn_app ggL_fails_X6_band_3 (goodIn_app ggL_fails_X6_band_4 (goodIn_app ggL_fails_X6_band_5 (goodIn_app ggL_fails_X6_band_6 ggL_fails_X6_band_7))))) ggL_fails_X6_band_8) ggL_fails_X6_band_9) ggL_fails_X6_band_10) ggL_fails_X6_band_11) ggL_fails_X6_band_12) ggL_fails_X6_band_13)
set_option maxRecDepth 20000 in
theorem gL_fails_X6_band : GoodIn wsL_fails (wsV RL 36 RX6 yX6_band wsX6_band) := goodIn_app (goodIn_of _ (by decide +kernel)) ggL_fails_X6_band
set_option maxRecDepth 20000 in
theorem ggL_fails_X6_unband_1 : GoodIn wsL_fails [.code yX6_unband cX6_unband 3 (some .int)] := goodIn_r _ [311] (by decide +kernel) (by decide +kernel)
set_option maxRecDepth 20000 in
theorem ggL_fails_X6_unband_2 : GoodIn wsL_fails wsX6_unband_r1 := goodIn_r _ [17, 90, 19, 101, 102, 103, 94, 104, 96, 201, 202, 203, 8, 204, 205, 206, 207, 208, 209, 210, 211, 212, 213, 214] (by decide +kernel) (by decide +kernel)
set_option maxRecDepth 20000 in
theorem ggL_fails_X6_unband_3 : GoodIn wsL_fails wsX6_unband_r2 := goodIn_r _ [215, 216, 217, 218, 219, 220, 221, 26, 222, 28, 45, 40, 41, 42, 43, 44, 77, 67, 68, 69, 50, 24, 25, 27] (by decide +kernel) (by decide +kernel)
set_option maxRecDepth 20000 in
theorem ggL_fails_X6_unband_4 : GoodIn wsL_fails wsX6_unband_r3 := goodIn_r _ [223, 224, 225, 226, 21, 22, 227, 92, 93, 95, 228, 106, 107, 108, 109, 110, 229, 112, 113, 114, 115, 230, 231, 232] (by decide +kernel) (by decide +kernel)
set_option maxRecDepth 20000 in
theorem ggL_fails_X6_unband_5 : GoodIn wsL_fails wsX6_unband_r4 := goodIn_r _ [233, 234, 117, 118, 119, 120, 235, 236, 237, 238, 239, 240, 241, 129, 242, 131, 243, 244, 245, 150, 246, 152, 164, 165] (by decide +kernel) (by decide +kernel)
set_option maxRecDepth 20000 in
theorem ggL_fails_X6_unband_6 : GoodIn wsL_fails wsX6_unband_r5 := goodIn_r _ [247, 75, 72, 76, 248, 249, 250, 251, 252, 312, 313, 314, 315, 91] (by decide +kernel) (by decide +kernel)
set_option maxRecDepth 20000 in
theorem ggL_fails_X6_unband_7 : GoodIn wsL_fails wsX60 := goodIn_r _ [493, 494, 495, 496, 497, 498, 499, 500] (by decide +kernel) (by decide +kernel)
set_option maxRecDepth 20000 in
theorem ggL_fails_X6_unband_8 : GoodIn wsL_fails wsX40 := goodIn_r _ [501, 502, 503, 504, 505, 506] (by decide +kernel) (by decide +kernel)
set_option maxRecDepth 20000 in
theorem ggL_fails_X6_unband_9 : GoodIn wsL_fails wsX00 := goodIn_r _ [518, 519, 520, 521] (by decide +kernel) (by decide +kernel)
set_option maxRecDepth 20000 in
theorem ggL_fails_X6_unband_10 : GoodIn wsL_fails wsX30 := goodIn_r _ [507, 508, 509, 510, 511, 512, 513, 514, 515, 516, 517] (by decide +kernel) (by decide +kernel)
set_option maxRecDepth 20000 in
theorem ggL_fails_X6_unband_11 : GoodIn wsL_fails wsX20 := goodIn_r _ [522] (by decide +kernel) (by decide +kernel)
set_option maxRecDepth 20000 in
theorem ggL_fails_X6_unband_12 : GoodIn wsL_fails wsX50 := goodIn_r _ [523, 524, 525, 526] (by decide +kernel) (by decide +kernel)
set_option maxRecDepth 20000 in
theorem ggL_fails_X6_unband : GoodIn wsL_fails wsX6_unband := goodIn_app (a := [.code yX6_unband cX6_unband 3 (some .int)]) ggL_fails_X6_unband_1 (goodIn_app (goodIn_app (goodIn_app (goodIn_app (goodIn_app (goodIn_app (goodIn_app ggL_fails_X6_unband_2 (goodIn_app ggL_fails_X6_unband_3 (goodIn_app ggL_fails_X6_unband_4 (goodIn_app ggL_fails_X6_unband_5 ggL_fails_X6_unband_6)))) ggL_fails_X6_unband_7) ggL_fails_X6_unband_8) ggL_fails_X6_unband_9) ggL_fails_X6_unband_10) ggL_fails_X6_unband_11) ggL_fails_X6_unband_12)
set_option maxRecDepth 20000 in
theorem gL_fails_X6_unband : GoodIn wsL_fails (wsV RL 40 RX6 yX6_unband wsX6_unband) := goodIn_app (goodIn_of _ (by decide +kernel)) ggL_fails_X6_unband
set_option maxRecDepth 20000 in
theorem ggL_fails_X6_bandAt_1 : GoodIn wsL_fails [.code yX6_bandAt cX6_bandAt 4 (some .int)] := goodIn_r _ [100] (by decide +kernel) (by decide +kernel)
set_option maxRecDepth 20000 in
theorem ggL_fails_X6_bandAt_2 : GoodIn wsL_fails wsX6_bandAt_r1 := goodIn_r _ [17, 90, 19, 101, 102, 103, 94, 104, 96, 33, 34, 8, 35, 105, 106, 107, 108, 109, 110, 21, 22, 111, 112, 113] (by decide +kernel) (by decide +kernel)
set_option maxRecDepth 20000 in
theorem ggL_fails_X6_bandAt_3 : GoodIn wsL_fails wsX6_bandAt_r2 := goodIn_r _ [114, 115] (by decide +kernel) (by decide +kernel)
set_option maxRecDepth 20000 in
theorem ggL_fails_X6_bandAt_4 : GoodIn wsL_fails wsX60 := goodIn_r _ [493, 494, 495, 496, 497, 498, 499, 500] (by decide +kernel) (by decide +kernel)
set_option maxRecDepth 20000 in
theorem ggL_fails_X6_bandAt_5 : GoodIn wsL_fails wsX40 := goodIn_r _ [501, 502, 503, 504, 505, 506] (by decide +kernel) (by decide +kernel)
set_option maxRecDepth 20000 in
theorem ggL_fails_X6_bandAt_6 : GoodIn wsL_fails wsX00 := goodIn_r _ [518, 519, 520, 521] (by decide +kernel) (by decide +kernel)
set_option maxRecDepth 20000 in
theorem ggL_fails_X6_bandAt : GoodIn wsL_fails wsX6_bandAt := goodIn_app (a := [.code yX6_bandAt cX6_bandAt 4 (some .int)]) ggL_fails_X6_bandAt_1 (goodIn_app (goodIn_app (goodIn_app (goodIn_app ggL_fails_X6_bandAt_2 ggL_fails_X6_bandAt_3) ggL_fails_X6_bandAt_4) ggL_fails_X6_bandAt_5) ggL_fails_X6_bandAt_6)
set_option maxRecDepth 20000 in
theorem gL_fails_X6_bandAt : GoodIn wsL_fails (wsV RL 43 RX6 yX6_bandAt wsX6_bandAt) := goodIn_app (goodIn_of _ (by decide +kernel)) ggL_fails_X6_bandAt
set_option maxRecDepth 20000 in
theorem ggL_fails_X6_setExtra_1 : GoodIn wsL_fails [.code yX6_setExtra cX6_setExtra 4 (some .int)] := goodIn_r _ [320] (by decide +kernel) (by decide +kernel)
set_option maxRecDepth 20000 in
theorem ggL_fails_X6_setExtra_2 : GoodIn wsL_fails wsX6_setExtra_r1 := goodIn_r _ [19, 17, 90, 296, 297, 8, 298, 33, 34, 35, 116, 117, 118, 94, 119, 120, 21, 22, 201, 202, 203, 204, 205, 206] (by decide +kernel) (by decide +kernel)
set_option maxRecDepth 20000 in
theorem ggL_fails_X6_setExtra_3 : GoodIn wsL_fails wsX6_setExtra_r2 := goodIn_r _ [207, 208, 209, 210, 211, 212, 213, 214, 215, 216, 217, 218, 219, 220, 221, 26, 222, 28, 45, 40, 41, 42, 43, 44] (by decide +kernel) (by decide +kernel)
set_option maxRecDepth 20000 in
theorem ggL_fails_X6_setExtra_4 : GoodIn wsL_fails wsX6_setExtra_r3 := goodIn_r _ [77, 67, 68, 69, 50, 24, 25, 27, 223, 224, 225, 226, 96, 227, 92, 93, 95, 228, 106, 107, 108, 109, 110, 102] (by decide +kernel) (by decide +kernel)
set_option maxRecDepth 20000 in
theorem ggL_fails_X6_setExtra_5 : GoodIn wsL_fails wsX6_setExtra_r4 := goodIn_r _ [103, 104, 229, 112, 113, 114, 115, 230, 231, 232, 233, 234, 235, 236, 237, 238, 239, 240, 241, 129, 242, 131, 243, 244] (by decide +kernel) (by decide +kernel)
set_option maxRecDepth 20000 in
theorem ggL_fails_X6_setExtra_6 : GoodIn wsL_fails wsX6_setExtra_r5 := goodIn_r _ [245, 150, 246, 152, 164, 165, 247, 75, 72, 76, 248, 249, 250, 251, 252, 321] (by decide +kernel) (by decide +kernel)
set_option maxRecDepth 20000 in
theorem ggL_fails_X6_setExtra_7 : GoodIn wsL_fails wsX60 := goodIn_r _ [493, 494, 495, 496, 497, 498, 499, 500] (by decide +kernel) (by decide +kernel)
