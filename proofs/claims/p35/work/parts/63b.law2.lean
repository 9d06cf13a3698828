set_option maxRecDepth 20000 in
theorem ggL_fails_X6_setExtra_8 : GoodIn wsL_fails wsX40 := goodIn_r _ [501, 502, 503, 504, 505, 506] (by decide +kernel) (by decide +kernel)
set_option maxRecDepth 20000 in
theorem ggL_fails_X6_setExtra_9 : GoodIn wsL_fails wsX00 := goodIn_r _ [518, 519, 520, 521] (by decide +kernel) (by decide +kernel)
set_option maxRecDepth 20000 in
theorem ggL_fails_X6_setExtra_10 : GoodIn wsL_fails wsX30 := goodIn_r _ [507, 508, 509, 510, 511, 512, 513, 514, 515, 516, 517] (by decide +kernel) (by decide +kernel)
set_option maxRecDepth 20000 in
theorem ggL_fails_X6_setExtra_11 : GoodIn wsL_fails wsX20 := goodIn_r _ [522] (by decide +kernel) (by decide +kernel)
set_option maxRecDepth 20000 in
theorem ggL_fails_X6_setExtra_12 : GoodIn wsL_fails wsX50 := goodIn_r _ [523, 524, 525, 526] (by decide +kernel) (by decide +kernel)
set_option maxRecDepth 20000 in
theorem ggL_fails_X6_setExtra : GoodIn wsL_fails wsX6_setExtra := goodIn_app (a := [.code yX6_setExtra cX6_setExtra 4 (some .int)]) ggL_fails_X6_setExtra_1 (goodIn_app (goodIn_app (goodIn_app (goodIn_app (goodIn_app (goodIn_app (goodIn_app ggL_fails_X6_setExtra_2 (goodIn_app ggL_fails_X6_setExtra_3 (goodIn_app ggL_fails_X6_setExtra_4 (goodIn_app ggL_fails_X6_setExtra_5 ggL_fails_X6_setExtra_6)))) ggL_fails_X6_setExtra_7) ggL_fails_X6_setExtra_8) ggL_fails_X6_setExtra_9) ggL_fails_X6_setExtra_10) ggL_fails_X6_setExtra_11) ggL_fails_X6_setExtra_12)
set_option maxRecDepth 20000 in
theorem gL_fails_X6_setExtra : GoodIn wsL_fails (wsV RL 46 RX6 yX6_setExtra wsX6_setExtra) := goodIn_app (goodIn_of _ (by decide +kernel)) ggL_fails_X6_setExtra
set_option maxRecDepth 20000 in
theorem ggL_fails_X6_type : GoodIn wsL_fails wsX6_type := goodIn_r _ [325, 19, 326, 327, 295, 33, 34, 8, 35, 493, 494, 495, 496, 497, 498, 499, 500] (by decide +kernel) (by decide +kernel)
set_option maxRecDepth 20000 in
theorem gL_fails_X6_type : GoodIn wsL_fails (wsV RL 49 RX6 yX6_type wsX6_type) := goodIn_app (goodIn_of _ (by decide +kernel)) ggL_fails_X6_type
set_option maxRecDepth 20000 in
theorem ggL_fails_X6_take_1 : GoodIn wsL_fails [.code yX6_take cX6_take 7 (some .int)] := goodIn_r _ [331] (by decide +kernel) (by decide +kernel)
set_option maxRecDepth 20000 in
theorem ggL_fails_X6_take_2 : GoodIn wsL_fails wsX6_take_r1 := goodIn_r _ [19, 17, 18, 273, 137, 142, 295, 332, 333, 8, 334, 335, 336, 337, 33, 34, 35, 296, 297, 298, 338, 64, 65, 26] (by decide +kernel) (by decide +kernel)
set_option maxRecDepth 20000 in
theorem ggL_fails_X6_take_3 : GoodIn wsL_fails wsX6_take_r2 := goodIn_r _ [66, 67, 68, 69, 70, 71, 72, 73, 74, 75, 76, 77, 50, 24, 25, 27, 28, 339, 79, 80, 81, 82, 83, 84] (by decide +kernel) (by decide +kernel)
set_option maxRecDepth 20000 in
theorem ggL_fails_X6_take_4 : GoodIn wsL_fails wsX6_take_r3 := goodIn_r _ [85, 41, 46, 47, 48, 49, 45, 43, 51, 52, 53, 54, 340, 60, 61, 62, 42, 55, 56, 57, 58, 341, 342, 343] (by decide +kernel) (by decide +kernel)
set_option maxRecDepth 20000 in
theorem ggL_fails_X6_take_5 : GoodIn wsL_fails wsX6_take_r4 := goodIn_r _ [344, 90, 91, 92, 93, 94, 95, 96, 21, 22, 201, 202, 203, 204, 205, 206, 207, 208, 209, 210, 211, 212, 213, 214] (by decide +kernel) (by decide +kernel)
set_option maxRecDepth 20000 in
theorem ggL_fails_X6_take_6 : GoodIn wsL_fails wsX6_take_r5 := goodIn_r _ [215, 216, 217, 218, 219, 220, 221, 222, 40, 44, 223, 224, 225, 226, 227, 228, 106, 107, 108, 109, 110, 102, 103, 104] (by decide +kernel) (by decide +kernel)
set_option maxRecDepth 20000 in
theorem ggL_fails_X6_take_7 : GoodIn wsL_fails wsX6_take_r6 := goodIn_r _ [229, 112, 113, 114, 115, 230, 231, 232, 233, 234, 117, 118, 119, 120, 235, 236, 237, 238, 239, 240, 241, 129, 242, 131] (by decide +kernel) (by decide +kernel)
set_option maxRecDepth 20000 in
theorem ggL_fails_X6_take_8 : GoodIn wsL_fails wsX6_take_r7 := goodIn_r _ [243, 244, 245, 150, 246, 152, 164, 165, 247, 248, 249, 250, 251, 252, 345, 346, 347, 348, 163, 349, 350, 351, 352, 353] (by decide +kernel) (by decide +kernel)
set_option maxRecDepth 20000 in
theorem ggL_fails_X6_take_9 : GoodIn wsL_fails wsX6_take_r8 := goodIn_r _ [354, 355, 356, 357, 358, 359, 360, 361, 362, 160, 161, 162, 363, 364, 159, 365, 366, 367, 368, 369, 370, 371, 372, 373] (by decide +kernel) (by decide +kernel)
set_option maxRecDepth 20000 in
theorem ggL_fails_X6_take_10 : GoodIn wsL_fails wsX6_take_r9 := goodIn_r _ [374, 375, 376, 377, 378, 379, 380, 381, 382, 300, 301, 302, 383, 384, 385, 386, 387, 388, 389, 390, 132, 391, 392, 393] (by decide +kernel) (by decide +kernel)
set_option maxRecDepth 20000 in
theorem ggL_fails_X6_take_11 : GoodIn wsL_fails wsX6_take_r10 := goodIn_r _ [394, 395, 396, 397, 398, 399, 400, 401, 402, 403, 404, 405, 406, 407, 408, 409, 410, 411, 412, 413, 414, 415, 416, 417] (by decide +kernel) (by decide +kernel)
set_option maxRecDepth 20000 in
theorem ggL_fails_X6_take_12 : GoodIn wsL_fails wsX6_take_r11 := goodIn_r _ [418, 419, 420, 421] (by decide +kernel) (by decide +kernel)
set_option maxRecDepth 20000 in
theorem ggL_fails_X6_take_13 : GoodIn wsL_fails wsX60 := goodIn_r _ [493, 494, 495, 496, 497, 498, 499, 500] (by decide +kernel) (by decide +kernel)
set_option maxRecDepth 20000 in
theorem ggL_fails_X6_take_14 : GoodIn wsL_fails wsX40 := goodIn_r _ [501, 502, 503, 504, 505, 506] (by decide +kernel) (by decide +kernel)
set_option maxRecDepth 20000 in
theorem ggL_fails_X6_take_15 : GoodIn wsL_fails wsX50 := goodIn_r _ [523, 524, 525, 526] (by decide +kernel) (by decide +kernel)
set_option maxRecDepth 20000 in
theorem ggL_fails_X6_take_16 : GoodIn wsL_fails wsX30 := goodIn_r _ [507, 508, 509, 510, 511, 512, 513, 514, 515, 516, 517] (by decide +kernel) (by decide +kernel)
set_option maxRecDepth 20000 in
theorem ggL_fails_X6_take_17 : GoodIn wsL_fails wsX00 := goodIn_r _ [518, 519, 520, 521] (by decide +kernel) (by decide +kernel)
set_option maxRecDepth 20000 in
theorem ggL_fails_X6_take_18 : GoodIn wsL_fails wsX20 := goodIn_r _ [522] (by decide +kernel) (by decide +kernel)
set_option maxRecDepth 20000 in
theorem ggL_fails_X6_take : GoodIn wsL_fails wsX6_take := goodIn_app (a := [.code yX6_take cX6_take 7 (some .int)]) ggL_fails_X6_take_1 (goodIn_app (goodIn_app (goodIn_app (goodIn_app (goodIn_app (goodIn_app (goodIn_app ggL_fails_X6_take_2 (goodIn_app ggL_fails_X6_take_3 (goodIn_app ggL_fails_X6_take_4 (goodIn_app ggL_fails_X6_take_5 (goodIn_app ggL_fails_X6_take_6 (goodIn_app ggL_fails_X6_take_7 (goodIn_app ggL_fails_X6_take_8 (goodIn_app ggL_fails_X6_take_9 (goodIn_app ggL_fails_X6_take_10 (goodIn_app ggL_fails_X6_take_11 ggL_fails_X6_take_12)))))))))) ggL_fails_X6_take_13) ggL_fails_X6_take_14) ggL_fails_X6_take_15) ggL_fails_X6_take_16) ggL_fails_X6_take_17) ggL_fails_X6_take_18)
set_option maxRecDepth 20000 in
theorem gL_fails_X6_take : GoodIn wsL_fails (wsV RL 52 RX6 yX6_take wsX6_take) := goodIn_app (goodIn_of _ (by decide +kernel)) ggL_fails_X6_take
set_option maxRecDepth 20000 in
theorem ggL_fails_X6_quote_1 : GoodIn wsL_fails [.code yX6_quote cX6_quote 6 (some .int)] := goodIn_r _ [425] (by decide +kernel) (by decide +kernel)
set_option maxRecDepth 20000 in
theorem ggL_fails_X6_quote_2 : GoodIn wsL_fails wsX6_quote_r1 := goodIn_r _ [262, 19, 273, 426, 33, 34, 8, 35, 332, 333, 334, 335, 336, 337, 296, 297, 298, 341, 342, 343, 344, 17, 90, 91] (by decide +kernel) (by decide +kernel)
set_option maxRecDepth 20000 in
theorem ggL_fails_X6_quote_3 : GoodIn wsL_fails wsX6_quote_r2 := goodIn_r _ [92, 93, 94, 95, 96, 21, 22, 349, 350, 351, 352, 353, 354, 150, 355, 163, 164, 165, 427, 428, 429, 430, 356, 357] (by decide +kernel) (by decide +kernel)
set_option maxRecDepth 20000 in
theorem ggL_fails_X6_quote_4 : GoodIn wsL_fails wsX6_quote_r3 := goodIn_r _ [358, 211, 359, 360, 213, 361, 71, 72, 73, 214, 215, 362, 160, 161, 162, 363, 364, 159, 365, 24, 25, 26, 27, 28] (by decide +kernel) (by decide +kernel)
set_option maxRecDepth 20000 in
theorem ggL_fails_X6_quote_5 : GoodIn wsL_fails wsX6_quote_r4 := goodIn_r _ [366, 367, 368, 369, 370, 371, 372, 373, 374, 375, 376, 377, 378, 379, 380, 381, 382, 300, 301, 302, 227, 228, 106, 107] (by decide +kernel) (by decide +kernel)
set_option maxRecDepth 20000 in
theorem ggL_fails_X6_quote_6 : GoodIn wsL_fails wsX6_quote_r5 := goodIn_r _ [108, 109, 110, 102, 103, 104, 229, 112, 113, 114, 115, 383, 384, 385, 386, 234, 117, 118, 119, 120, 387, 388, 389, 129] (by decide +kernel) (by decide +kernel)
set_option maxRecDepth 20000 in
theorem ggL_fails_X6_quote_7 : GoodIn wsL_fails wsX6_quote_r6 := goodIn_r _ [390, 131, 132, 391, 392, 393, 394, 395, 396, 397, 398, 399, 400, 401, 402, 403, 404, 405, 406, 407, 408, 409, 410, 411] (by decide +kernel) (by decide +kernel)
set_option maxRecDepth 20000 in
theorem ggL_fails_X6_quote_8 : GoodIn wsL_fails wsX6_quote_r7 := goodIn_r _ [412, 413, 414, 415, 416, 417, 418, 419, 420, 421] (by decide +kernel) (by decide +kernel)
set_option maxRecDepth 20000 in
theorem ggL_fails_X6_quote_9 : GoodIn wsL_fails wsX60 := goodIn_r _ [493, 494, 495, 496, 497, 498, 499, 500] (by decide +kernel) (by decide +kernel)
set_option maxRecDepth 20000 in
theorem ggL_fails_X6_quote_10 : GoodIn wsL_fails wsX40 := goodIn_r _ [501, 502, 503, 504, 505, 506] (by decide +kernel) (by decide +kernel)
set_option maxRecDepth 20000 in
theorem ggL_fails_X6_quote_11 : GoodIn wsL_fails wsX00 := goodIn_r _ [518, 519, 520, 521] (by decide +kernel) (by decide +kernel)
set_option maxRecDepth 20000 in
theorem ggL_fails_X6_quote_12 : GoodIn wsL_fails wsX50 := goodIn_r _ [523, 524, 525, 526] (by decide +kernel) (by decide +kernel)
set_option maxRecDepth 20000 in
theorem ggL_fails_X6_quote_13 : GoodIn wsL_fails wsX30 := goodIn_r _ [507, 508, 509, 510, 511, 512, 513, 514, 515, 516, 517] (by decide +kernel) (by decide +kernel)
set_option maxRecDepth 20000 in
theorem ggL_fails_X6_quote_14 : GoodIn wsL_fails wsX20 := goodIn_r _ [522] (by decide +kernel) (by decide +kernel)
set_option maxRecDepth 20000 in
theorem ggL_fails_X6_quote : GoodIn wsL_fails wsX6_quote := goodIn_app (a := [.code yX6_quote cX6_quote 6 (some .int)]) ggL_fails_X6_quote_1 (goodIn_app (goodIn_app (goodIn_app (goodIn_app (goodIn_app (goodIn_app (goodIn_app ggL_fails_X6_quote_2 (goodIn_app ggL_fails_X6_quote_3 (goodIn_app ggL_fails_X6_quote_4 (goodIn_app ggL_fails_X6_quote_5 (goodIn_app ggL_fails_X6_quote_6 (goodIn_app ggL_fails_X6_quote_7 ggL_fails_X6_quote_8)))))) ggL_fails_X6_quote_9) ggL_fails_X6_quote_10) ggL_fails_X6_quote_11) ggL_fails_X6_quote_12) ggL_fails_X6_quote_13) ggL_fails_X6_quote_14)
set_option maxRecDepth 20000 in
theorem gL_fails_X6_quote : GoodIn wsL_fails (wsV RL 56 RX6 yX6_quote wsX6_quote) := goodIn_app (goodIn_of _ (by decide +kernel)) ggL_fails_X6_quote
set_option maxRecDepth 20000 in
theorem ggL_fails_X6_parcel_1 : GoodIn wsL_fails [.code yX6_parcel cX6_parcel 3 (some .int)] := goodIn_r _ [146] (by decide +kernel) (by decide +kernel)
set_option maxRecDepth 20000 in
theorem ggL_fails_X6_parcel_2 : GoodIn wsL_fails wsX6_parcel_r1 := goodIn_r _ [17, 137, 19, 147, 148, 149, 150, 151, 152, 33, 34, 8, 35, 153, 154, 155, 156, 157, 142, 158, 159, 160, 161, 162] (by decide +kernel) (by decide +kernel)
set_option maxRecDepth 20000 in
theorem ggL_fails_X6_parcel_3 : GoodIn wsL_fails wsX6_parcel_r2 := goodIn_r _ [163, 164, 165] (by decide +kernel) (by decide +kernel)
set_option maxRecDepth 20000 in
theorem ggL_fails_X6_parcel_4 : GoodIn wsL_fails wsX60 := goodIn_r _ [493, 494, 495, 496, 497, 498, 499, 500] (by decide +kernel) (by decide +kernel)
set_option maxRecDepth 20000 in
theorem ggL_fails_X6_parcel_5 : GoodIn wsL_fails wsX40 := goodIn_r _ [501, 502, 503, 504, 505, 506] (by decide +kernel) (by decide +kernel)
set_option maxRecDepth 20000 in
theorem ggL_fails_X6_parcel_6 : GoodIn wsL_fails wsX50 := goodIn_r _ [523, 524, 525, 526] (by decide +kernel) (by decide +kernel)
set_option maxRecDepth 20000 in
theorem ggL_fails_X6_parcel : GoodIn wsL_fails wsX6_parcel := goodIn_app (a := [.code yX6_parcel cX6_parcel 3 (some .int)]) ggL_fails_X6_parcel_1 (goodIn_app (goodIn_app (goodIn_app (goodIn_app ggL_fails_X6_parcel_2 ggL_fails_X6_parcel_3) ggL_fails_X6_parcel_4) ggL_fails_X6_parcel_5) ggL_fails_X6_parcel_6)
set_option maxRecDepth 20000 in
theorem gL_fails_X6_parcel : GoodIn wsL_fails (wsV RL 60 RX6 yX6_parcel wsX6_parcel) := goodIn_app (goodIn_of _ (by decide +kernel)) ggL_fails_X6_parcel
set_option maxRecDepth 20000 in
theorem ggL_fails_X6_why : GoodIn wsL_fails wsX6_why := goodIn_r _ [169, 17, 137, 19, 158, 147, 148, 149, 150, 151, 152, 159, 160, 161, 162, 163, 164, 165, 493, 494, 495, 496, 497, 498, 499, 500, 501, 502, 503, 504, 505, 506, 523, 524, 525, 526] (by decide +kernel) (by decide +kernel)
set_option maxRecDepth 20000 in
theorem gL_fails_X6_why : GoodIn wsL_fails (wsV RL 63 RX6 yX6_why wsX6_why) := goodIn_app (goodIn_of _ (by decide +kernel)) ggL_fails_X6_why
set_option maxRecDepth 20000 in
theorem ggL_fails_X6_density : GoodIn wsL_fails wsX6_density := goodIn_r _ [436, 17, 137, 437, 147, 148, 149, 150, 151, 152, 438, 363, 8, 364, 159, 160, 161, 162, 163, 164, 165, 493, 494, 495, 496, 497, 498, 499, 500, 501, 502, 503, 504, 505, 506, 523, 524, 525, 526] (by decide +kernel) (by decide +kernel)
set_option maxRecDepth 20000 in
theorem gL_fails_X6_density : GoodIn wsL_fails (wsV RL 66 RX6 yX6_density wsX6_density) := goodIn_app (goodIn_of _ (by decide +kernel)) ggL_fails_X6_density
set_option maxRecDepth 20000 in
theorem ggL_fails_X6_dispute_1 : GoodIn wsL_fails [.code yX6_dispute cX6_dispute 4 (some .int)] := goodIn_r _ [442] (by decide +kernel) (by decide +kernel)
set_option maxRecDepth 20000 in
theorem ggL_fails_X6_dispute_2 : GoodIn wsL_fails wsX6_dispute_r1 := goodIn_r _ [17, 137, 19, 262, 158, 273, 157, 142, 295, 147, 148, 149, 150, 151, 152, 33, 34, 8, 35, 153, 154, 155, 156, 159] (by decide +kernel) (by decide +kernel)
set_option maxRecDepth 20000 in
theorem ggL_fails_X6_dispute_3 : GoodIn wsL_fails wsX6_dispute_r2 := goodIn_r _ [160, 161, 162, 163, 164, 165, 341, 342, 343, 344, 90, 91, 92, 93, 94, 95, 96, 21, 22, 201, 202, 203, 204, 205] (by decide +kernel) (by decide +kernel)
set_option maxRecDepth 20000 in
theorem ggL_fails_X6_dispute_4 : GoodIn wsL_fails wsX6_dispute_r3 := goodIn_r _ [206, 207, 208, 209, 210, 211, 212, 213, 214, 215, 216, 217, 218, 219, 220, 221, 26, 222, 28, 45, 40, 41, 42, 43] (by decide +kernel) (by decide +kernel)
set_option maxRecDepth 20000 in
theorem ggL_fails_X6_dispute_5 : GoodIn wsL_fails wsX6_dispute_r4 := goodIn_r _ [44, 77, 67, 68, 69, 50, 24, 25, 27, 223, 224, 225, 226, 227, 228, 106, 107, 108, 109, 110, 102, 103, 104, 229] (by decide +kernel) (by decide +kernel)
set_option maxRecDepth 20000 in
theorem ggL_fails_X6_dispute_6 : GoodIn wsL_fails wsX6_dispute_r5 := goodIn_r _ [112, 113, 114, 115, 230, 231, 232, 233, 234, 117, 118, 119, 120, 235, 236, 237, 238, 239, 240, 241, 129, 242, 131, 243] (by decide +kernel) (by decide +kernel)
set_option maxRecDepth 20000 in
theorem ggL_fails_X6_dispute_7 : GoodIn wsL_fails wsX6_dispute_r6 := goodIn_r _ [244, 245, 246, 247, 75, 72, 76, 248, 249, 250, 251, 252, 443, 444, 445, 446, 447, 345, 346, 347, 348, 448, 449, 450] (by decide +kernel) (by decide +kernel)
set_option maxRecDepth 20000 in
theorem ggL_fails_X6_dispute_8 : GoodIn wsL_fails wsX6_dispute_r7 := goodIn_r _ [451, 191, 452, 353, 354, 355, 352, 356, 357, 358, 359, 360, 361, 71, 73, 362, 363, 364, 365, 366, 367, 368, 369, 370] (by decide +kernel) (by decide +kernel)
set_option maxRecDepth 20000 in
theorem ggL_fails_X6_dispute_9 : GoodIn wsL_fails wsX6_dispute_r8 := goodIn_r _ [371, 372, 373, 374, 375, 376, 377, 378, 379, 380, 381, 382, 300, 301, 302, 383, 384, 385, 386, 387, 388, 389, 390, 132] (by decide +kernel) (by decide +kernel)
set_option maxRecDepth 20000 in
theorem ggL_fails_X6_dispute_10 : GoodIn wsL_fails wsX6_dispute_r9 := goodIn_r _ [391, 392, 393, 394, 395, 396, 397, 398, 399, 400, 401, 402, 403, 404, 405, 406, 407, 408, 409, 410, 411, 412, 413, 414] (by decide +kernel) (by decide +kernel)
set_option maxRecDepth 20000 in
theorem ggL_fails_X6_dispute_11 : GoodIn wsL_fails wsX6_dispute_r10 := goodIn_r _ [415, 416, 417, 418, 419, 420, 421] (by decide +kernel) (by decide +kernel)
set_option maxRecDepth 20000 in
theorem ggL_fails_X6_dispute_12 : GoodIn wsL_fails wsX60 := goodIn_r _ [493, 494, 495, 496, 497, 498, 499, 500] (by decide +kernel) (by decide +kernel)
set_option maxRecDepth 20000 in
theorem ggL_fails_X6_dispute_13 : GoodIn wsL_fails wsX40 := goodIn_r _ [501, 502, 503, 504, 505, 506] (by decide +kernel) (by decide +kernel)
set_option maxRecDepth 20000 in
theorem ggL_fails_X6_dispute_14 : GoodIn wsL_fails wsX50 := goodIn_r _ [523, 524, 525, 526] (by decide +kernel) (by decide +kernel)
set_option maxRecDepth 20000 in
theorem ggL_fails_X6_dispute_15 : GoodIn wsL_fails wsX00 := goodIn_r _ [518, 519, 520, 521] (by decide +kernel) (by decide +kernel)
set_option maxRecDepth 20000 in
theorem ggL_fails_X6_dispute_16 : GoodIn wsL_fails wsX30 := goodIn_r _ [507, 508, 509, 510, 511, 512, 513, 514, 515, 516, 517] (by decide +kernel) (by decide +kernel)
set_option maxRecDepth 20000 in
theorem ggL_fails_X6_dispute_17 : GoodIn wsL_fails wsX20 := goodIn_r _ [522] (by decide +kernel) (by decide +kernel)
set_option maxRecDepth 20000 in
theorem ggL_fails_X6_dispute : GoodIn wsL_fails wsX6_dispute := goodIn_app (a := [.code yX6_dispute cX6_dispute 4 (some .int)]) ggL_fails_X6_dispute_1 (goodIn_app (goodIn_app (goodIn_app (goodIn_app (goodIn_app (goodIn_app (goodIn_app ggL_fails_X6_dispute_2 (goodIn_app ggL_fails_X6_dispute_3 (goodIn_app ggL_fails_X6_dispute_4 (goodIn_app ggL_fails_X6_dispute_5 (goodIn_app ggL_fails_X6_dispute_6 (goodIn_app ggL_fails_X6_dispute_7 (goodIn_app ggL_fails_X6_dispute_8 (goodIn_app ggL_fails_X6_dispute_9 (goodIn_app ggL_fails_X6_dispute_10 ggL_fails_X6_dispute_11))))))))) ggL_fails_X6_dispute_12) ggL_fails_X6_dispute_13) ggL_fails_X6_dispute_14) ggL_fails_X6_dispute_15) ggL_fails_X6_dispute_16) ggL_fails_X6_dispute_17)
set_option maxRecDepth 20000 in
theorem gL_fails_X6_dispute : GoodIn wsL_fails (wsV RL 71 RX6 yX6_dispute wsX6_dispute) := goodIn_app (goodIn_of _ (by decide +kernel)) ggL_fails_X6_dispute
set_option maxRecDepth 20000 in
theorem ggL_fails_X6_settle_1 : GoodIn wsL_fails [.code yX6_settle cX6_settle 3 (some .int)] := goodIn_r _ [456] (by decide +kernel) (by decide +kernel)
set_option maxRecDepth 20000 in
theorem ggL_fails_X6_settle_2 : GoodIn wsL_fails wsX6_settle_r1 := goodIn_r _ [17, 157, 19, 273, 147, 148, 149, 150, 151, 152, 159, 160, 161, 162, 163, 164, 165, 201, 202, 203, 8, 204, 205, 206] (by decide +kernel) (by decide +kernel)
set_option maxRecDepth 20000 in
theorem ggL_fails_X6_settle_3 : GoodIn wsL_fails wsX6_settle_r2 := goodIn_r _ [207, 208, 209, 210, 211, 212, 213, 214, 215, 216, 217, 218, 219, 220, 221, 26, 222, 28, 45, 40, 41, 42, 43, 44] (by decide +kernel) (by decide +kernel)
set_option maxRecDepth 20000 in
theorem ggL_fails_X6_settle_4 : GoodIn wsL_fails wsX6_settle_r3 := goodIn_r _ [77, 67, 68, 69, 50, 24, 25, 27, 223, 224, 225, 94, 226, 96, 21, 22, 227, 92, 93, 95, 228, 106, 107, 108] (by decide +kernel) (by decide +kernel)
set_option maxRecDepth 20000 in
theorem ggL_fails_X6_settle_5 : GoodIn wsL_fails wsX6_settle_r4 := goodIn_r _ [109, 110, 102, 103, 104, 229, 112, 113, 114, 115, 230, 231, 232, 233, 234, 117, 118, 119, 120, 235, 236, 237, 238, 239] (by decide +kernel) (by decide +kernel)
set_option maxRecDepth 20000 in
theorem ggL_fails_X6_settle_6 : GoodIn wsL_fails wsX6_settle_r5 := goodIn_r _ [240, 241, 129, 242, 131, 243, 244, 245, 246, 247, 75, 72, 76, 248, 249, 250, 251, 252, 352, 353, 354, 355, 457, 458] (by decide +kernel) (by decide +kernel)
set_option maxRecDepth 20000 in
theorem ggL_fails_X6_settle_7 : GoodIn wsL_fails wsX6_settle_r6 := goodIn_r _ [459, 460, 137, 447, 448, 449, 450, 451, 191, 452] (by decide +kernel) (by decide +kernel)
set_option maxRecDepth 20000 in
theorem ggL_fails_X6_settle_8 : GoodIn wsL_fails wsX60 := goodIn_r _ [493, 494, 495, 496, 497, 498, 499, 500] (by decide +kernel) (by decide +kernel)
set_option maxRecDepth 20000 in
theorem ggL_fails_X6_settle_9 : GoodIn wsL_fails wsX40 := goodIn_r _ [501, 502, 503, 504, 505, 506] (by decide +kernel) (by decide +kernel)
set_option maxRecDepth 20000 in
theorem ggL_fails_X6_settle_10 : GoodIn wsL_fails wsX50 := goodIn_r _ [523, 524, 525, 526] (by decide +kernel) (by decide +kernel)
set_option maxRecDepth 20000 in
theorem ggL_fails_X6_settle_11 : GoodIn wsL_fails wsX30 := goodIn_r _ [507, 508, 509, 510, 511, 512, 513, 514, 515, 516, 517] (by decide +kernel) (by decide +kernel)
set_option maxRecDepth 20000 in
theorem ggL_fails_X6_settle_12 : GoodIn wsL_fails wsX00 := goodIn_r _ [518, 519, 520, 521] (by decide +kernel) (by decide +kernel)
set_option maxRecDepth 20000 in
theorem ggL_fails_X6_settle_13 : GoodIn wsL_fails wsX20 := goodIn_r _ [522] (by decide +kernel) (by decide +kernel)
set_option maxRecDepth 20000 in
theorem ggL_fails_X6_settle : GoodIn wsL_fails wsX6_settle := goodIn_app (a := [.code yX6_settle cX6_settle 3 (some .int)]) ggL_fails_X6_settle_1 (goodIn_app (goodIn_app (goodIn_app (goodIn_app (goodIn_app (goodIn_app (goodIn_app ggL_fails_X6_settle_2 (goodIn_app ggL_fails_X6_settle_3 (goodIn_app ggL_fails_X6_settle_4 (goodIn_app ggL_fails_X6_settle_5 (goodIn_app ggL_fails_X6_settle_6 ggL_fails_X6_settle_7))))) ggL_fails_X6_settle_8) ggL_fails_X6_settle_9) ggL_fails_X6_settle_10) ggL_fails_X6_settle_11) ggL_fails_X6_settle_12) ggL_fails_X6_settle_13)
set_option maxRecDepth 20000 in
theorem gL_fails_X6_settle : GoodIn wsL_fails (wsV RL 74 RX6 yX6_settle wsX6_settle) := goodIn_app (goodIn_of _ (by decide +kernel)) ggL_fails_X6_settle
set_option maxRecDepth 20000 in
theorem ggL_fails_X6_note : GoodIn wsL_fails wsX6_note := goodIn_r _ [181, 17, 157, 19, 147, 148, 149, 150, 151, 152, 33, 34, 8, 35, 159, 160, 161, 162, 163, 164, 165, 493, 494, 495, 496, 497, 498, 499, 500, 501, 502, 503, 504, 505, 506, 523, 524, 525, 526] (by decide +kernel) (by decide +kernel)
set_option maxRecDepth 20000 in
theorem gL_fails_X6_note : GoodIn wsL_fails (wsV RL 78 RX6 yX6_note wsX6_note) := goodIn_app (goodIn_of _ (by decide +kernel)) ggL_fails_X6_note
set_option maxRecDepth 20000 in
theorem ggL_fails_X6_sum : GoodIn wsL_fails wsX6_sum := goodIn_r _ [185, 17, 137, 157, 186, 187, 188, 189, 150, 190, 152, 191, 160, 161, 162, 163, 164, 165, 192, 193, 194, 195, 493, 494, 495, 496, 497, 498, 499, 500, 501, 502, 503, 504, 505, 506, 523, 524, 525, 526] (by decide +kernel) (by decide +kernel)
set_option maxRecDepth 20000 in
theorem gL_fails_X6_sum : GoodIn wsL_fails (wsV RL 81 RX6 yX6_sum wsX6_sum) := goodIn_app (goodIn_of _ (by decide +kernel)) ggL_fails_X6_sum
set_option maxRecDepth 20000 in
theorem ggL_fails_X6_lighter_1 : GoodIn wsL_fails [.code yX6_lighter cX6_lighter 6 (some .int)] := goodIn_r _ [466] (by decide +kernel) (by decide +kernel)
set_option maxRecDepth 20000 in
theorem ggL_fails_X6_lighter_2 : GoodIn wsL_fails wsX6_lighter_r1 := goodIn_r _ [17, 137, 19, 273, 426, 262, 158, 147, 148, 149, 150, 151, 152, 159, 160, 161, 162, 163, 164, 165, 341, 342, 343, 8] (by decide +kernel) (by decide +kernel)
set_option maxRecDepth 20000 in
theorem ggL_fails_X6_lighter_3 : GoodIn wsL_fails wsX6_lighter_r2 := goodIn_r _ [344, 90, 91, 92, 93, 94, 95, 96, 21, 22, 448, 449, 450, 451, 191, 452, 353, 354, 355, 427, 428, 429, 430, 356] (by decide +kernel) (by decide +kernel)
set_option maxRecDepth 20000 in
theorem ggL_fails_X6_lighter_4 : GoodIn wsL_fails wsX6_lighter_r3 := goodIn_r _ [357, 358, 211, 359, 360, 213, 361, 71, 72, 73, 214, 215, 362, 363, 364, 365, 24, 25, 26, 27, 28, 366, 367, 368] (by decide +kernel) (by decide +kernel)
set_option maxRecDepth 20000 in
theorem ggL_fails_X6_lighter_5 : GoodIn wsL_fails wsX6_lighter_r4 := goodIn_r _ [369, 370, 371, 372, 373, 374, 375, 376, 352, 377, 378, 379, 380, 381, 382, 300, 301, 302, 227, 228, 106, 107, 108, 109] (by decide +kernel) (by decide +kernel)
set_option maxRecDepth 20000 in
theorem ggL_fails_X6_lighter_6 : GoodIn wsL_fails wsX6_lighter_r5 := goodIn_r _ [110, 102, 103, 104, 229, 112, 113, 114, 115, 383, 384, 385, 386, 234, 117, 118, 119, 120, 387, 388, 389, 129, 390, 131] (by decide +kernel) (by decide +kernel)
set_option maxRecDepth 20000 in
theorem ggL_fails_X6_lighter_7 : GoodIn wsL_fails wsX6_lighter_r6 := goodIn_r _ [132, 391, 392, 393, 394, 395, 396, 397, 398, 399, 400, 401, 402, 403, 404, 405, 406, 407, 408, 409, 410, 411, 412, 413] (by decide +kernel) (by decide +kernel)
set_option maxRecDepth 20000 in
theorem ggL_fails_X6_lighter_8 : GoodIn wsL_fails wsX6_lighter_r7 := goodIn_r _ [414, 415, 416, 417, 418, 419, 420, 421, 467, 468, 469, 470, 471, 472, 473, 474, 475, 476, 477, 478, 479, 480, 481, 482] (by decide +kernel) (by decide +kernel)
set_option maxRecDepth 20000 in
theorem ggL_fails_X6_lighter_9 : GoodIn wsL_fails wsX6_lighter_r8 := goodIn_r _ [483, 484] (by decide +kernel) (by decide +kernel)
set_option maxRecDepth 20000 in
theorem ggL_fails_X6_lighter_10 : GoodIn wsL_fails wsX60 := goodIn_r _ [493, 494, 495, 496, 497, 498, 499, 500] (by decide +kernel) (by decide +kernel)
set_option maxRecDepth 20000 in
theorem ggL_fails_X6_lighter_11 : GoodIn wsL_fails wsX40 := goodIn_r _ [501, 502, 503, 504, 505, 506] (by decide +kernel) (by decide +kernel)
set_option maxRecDepth 20000 in
theorem ggL_fails_X6_lighter_12 : GoodIn wsL_fails wsX50 := goodIn_r _ [523, 524, 525, 526] (by decide +kernel) (by decide +kernel)
set_option maxRecDepth 20000 in
theorem ggL_fails_X6_lighter_13 : GoodIn wsL_fails wsX00 := goodIn_r _ [518, 519, 520, 521] (by decide +kernel) (by decide +kernel)
set_option maxRecDepth 20000 in
theorem ggL_fails_X6_lighter_14 : GoodIn wsL_fails wsX30 := goodIn_r _ [507, 508, 509, 510, 511, 512, 513, 514, 515, 516, 517] (by decide +kernel) (by decide +kernel)
set_option maxRecDepth 20000 in
theorem ggL_fails_X6_lighter_15 : GoodIn wsL_fails wsX20 := goodIn_r _ [522] (by decide +kernel) (by decide +kernel)
set_option maxRecDepth 20000 in
theorem ggL_fails_X6_lighter : GoodIn wsL_fails wsX6_lighter := goodIn_app (a := [.code yX6_lighter cX6_lighter 6 (some .int)]) ggL_fails_X6_lighter_1 (goodIn_app (goodIn_app (goodIn_app (goodIn_app (goodIn_app (goodIn_app (goodIn_app ggL_fails_X6_lighter_2 (goodIn_app ggL_fails_X6_lighter_3 (goodIn_app ggL_fails_X6_lighter_4 (goodIn_app ggL_fails_X6_lighter_5 (goodIn_app ggL_fails_X6_lighter_6 (goodIn_app ggL_fails_X6_lighter_7 (goodIn_app ggL_fails_X6_lighter_8 ggL_fails_X6_lighter_9))))))) ggL_fails_X6_lighter_10) ggL_fails_X6_lighter_11) ggL_fails_X6_lighter_12) ggL_fails_X6_lighter_13) ggL_fails_X6_lighter_14) ggL_fails_X6_lighter_15)
set_option maxRecDepth 20000 in
theorem gL_fails_X6_lighter : GoodIn wsL_fails (wsV RL 87 RX6 yX6_lighter wsX6_lighter) := goodIn_app (goodIn_of _ (by decide +kernel)) ggL_fails_X6_lighter
set_option maxRecDepth 20000 in
theorem ggL_fails_X6_shorter_1 : GoodIn wsL_fails [.code yX6_shorter cX6_shorter 6 (some .int)] := goodIn_r _ [488] (by decide +kernel) (by decide +kernel)
set_option maxRecDepth 20000 in
theorem ggL_fails_X6_shorter_2 : GoodIn wsL_fails wsX6_shorter_r1 := goodIn_r _ [17, 137, 19, 273, 426, 158, 147, 148, 149, 150, 151, 152, 33, 34, 8, 35, 159, 160, 161, 162, 163, 164, 165, 341] (by decide +kernel) (by decide +kernel)
set_option maxRecDepth 20000 in
theorem ggL_fails_X6_shorter_3 : GoodIn wsL_fails wsX6_shorter_r2 := goodIn_r _ [342, 343, 344, 90, 91, 92, 93, 94, 95, 96, 21, 22, 448, 449, 450, 451, 191, 452, 353, 354, 355, 427, 428, 429] (by decide +kernel) (by decide +kernel)
set_option maxRecDepth 20000 in
theorem ggL_fails_X6_shorter_4 : GoodIn wsL_fails wsX6_shorter_r3 := goodIn_r _ [430, 356, 357, 358, 211, 359, 360, 213, 361, 71, 72, 73, 214, 215, 362, 363, 364, 365, 24, 25, 26, 27, 28, 366] (by decide +kernel) (by decide +kernel)
set_option maxRecDepth 20000 in
theorem ggL_fails_X6_shorter_5 : GoodIn wsL_fails wsX6_shorter_r4 := goodIn_r _ [367, 368, 369, 370, 371, 372, 373, 374, 375, 376, 352, 377, 378, 379, 380, 381, 382, 300, 301, 302, 227, 228, 106, 107] (by decide +kernel) (by decide +kernel)
set_option maxRecDepth 20000 in
theorem ggL_fails_X6_shorter_6 : GoodIn wsL_fails wsX6_shorter_r5 := goodIn_r _ [108, 109, 110, 102, 103, 104, 229, 112, 113, 114, 115, 383, 384, 385, 386, 234, 117, 118, 119, 120, 387, 388, 389, 129] (by decide +kernel) (by decide +kernel)
set_option maxRecDepth 20000 in
theorem ggL_fails_X6_shorter_7 : GoodIn wsL_fails wsX6_shorter_r6 := goodIn_r _ [390, 131, 132, 391, 392, 393, 394, 395, 396, 397, 398, 399, 400, 401, 402, 403, 404, 405, 406, 407, 408, 409, 410, 411] (by decide +kernel) (by decide +kernel)
set_option maxRecDepth 20000 in
theorem ggL_fails_X6_shorter_8 : GoodIn wsL_fails wsX6_shorter_r7 := goodIn_r _ [412, 413, 414, 415, 416, 417, 418, 419, 420, 421] (by decide +kernel) (by decide +kernel)
set_option maxRecDepth 20000 in
theorem ggL_fails_X6_shorter_9 : GoodIn wsL_fails wsX60 := goodIn_r _ [493, 494, 495, 496, 497, 498, 499, 500] (by decide +kernel) (by decide +kernel)
set_option maxRecDepth 20000 in
theorem ggL_fails_X6_shorter_10 : GoodIn wsL_fails wsX40 := goodIn_r _ [501, 502, 503, 504, 505, 506] (by decide +kernel) (by decide +kernel)
set_option maxRecDepth 20000 in
theorem ggL_fails_X6_shorter_11 : GoodIn wsL_fails wsX50 := goodIn_r _ [523, 524, 525, 526] (by decide +kernel) (by decide +kernel)
set_option maxRecDepth 20000 in
theorem ggL_fails_X6_shorter_12 : GoodIn wsL_fails wsX00 := goodIn_r _ [518, 519, 520, 521] (by decide +kernel) (by decide +kernel)
set_option maxRecDepth 20000 in
theorem ggL_fails_X6_shorter_13 : GoodIn wsL_fails wsX30 := goodIn_r _ [507, 508, 509, 510, 511, 512, 513, 514, 515, 516, 517] (by decide +kernel) (by decide +kernel)
set_option maxRecDepth 20000 in
theorem ggL_fails_X6_shorter_14 : GoodIn wsL_fails wsX20 := goodIn_r _ [522] (by decide +kernel) (by decide +kernel)
set_option maxRecDepth 20000 in
theorem ggL_fails_X6_shorter : GoodIn wsL_fails wsX6_shorter := goodIn_app (a := [.code yX6_shorter cX6_shorter 6 (some .int)]) ggL_fails_X6_shorter_1 (goodIn_app (goodIn_app (goodIn_app (goodIn_app (goodIn_app (goodIn_app (goodIn_app ggL_fails_X6_shorter_2 (goodIn_app ggL_fails_X6_shorter_3 (goodIn_app ggL_fails_X6_shorter_4 (goodIn_app ggL_fails_X6_shorter_5 (goodIn_app ggL_fails_X6_shorter_6 (goodIn_app ggL_fails_X6_shorter_7 ggL_fails_X6_shorter_8)))))) ggL_fails_X6_shorter_9) ggL_fails_X6_shorter_10) ggL_fails_X6_shorter_11) ggL_fails_X6_shorter_12) ggL_fails_X6_shorter_13) ggL_fails_X6_shorter_14)
set_option maxRecDepth 20000 in
theorem gL_fails_X6_shorter : GoodIn wsL_fails (wsV RL 90 RX6 yX6_shorter wsX6_shorter) := goodIn_app (goodIn_of _ (by decide +kernel)) ggL_fails_X6_shorter
set_option maxRecDepth 20000 in
theorem ggL_fails_X6_cheapest_1 : GoodIn wsL_fails [.code yX6_cheapest cX6_cheapest 6 (some .int)] := goodIn_r _ [492] (by decide +kernel) (by decide +kernel)
set_option maxRecDepth 20000 in
theorem ggL_fails_X6_cheapest_2 : GoodIn wsL_fails wsX6_cheapest_r1 := goodIn_r _ [17, 137, 19, 426, 158, 147, 148, 149, 150, 151, 152, 448, 449, 450, 451, 164, 191, 160, 161, 162, 163, 165, 452, 353] (by decide +kernel) (by decide +kernel)
set_option maxRecDepth 20000 in
theorem ggL_fails_X6_cheapest_3 : GoodIn wsL_fails wsX6_cheapest_r2 := goodIn_r _ [354, 355, 341, 342, 343, 8, 344, 90, 91, 92, 93, 94, 95, 96, 21, 22, 352, 427, 428, 429, 430, 356, 357, 358] (by decide +kernel) (by decide +kernel)
set_option maxRecDepth 20000 in
theorem ggL_fails_X6_cheapest_4 : GoodIn wsL_fails wsX6_cheapest_r3 := goodIn_r _ [211, 359, 360, 213, 361, 71, 72, 73, 214, 215, 362, 363, 364, 159, 365, 24, 25, 26, 27, 28, 366, 367, 368, 369] (by decide +kernel) (by decide +kernel)
set_option maxRecDepth 20000 in
theorem ggL_fails_X6_cheapest_5 : GoodIn wsL_fails wsX6_cheapest_r4 := goodIn_r _ [370, 371, 372, 373, 374, 375, 376, 377, 378, 379, 380, 381, 382, 300, 301, 302, 227, 228, 106, 107, 108, 109, 110, 102] (by decide +kernel) (by decide +kernel)
set_option maxRecDepth 20000 in
theorem ggL_fails_X6_cheapest_6 : GoodIn wsL_fails wsX6_cheapest_r5 := goodIn_r _ [103, 104, 229, 112, 113, 114, 115, 383, 384, 385, 386, 234, 117, 118, 119, 120, 387, 388, 389, 129, 390, 131, 132, 391] (by decide +kernel) (by decide +kernel)
set_option maxRecDepth 20000 in
theorem ggL_fails_X6_cheapest_7 : GoodIn wsL_fails wsX6_cheapest_r6 := goodIn_r _ [392, 393, 394, 395, 396, 397, 398, 399, 400, 401, 402, 403, 404, 405, 406, 407, 408, 409, 410, 411, 412, 413, 414, 415] (by decide +kernel) (by decide +kernel)
set_option maxRecDepth 20000 in
theorem ggL_fails_X6_cheapest_8 : GoodIn wsL_fails wsX6_cheapest_r7 := goodIn_r _ [416, 417, 418, 419, 420, 421] (by decide +kernel) (by decide +kernel)
set_option maxRecDepth 20000 in
theorem ggL_fails_X6_cheapest_9 : GoodIn wsL_fails wsX60 := goodIn_r _ [493, 494, 495, 496, 497, 498, 499, 500] (by decide +kernel) (by decide +kernel)
set_option maxRecDepth 20000 in
theorem ggL_fails_X6_cheapest_10 : GoodIn wsL_fails wsX40 := goodIn_r _ [501, 502, 503, 504, 505, 506] (by decide +kernel) (by decide +kernel)
set_option maxRecDepth 20000 in
theorem ggL_fails_X6_cheapest_11 : GoodIn wsL_fails wsX50 := goodIn_r _ [523, 524, 525, 526] (by decide +kernel) (by decide +kernel)
set_option maxRecDepth 20000 in
theorem ggL_fails_X6_cheapest_12 : GoodIn wsL_fails wsX00 := goodIn_r _ [518, 519, 520, 521] (by decide +kernel) (by decide +kernel)
set_option maxRecDepth 20000 in
theorem ggL_fails_X6_cheapest_13 : GoodIn wsL_fails wsX30 := goodIn_r _ [507, 508, 509, 510, 511, 512, 513, 514, 515, 516, 517] (by decide +kernel) (by decide +kernel)
set_option maxRecDepth 20000 in
theorem ggL_fails_X6_cheapest_14 : GoodIn wsL_fails wsX20 := goodIn_r _ [522] (by decide +kernel) (by decide +kernel)
set_option maxRecDepth 20000 in
theorem ggL_fails_X6_cheapest : GoodIn wsL_fails wsX6_cheapest := goodIn_app (a := [.code yX6_cheapest cX6_cheapest 6 (some .int)]) ggL_fails_X6_cheapest_1 (goodIn_app (goodIn_app (goodIn_app (goodIn_app (goodIn_app (goodIn_app (goodIn_app ggL_fails_X6_cheapest_2 (goodIn_app ggL_fails_X6_cheapest_3 (goodIn_app ggL_fails_X6_cheapest_4 (goodIn_app ggL_fails_X6_cheapest_5 (goodIn_app ggL_fails_X6_cheapest_6 (goodIn_app ggL_fails_X6_cheapest_7 ggL_fails_X6_cheapest_8)))))) ggL_fails_X6_cheapest_9) ggL_fails_X6_cheapest_10) ggL_fails_X6_cheapest_11) ggL_fails_X6_cheapest_12) ggL_fails_X6_cheapest_13) ggL_fails_X6_cheapest_14)
set_option maxRecDepth 20000 in
theorem gL_fails_X6_cheapest : GoodIn wsL_fails (wsV RL 93 RX6 yX6_cheapest wsX6_cheapest) := goodIn_app (goodIn_of _ (by decide +kernel)) ggL_fails_X6_cheapest
