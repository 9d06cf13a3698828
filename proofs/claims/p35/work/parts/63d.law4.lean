theorem dL_rule_0 : decode cL_rule 0 = .ok (.iconst 0, 1) := by decide +kernel
theorem dL_rule_1 : decode cL_rule 1 = .ok (.istore_n 3, 1) := by decide +kernel
theorem dL_rule_2 : decode cL_rule 2 = .ok (.iconst 1, 1) := by decide +kernel
theorem dL_rule_3 : decode cL_rule 3 = .ok (.iload_n 1, 1) := by decide +kernel
theorem dL_rule_4 : decode cL_rule 4 = .ok (.iconst 2, 1) := by decide +kernel
theorem dL_rule_5 : decode cL_rule 5 = .ok (.invokestatic 108, 3) := by decide +kernel
theorem dL_rule_8 : decode cL_rule 8 = .ok (.iadd, 1) := by decide +kernel
theorem dL_rule_9 : decode cL_rule 9 = .ok (.istore 4, 2) := by decide +kernel
theorem dL_rule_11 : decode cL_rule 11 = .ok (.iconst 0, 1) := by decide +kernel
theorem dL_rule_12 : decode cL_rule 12 = .ok (.istore 5, 2) := by decide +kernel
theorem dL_rule_14 : decode cL_rule 14 = .ok (.iload 5, 2) := by decide +kernel
theorem dL_rule_16 : decode cL_rule 16 = .ok (.iload 4, 2) := by decide +kernel
theorem dL_rule_18 : decode cL_rule 18 = .ok (.if_icmp .ge 212, 3) := by decide +kernel
theorem dL_rule_21 : decode cL_rule 21 = .ok (.iload_n 1, 1) := by decide +kernel
theorem dL_rule_22 : decode cL_rule 22 = .ok (.iconst 4, 1) := by decide +kernel
theorem dL_rule_23 : decode cL_rule 23 = .ok (.bipush 9, 2) := by decide +kernel
theorem dL_rule_25 : decode cL_rule 25 = .ok (.iload 5, 2) := by decide +kernel
theorem dL_rule_27 : decode cL_rule 27 = .ok (.imul, 1) := by decide +kernel
theorem dL_rule_28 : decode cL_rule 28 = .ok (.iadd, 1) := by decide +kernel
theorem dL_rule_29 : decode cL_rule 29 = .ok (.ishr, 1) := by decide +kernel
theorem dL_rule_30 : decode cL_rule 30 = .ok (.istore 6, 2) := by decide +kernel
theorem dL_rule_32 : decode cL_rule 32 = .ok (.iload 5, 2) := by decide +kernel
theorem dL_rule_34 : decode cL_rule 34 = .ok (.ifCond .le 24, 3) := by decide +kernel
theorem dL_rule_37 : decode cL_rule 37 = .ok (.aload_n 0, 1) := by decide +kernel
theorem dL_rule_38 : decode cL_rule 38 = .ok (.iload 6, 2) := by decide +kernel
theorem dL_rule_40 : decode cL_rule 40 = .ok (.iconst 1, 1) := by decide +kernel
theorem dL_rule_41 : decode cL_rule 41 = .ok (.iand, 1) := by decide +kernel
theorem dL_rule_42 : decode cL_rule 42 = .ok (.ifCond .ne 8, 3) := by decide +kernel
theorem dL_rule_45 : decode cL_rule 45 = .ok (.bipush 38, 2) := by decide +kernel
theorem dL_rule_47 : decode cL_rule 47 = .ok (.goto 5, 3) := by decide +kernel
theorem dL_rule_50 : decode cL_rule 50 = .ok (.bipush 124, 2) := by decide +kernel
theorem dL_rule_52 : decode cL_rule 52 = .ok (.invokevirtual 49, 3) := by decide +kernel
theorem dL_rule_55 : decode cL_rule 55 = .ok (.goto 4, 3) := by decide +kernel
theorem dL_rule_58 : decode cL_rule 58 = .ok (.iconst 0, 1) := by decide +kernel
theorem dL_rule_59 : decode cL_rule 59 = .ok (.istore_n 3, 1) := by decide +kernel
theorem dL_rule_60 : decode cL_rule 60 = .ok (.iload 6, 2) := by decide +kernel
theorem dL_rule_62 : decode cL_rule 62 = .ok (.bipush 6, 2) := by decide +kernel
theorem dL_rule_64 : decode cL_rule 64 = .ok (.iand, 1) := by decide +kernel
theorem dL_rule_65 : decode cL_rule 65 = .ok (.ifCond .ne 12, 3) := by decide +kernel
theorem dL_rule_68 : decode cL_rule 68 = .ok (.aload_n 0, 1) := by decide +kernel
theorem dL_rule_69 : decode cL_rule 69 = .ok (.bipush 126, 2) := by decide +kernel
theorem dL_rule_71 : decode cL_rule 71 = .ok (.invokevirtual 49, 3) := by decide +kernel
theorem dL_rule_74 : decode cL_rule 74 = .ok (.goto 4, 3) := by decide +kernel
theorem dL_rule_77 : decode cL_rule 77 = .ok (.iconst 0, 1) := by decide +kernel
theorem dL_rule_78 : decode cL_rule 78 = .ok (.istore_n 3, 1) := by decide +kernel
theorem dL_rule_79 : decode cL_rule 79 = .ok (.iload 6, 2) := by decide +kernel
theorem dL_rule_81 : decode cL_rule 81 = .ok (.iconst 3, 1) := by decide +kernel
theorem dL_rule_82 : decode cL_rule 82 = .ok (.ishr, 1) := by decide +kernel
theorem dL_rule_83 : decode cL_rule 83 = .ok (.bipush 6, 2) := by decide +kernel
theorem dL_rule_85 : decode cL_rule 85 = .ok (.invokestatic 108, 3) := by decide +kernel
theorem dL_rule_88 : decode cL_rule 88 = .ok (.istore 7, 2) := by decide +kernel
theorem dL_rule_90 : decode cL_rule 90 = .ok (.aload_n 0, 1) := by decide +kernel
theorem dL_rule_91 : decode cL_rule 91 = .ok (.iload 7, 2) := by decide +kernel
theorem dL_rule_93 : decode cL_rule 93 = .ok (.ifCond .ne 8, 3) := by decide +kernel
theorem dL_rule_96 : decode cL_rule 96 = .ok (.bipush 119, 2) := by decide +kernel
theorem dL_rule_98 : decode cL_rule 98 = .ok (.goto 49, 3) := by decide +kernel
theorem dL_rule_101 : decode cL_rule 101 = .ok (.iload 7, 2) := by decide +kernel
theorem dL_rule_103 : decode cL_rule 103 = .ok (.iconst 1, 1) := by decide +kernel
theorem dL_rule_104 : decode cL_rule 104 = .ok (.if_icmp .ne 8, 3) := by decide +kernel
theorem dL_rule_107 : decode cL_rule 107 = .ok (.bipush 114, 2) := by decide +kernel
theorem dL_rule_109 : decode cL_rule 109 = .ok (.goto 38, 3) := by decide +kernel
theorem dL_rule_112 : decode cL_rule 112 = .ok (.iload 7, 2) := by decide +kernel
theorem dL_rule_114 : decode cL_rule 114 = .ok (.iconst 2, 1) := by decide +kernel
theorem dL_rule_115 : decode cL_rule 115 = .ok (.if_icmp .ne 8, 3) := by decide +kernel
theorem dL_rule_118 : decode cL_rule 118 = .ok (.bipush 118, 2) := by decide +kernel
theorem dL_rule_120 : decode cL_rule 120 = .ok (.goto 27, 3) := by decide +kernel
theorem dL_rule_123 : decode cL_rule 123 = .ok (.iload 7, 2) := by decide +kernel
theorem dL_rule_125 : decode cL_rule 125 = .ok (.iconst 3, 1) := by decide +kernel
theorem dL_rule_126 : decode cL_rule 126 = .ok (.if_icmp .ne 8, 3) := by decide +kernel
theorem dL_rule_129 : decode cL_rule 129 = .ok (.bipush 103, 2) := by decide +kernel
theorem dL_rule_131 : decode cL_rule 131 = .ok (.goto 16, 3) := by decide +kernel
theorem dL_rule_134 : decode cL_rule 134 = .ok (.iload 7, 2) := by decide +kernel
theorem dL_rule_136 : decode cL_rule 136 = .ok (.iconst 4, 1) := by decide +kernel
theorem dL_rule_137 : decode cL_rule 137 = .ok (.if_icmp .ne 8, 3) := by decide +kernel
theorem dL_rule_140 : decode cL_rule 140 = .ok (.bipush 108, 2) := by decide +kernel
theorem dL_rule_142 : decode cL_rule 142 = .ok (.goto 5, 3) := by decide +kernel
theorem dL_rule_145 : decode cL_rule 145 = .ok (.bipush 122, 2) := by decide +kernel
theorem dL_rule_147 : decode cL_rule 147 = .ok (.invokevirtual 49, 3) := by decide +kernel
theorem dL_rule_150 : decode cL_rule 150 = .ok (.istore_n 3, 1) := by decide +kernel
theorem dL_rule_151 : decode cL_rule 151 = .ok (.aload_n 0, 1) := by decide +kernel
theorem dL_rule_152 : decode cL_rule 152 = .ok (.iload 6, 2) := by decide +kernel
theorem dL_rule_154 : decode cL_rule 154 = .ok (.sipush 256, 3) := by decide +kernel
theorem dL_rule_157 : decode cL_rule 157 = .ok (.iand, 1) := by decide +kernel
theorem dL_rule_158 : decode cL_rule 158 = .ok (.ifCond .ne 8, 3) := by decide +kernel
theorem dL_rule_161 : decode cL_rule 161 = .ok (.bipush 60, 2) := by decide +kernel
theorem dL_rule_163 : decode cL_rule 163 = .ok (.goto 5, 3) := by decide +kernel
theorem dL_rule_166 : decode cL_rule 166 = .ok (.bipush 62, 2) := by decide +kernel
theorem dL_rule_168 : decode cL_rule 168 = .ok (.invokevirtual 49, 3) := by decide +kernel
theorem dL_rule_171 : decode cL_rule 171 = .ok (.istore_n 3, 1) := by decide +kernel
theorem dL_rule_172 : decode cL_rule 172 = .ok (.aload_n 0, 1) := by decide +kernel
theorem dL_rule_173 : decode cL_rule 173 = .ok (.bipush 48, 2) := by decide +kernel
theorem dL_rule_175 : decode cL_rule 175 = .ok (.iload_n 2, 1) := by decide +kernel
theorem dL_rule_176 : decode cL_rule 176 = .ok (.iconst 3, 1) := by decide +kernel
theorem dL_rule_177 : decode cL_rule 177 = .ok (.iload 5, 2) := by decide +kernel
theorem dL_rule_179 : decode cL_rule 179 = .ok (.imul, 1) := by decide +kernel
theorem dL_rule_180 : decode cL_rule 180 = .ok (.ishr, 1) := by decide +kernel
theorem dL_rule_181 : decode cL_rule 181 = .ok (.bipush 10, 2) := by decide +kernel
theorem dL_rule_183 : decode cL_rule 183 = .ok (.invokestatic 108, 3) := by decide +kernel
theorem dL_rule_186 : decode cL_rule 186 = .ok (.iadd, 1) := by decide +kernel
theorem dL_rule_187 : decode cL_rule 187 = .ok (.invokevirtual 49, 3) := by decide +kernel
theorem dL_rule_190 : decode cL_rule 190 = .ok (.istore_n 3, 1) := by decide +kernel
theorem dL_rule_191 : decode cL_rule 191 = .ok (.iload 7, 2) := by decide +kernel
theorem dL_rule_193 : decode cL_rule 193 = .ok (.iconst 5, 1) := by decide +kernel
theorem dL_rule_194 : decode cL_rule 194 = .ok (.if_icmp .ge 28, 3) := by decide +kernel
theorem dL_rule_197 : decode cL_rule 197 = .ok (.aload_n 0, 1) := by decide +kernel
theorem dL_rule_198 : decode cL_rule 198 = .ok (.bipush 48, 2) := by decide +kernel
theorem dL_rule_200 : decode cL_rule 200 = .ok (.iload_n 2, 1) := by decide +kernel
theorem dL_rule_201 : decode cL_rule 201 = .ok (.iconst 4, 1) := by decide +kernel
theorem dL_rule_202 : decode cL_rule 202 = .ok (.ishr, 1) := by decide +kernel
theorem dL_rule_203 : decode cL_rule 203 = .ok (.bipush 10, 2) := by decide +kernel
theorem dL_rule_205 : decode cL_rule 205 = .ok (.invokestatic 108, 3) := by decide +kernel
theorem dL_rule_208 : decode cL_rule 208 = .ok (.iadd, 1) := by decide +kernel
theorem dL_rule_209 : decode cL_rule 209 = .ok (.invokevirtual 49, 3) := by decide +kernel
theorem dL_rule_212 : decode cL_rule 212 = .ok (.aload_n 0, 1) := by decide +kernel
theorem dL_rule_213 : decode cL_rule 213 = .ok (.bipush 48, 2) := by decide +kernel
theorem dL_rule_215 : decode cL_rule 215 = .ok (.invokevirtual 49, 3) := by decide +kernel
theorem dL_rule_218 : decode cL_rule 218 = .ok (.iadd, 1) := by decide +kernel
theorem dL_rule_219 : decode cL_rule 219 = .ok (.goto 4, 3) := by decide +kernel
theorem dL_rule_222 : decode cL_rule 222 = .ok (.iconst 0, 1) := by decide +kernel
theorem dL_rule_223 : decode cL_rule 223 = .ok (.istore_n 3, 1) := by decide +kernel
theorem dL_rule_224 : decode cL_rule 224 = .ok (.iinc 5 1, 3) := by decide +kernel
theorem dL_rule_227 : decode cL_rule 227 = .ok (.goto (-213), 3) := by decide +kernel
theorem dL_rule_230 : decode cL_rule 230 = .ok (.aload_n 0, 1) := by decide +kernel
theorem dL_rule_231 : decode cL_rule 231 = .ok (.bipush 63, 2) := by decide +kernel
theorem dL_rule_233 : decode cL_rule 233 = .ok (.invokevirtual 49, 3) := by decide +kernel
theorem dL_rule_236 : decode cL_rule 236 = .ok (.aload_n 0, 1) := by decide +kernel
theorem dL_rule_237 : decode cL_rule 237 = .ok (.iload_n 2, 1) := by decide +kernel
theorem dL_rule_238 : decode cL_rule 238 = .ok (.iconst 3, 1) := by decide +kernel
theorem dL_rule_239 : decode cL_rule 239 = .ok (.iand, 1) := by decide +kernel
theorem dL_rule_240 : decode cL_rule 240 = .ok (.ifCond .ne 8, 3) := by decide +kernel
theorem dL_rule_243 : decode cL_rule 243 = .ok (.bipush 45, 2) := by decide +kernel
theorem dL_rule_245 : decode cL_rule 245 = .ok (.goto 17, 3) := by decide +kernel
theorem dL_rule_248 : decode cL_rule 248 = .ok (.iload_n 2, 1) := by decide +kernel
theorem dL_rule_249 : decode cL_rule 249 = .ok (.iconst 3, 1) := by decide +kernel
theorem dL_rule_250 : decode cL_rule 250 = .ok (.iand, 1) := by decide +kernel
theorem dL_rule_251 : decode cL_rule 251 = .ok (.iconst 1, 1) := by decide +kernel
theorem dL_rule_252 : decode cL_rule 252 = .ok (.if_icmp .ne 8, 3) := by decide +kernel
theorem dL_rule_255 : decode cL_rule 255 = .ok (.bipush 42, 2) := by decide +kernel
theorem dL_rule_257 : decode cL_rule 257 = .ok (.goto 5, 3) := by decide +kernel
theorem dL_rule_260 : decode cL_rule 260 = .ok (.bipush 43, 2) := by decide +kernel
theorem dL_rule_262 : decode cL_rule 262 = .ok (.invokevirtual 49, 3) := by decide +kernel
theorem dL_rule_265 : decode cL_rule 265 = .ok (.iadd, 1) := by decide +kernel
theorem dL_rule_266 : decode cL_rule 266 = .ok (.istore_n 3, 1) := by decide +kernel
theorem dL_rule_267 : decode cL_rule 267 = .ok (.aload_n 0, 1) := by decide +kernel
theorem dL_rule_268 : decode cL_rule 268 = .ok (.bipush 49, 2) := by decide +kernel
theorem dL_rule_270 : decode cL_rule 270 = .ok (.iload_n 2, 1) := by decide +kernel
theorem dL_rule_271 : decode cL_rule 271 = .ok (.bipush 8, 2) := by decide +kernel
theorem dL_rule_273 : decode cL_rule 273 = .ok (.ishr, 1) := by decide +kernel
theorem dL_rule_274 : decode cL_rule 274 = .ok (.bipush 9, 2) := by decide +kernel
theorem dL_rule_276 : decode cL_rule 276 = .ok (.invokestatic 108, 3) := by decide +kernel
theorem dL_rule_279 : decode cL_rule 279 = .ok (.iadd, 1) := by decide +kernel
theorem dL_rule_280 : decode cL_rule 280 = .ok (.invokevirtual 49, 3) := by decide +kernel
theorem dL_rule_283 : decode cL_rule 283 = .ok (.aload_n 0, 1) := by decide +kernel
theorem dL_rule_284 : decode cL_rule 284 = .ok (.bipush 48, 2) := by decide +kernel
theorem dL_rule_286 : decode cL_rule 286 = .ok (.iload_n 2, 1) := by decide +kernel
theorem dL_rule_287 : decode cL_rule 287 = .ok (.bipush 12, 2) := by decide +kernel
theorem dL_rule_289 : decode cL_rule 289 = .ok (.ishr, 1) := by decide +kernel
theorem dL_rule_290 : decode cL_rule 290 = .ok (.bipush 10, 2) := by decide +kernel
theorem dL_rule_292 : decode cL_rule 292 = .ok (.invokestatic 108, 3) := by decide +kernel
theorem dL_rule_295 : decode cL_rule 295 = .ok (.iadd, 1) := by decide +kernel
theorem dL_rule_296 : decode cL_rule 296 = .ok (.invokevirtual 49, 3) := by decide +kernel
theorem dL_rule_299 : decode cL_rule 299 = .ok (.iadd, 1) := by decide +kernel
theorem dL_rule_300 : decode cL_rule 300 = .ok (.aload_n 0, 1) := by decide +kernel
theorem dL_rule_301 : decode cL_rule 301 = .ok (.bipush 53, 2) := by decide +kernel
theorem dL_rule_303 : decode cL_rule 303 = .ok (.invokevirtual 49, 3) := by decide +kernel
theorem dL_rule_306 : decode cL_rule 306 = .ok (.iadd, 1) := by decide +kernel
theorem dL_rule_307 : decode cL_rule 307 = .ok (.istore_n 3, 1) := by decide +kernel
theorem dL_rule_308 : decode cL_rule 308 = .ok (.aload_n 0, 1) := by decide +kernel
theorem dL_rule_309 : decode cL_rule 309 = .ok (.invokevirtual 111, 3) := by decide +kernel
theorem dL_rule_312 : decode cL_rule 312 = .ok (.ireturn, 1) := by decide +kernel
set_option maxRecDepth 20000 in
theorem ggL_law_X6_init_1 : GoodIn wsL_law [.code yX6_init cX6_init 2 none] := goodIn_r _ [11] (by decide +kernel) (by decide +kernel)
set_option maxRecDepth 20000 in
theorem ggL_law_X6_init_2 : GoodIn wsL_law wsX6_init_r1 := goodIn_r _ [12, 13, 14, 15, 16, 17, 18, 19, 20, 21, 22, 23, 24, 25, 26, 27, 28, 29, 30, 31, 32, 33, 34, 35] (by decide +kernel) (by decide +kernel)
set_option maxRecDepth 20000 in
theorem ggL_law_X6_init_3 : GoodIn wsL_law wsX6_init_r2 := goodIn_r _ [36, 37, 38, 39, 40, 41, 42, 43, 44, 45, 46, 47, 48, 49, 50, 51, 52, 53, 54, 55, 56, 57, 58, 59] (by decide +kernel) (by decide +kernel)
set_option maxRecDepth 20000 in
theorem ggL_law_X6_init_4 : GoodIn wsL_law wsX6_init_r3 := goodIn_r _ [60, 61, 62, 63, 64, 65, 66, 67, 68, 69, 70, 71, 72, 73, 74, 75, 76, 77, 78, 79, 80, 81, 82, 83] (by decide +kernel) (by decide +kernel)
set_option maxRecDepth 20000 in
theorem ggL_law_X6_init_5 : GoodIn wsL_law wsX6_init_r4 := goodIn_r _ [84, 85, 86] (by decide +kernel) (by decide +kernel)
set_option maxRecDepth 20000 in
theorem ggL_law_X6_init_6 : GoodIn wsL_law wsX40 := goodIn_r _ [778, 779, 780, 781, 782, 783] (by decide +kernel) (by decide +kernel)
set_option maxRecDepth 20000 in
theorem ggL_law_X6_init_7 : GoodIn wsL_law wsX60 := goodIn_r _ [770, 771, 772, 773, 774, 775, 776, 777] (by decide +kernel) (by decide +kernel)
set_option maxRecDepth 20000 in
theorem ggL_law_X6_init_8 : GoodIn wsL_law wsX10 := goodIn_r _ [784, 785, 786, 787, 788, 789, 790, 791, 792] (by decide +kernel) (by decide +kernel)
set_option maxRecDepth 20000 in
theorem ggL_law_X6_init_9 : GoodIn wsL_law wsX50 := goodIn_r _ [793, 794, 795, 796] (by decide +kernel) (by decide +kernel)
set_option maxRecDepth 20000 in
theorem ggL_law_X6_init_10 : GoodIn wsL_law wsX30 := goodIn_r _ [797, 798, 799, 800, 801, 802, 803, 804, 805, 806, 807] (by decide +kernel) (by decide +kernel)
set_option maxRecDepth 20000 in
theorem ggL_law_X6_init_11 : GoodIn wsL_law wsX00 := goodIn_r _ [808, 809, 810, 811] (by decide +kernel) (by decide +kernel)
set_option maxRecDepth 20000 in
theorem ggL_law_X6_init_12 : GoodIn wsL_law wsX20 := goodIn_r _ [812] (by decide +kernel) (by decide +kernel)
set_option maxRecDepth 20000 in
theorem ggL_law_X6_init : GoodIn wsL_law wsX6_init := goodIn_app (a := [.code yX6_init cX6_init 2 none]) ggL_law_X6_init_1 (goodIn_app (goodIn_app (goodIn_app (goodIn_app (goodIn_app (goodIn_app (goodIn_app (goodIn_app ggL_law_X6_init_2 (goodIn_app ggL_law_X6_init_3 (goodIn_app ggL_law_X6_init_4 ggL_law_X6_init_5))) ggL_law_X6_init_6) ggL_law_X6_init_7) ggL_law_X6_init_8) ggL_law_X6_init_9) ggL_law_X6_init_10) ggL_law_X6_init_11) ggL_law_X6_init_12)
set_option maxRecDepth 20000 in
theorem gL_law_X6_init : GoodIn wsL_law (wsX6_init) := ggL_law_X6_init
set_option maxRecDepth 20000 in
theorem ggL_law_X6_undo_1 : GoodIn wsL_law [.code yX6_undo cX6_undo 1 (some .int)] := goodIn_r _ [90] (by decide +kernel) (by decide +kernel)
set_option maxRecDepth 20000 in
theorem ggL_law_X6_undo_2 : GoodIn wsL_law wsX6_undo_r1 := goodIn_r _ [91, 92, 93, 19, 18, 94, 95, 96, 17, 97, 36, 40, 44, 46, 47, 48, 98, 99, 100, 35, 101, 52, 102, 103] (by decide +kernel) (by decide +kernel)
set_option maxRecDepth 20000 in
theorem ggL_law_X6_undo_3 : GoodIn wsL_law wsX6_undo_r2 := goodIn_r _ [104, 105, 106, 107, 108, 109, 110, 111, 112, 113, 114, 115, 116, 117, 118, 39, 119, 56, 120, 2, 121, 122, 123, 124] (by decide +kernel) (by decide +kernel)
set_option maxRecDepth 20000 in
theorem ggL_law_X6_undo_4 : GoodIn wsL_law wsX6_undo_r3 := goodIn_r _ [125, 126, 127, 128, 129, 57, 130, 131, 132, 133, 134, 135, 136, 137, 58, 138, 139, 140, 141, 142, 143, 144, 145, 59] (by decide +kernel) (by decide +kernel)
set_option maxRecDepth 20000 in
theorem ggL_law_X6_undo_5 : GoodIn wsL_law wsX6_undo_r4 := goodIn_r _ [146, 147, 148, 149, 150, 151, 152, 43, 153, 64, 154, 155, 156, 28, 157, 86, 74, 75, 158, 159, 71, 160, 161, 162] (by decide +kernel) (by decide +kernel)
set_option maxRecDepth 20000 in
theorem ggL_law_X6_undo_6 : GoodIn wsL_law wsX6_undo_r5 := goodIn_r _ [163, 164, 165] (by decide +kernel) (by decide +kernel)
set_option maxRecDepth 20000 in
theorem ggL_law_X6_undo_7 : GoodIn wsL_law wsX60 := goodIn_r _ [770, 771, 772, 773, 774, 775, 776, 777] (by decide +kernel) (by decide +kernel)
set_option maxRecDepth 20000 in
theorem ggL_law_X6_undo_8 : GoodIn wsL_law wsX40 := goodIn_r _ [778, 779, 780, 781, 782, 783] (by decide +kernel) (by decide +kernel)
set_option maxRecDepth 20000 in
theorem ggL_law_X6_undo_9 : GoodIn wsL_law wsX30 := goodIn_r _ [797, 798, 799, 800, 801, 802, 803, 804, 805, 806, 807] (by decide +kernel) (by decide +kernel)
set_option maxRecDepth 20000 in
theorem ggL_law_X6_undo_10 : GoodIn wsL_law wsX00 := goodIn_r _ [808, 809, 810, 811] (by decide +kernel) (by decide +kernel)
set_option maxRecDepth 20000 in
theorem ggL_law_X6_undo_11 : GoodIn wsL_law wsX20 := goodIn_r _ [812] (by decide +kernel) (by decide +kernel)
set_option maxRecDepth 20000 in
theorem ggL_law_X6_undo_12 : GoodIn wsL_law wsX50 := goodIn_r _ [793, 794, 795, 796] (by decide +kernel) (by decide +kernel)
set_option maxRecDepth 20000 in
theorem ggL_law_X6_undo : GoodIn wsL_law wsX6_undo := goodIn_app (a := [.code yX6_undo cX6_undo 1 (some .int)]) ggL_law_X6_undo_1 (goodIn_app (goodIn_app (goodIn_app (goodIn_app (goodIn_app (goodIn_app (goodIn_app ggL_law_X6_undo_2 (goodIn_app ggL_law_X6_undo_3 (goodIn_app ggL_law_X6_undo_4 (goodIn_app ggL_law_X6_undo_5 ggL_law_X6_undo_6)))) ggL_law_X6_undo_7) ggL_law_X6_undo_8) ggL_law_X6_undo_9) ggL_law_X6_undo_10) ggL_law_X6_undo_11) ggL_law_X6_undo_12)
set_option maxRecDepth 20000 in
theorem gL_law_X6_undo : GoodIn wsL_law (wsV RL 116 RX6 yX6_undo wsX6_undo) := goodIn_app (goodIn_of _ (by decide +kernel)) ggL_law_X6_undo
set_option maxRecDepth 20000 in
theorem ggL_law_X6_parcels : GoodIn wsL_law wsX6_parcels := goodIn_r _ [169, 18, 170, 171, 770, 771, 772, 773, 774, 775, 776, 777, 778, 779, 780, 781, 782, 783, 793, 794, 795, 796] (by decide +kernel) (by decide +kernel)
set_option maxRecDepth 20000 in
theorem gL_law_X6_parcels : GoodIn wsL_law (wsV RL 119 RX6 yX6_parcels wsX6_parcels) := goodIn_app (goodIn_of _ (by decide +kernel)) ggL_law_X6_parcels
set_option maxRecDepth 20000 in
theorem ggL_law_X6_notes : GoodIn wsL_law wsX6_notes := goodIn_r _ [175, 18, 176, 171, 770, 771, 772, 773, 774, 775, 776, 777, 778, 779, 780, 781, 782, 783, 793, 794, 795, 796] (by decide +kernel) (by decide +kernel)
set_option maxRecDepth 20000 in
theorem gL_law_X6_notes : GoodIn wsL_law (wsV RL 122 RX6 yX6_notes wsX6_notes) := goodIn_app (goodIn_of _ (by decide +kernel)) ggL_law_X6_notes
set_option maxRecDepth 20000 in
theorem ggL_law_X6_rules : GoodIn wsL_law wsX6_rules := goodIn_r _ [180, 18, 181, 182, 183, 184, 43, 185, 64, 186, 770, 771, 772, 773, 774, 775, 776, 777, 778, 779, 780, 781, 782, 783, 812, 793, 794, 795, 796] (by decide +kernel) (by decide +kernel)
set_option maxRecDepth 20000 in
theorem gL_law_X6_rules : GoodIn wsL_law (wsV RL 125 RX6 yX6_rules wsX6_rules) := goodIn_app (goodIn_of _ (by decide +kernel)) ggL_law_X6_rules
set_option maxRecDepth 20000 in
theorem ggL_law_X6_scale_1 : GoodIn wsL_law [.code yX6_scale cX6_scale 2 (some .int)] := goodIn_r _ [190] (by decide +kernel) (by decide +kernel)
set_option maxRecDepth 20000 in
theorem ggL_law_X6_scale_2 : GoodIn wsL_law wsX6_scale_r1 := goodIn_r _ [18, 191, 192, 193, 194, 2, 195, 196, 197, 198, 35, 199, 103, 104, 105, 106, 107, 102, 200, 201, 202, 203, 112, 113] (by decide +kernel) (by decide +kernel)
set_option maxRecDepth 20000 in
theorem ggL_law_X6_scale_3 : GoodIn wsL_law wsX6_scale_r2 := goodIn_r _ [114, 115, 52, 204, 205, 206, 207, 208, 209, 210, 211, 212, 213, 214, 215, 216, 217, 218, 219, 109, 110, 111, 220, 70] (by decide +kernel) (by decide +kernel)
set_option maxRecDepth 20000 in
theorem ggL_law_X6_scale_4 : GoodIn wsL_law wsX6_scale_r3 := goodIn_r _ [71, 72, 221, 159, 160, 108, 222, 223, 224, 225, 226, 227, 228, 229] (by decide +kernel) (by decide +kernel)
set_option maxRecDepth 20000 in
theorem ggL_law_X6_scale_5 : GoodIn wsL_law wsX60 := goodIn_r _ [770, 771, 772, 773, 774, 775, 776, 777] (by decide +kernel) (by decide +kernel)
set_option maxRecDepth 20000 in
theorem ggL_law_X6_scale_6 : GoodIn wsL_law wsX40 := goodIn_r _ [778, 779, 780, 781, 782, 783] (by decide +kernel) (by decide +kernel)
set_option maxRecDepth 20000 in
theorem ggL_law_X6_scale_7 : GoodIn wsL_law wsX30 := goodIn_r _ [797, 798, 799, 800, 801, 802, 803, 804, 805, 806, 807] (by decide +kernel) (by decide +kernel)
set_option maxRecDepth 20000 in
theorem ggL_law_X6_scale : GoodIn wsL_law wsX6_scale := goodIn_app (a := [.code yX6_scale cX6_scale 2 (some .int)]) ggL_law_X6_scale_1 (goodIn_app (goodIn_app (goodIn_app (goodIn_app ggL_law_X6_scale_2 (goodIn_app ggL_law_X6_scale_3 ggL_law_X6_scale_4)) ggL_law_X6_scale_5) ggL_law_X6_scale_6) ggL_law_X6_scale_7)
set_option maxRecDepth 20000 in
theorem gL_law_X6_scale : GoodIn wsL_law (wsV RL 33 RX6 yX6_scale wsX6_scale) := goodIn_app (goodIn_of _ (by decide +kernel)) ggL_law_X6_scale
set_option maxRecDepth 20000 in
theorem ggL_law_X6_zero_1 : GoodIn wsL_law [.code yX6_zero cX6_zero 3 (some .int)] := goodIn_r _ [233] (by decide +kernel) (by decide +kernel)
set_option maxRecDepth 20000 in
theorem ggL_law_X6_zero_2 : GoodIn wsL_law wsX6_zero_r1 := goodIn_r _ [18, 191, 234, 235, 236, 237, 217, 218, 35, 219, 109, 110, 111, 220, 70, 71, 72, 221, 159, 160, 108, 112, 113, 114] (by decide +kernel) (by decide +kernel)
set_option maxRecDepth 20000 in
theorem ggL_law_X6_zero_3 : GoodIn wsL_law wsX6_zero_r2 := goodIn_r _ [115, 52, 238, 239, 240, 241, 242, 243, 244, 226, 227, 228, 229, 104, 200, 201, 202, 203, 102, 106, 204, 205, 206, 207] (by decide +kernel) (by decide +kernel)
set_option maxRecDepth 20000 in
theorem ggL_law_X6_zero_4 : GoodIn wsL_law wsX6_zero_r3 := goodIn_r _ [245, 246, 247, 2, 248, 93, 19, 91, 94, 95, 96, 17, 97, 36, 40, 44, 46, 47, 48, 98, 99, 100, 101, 103] (by decide +kernel) (by decide +kernel)
set_option maxRecDepth 20000 in
theorem ggL_law_X6_zero_5 : GoodIn wsL_law wsX6_zero_r4 := goodIn_r _ [105, 107, 116, 117, 118, 39, 119, 56, 120, 121, 122, 123, 124, 125, 126, 127, 128, 129, 57, 130, 131, 132, 133, 134] (by decide +kernel) (by decide +kernel)
set_option maxRecDepth 20000 in
theorem ggL_law_X6_zero_6 : GoodIn wsL_law wsX6_zero_r5 := goodIn_r _ [135, 136, 137, 58, 138, 139, 140, 141, 142, 143, 144, 145, 59, 146, 147, 148, 149, 150, 151, 152, 43, 153, 64, 154] (by decide +kernel) (by decide +kernel)
set_option maxRecDepth 20000 in
theorem ggL_law_X6_zero_7 : GoodIn wsL_law wsX6_zero_r6 := goodIn_r _ [155, 156, 28, 157, 86, 74, 75, 158, 161, 162, 163, 164, 165, 249] (by decide +kernel) (by decide +kernel)
set_option maxRecDepth 20000 in
theorem ggL_law_X6_zero_8 : GoodIn wsL_law wsX60 := goodIn_r _ [770, 771, 772, 773, 774, 775, 776, 777] (by decide +kernel) (by decide +kernel)
set_option maxRecDepth 20000 in
theorem ggL_law_X6_zero_9 : GoodIn wsL_law wsX40 := goodIn_r _ [778, 779, 780, 781, 782, 783] (by decide +kernel) (by decide +kernel)
set_option maxRecDepth 20000 in
theorem ggL_law_X6_zero_10 : GoodIn wsL_law wsX30 := goodIn_r _ [797, 798, 799, 800, 801, 802, 803, 804, 805, 806, 807] (by decide +kernel) (by decide +kernel)
set_option maxRecDepth 20000 in
theorem ggL_law_X6_zero_11 : GoodIn wsL_law wsX00 := goodIn_r _ [808, 809, 810, 811] (by decide +kernel) (by decide +kernel)
set_option maxRecDepth 20000 in
theorem ggL_law_X6_zero_12 : GoodIn wsL_law wsX20 := goodIn_r _ [812] (by decide +kernel) (by decide +kernel)
set_option maxRecDepth 20000 in
theorem ggL_law_X6_zero_13 : GoodIn wsL_law wsX50 := goodIn_r _ [793, 794, 795, 796] (by decide +kernel) (by decide +kernel)
set_option maxRecDepth 20000 in
theorem ggL_law_X6_zero : GoodIn wsL_law wsX6_zero := goodIn_app (a := [.code yX6_zero cX6_zero 3 (some .int)]) ggL_law_X6_zero_1 (goodIn_app (goodIn_app (goodIn_app (goodIn_app (goodIn_app (goodIn_app (goodIn_app ggL_law_X6_zero_2 (goodIn_app ggL_law_X6_zero_3 (goodIn_app ggL_law_X6_zero_4 (goodIn_app ggL_law_X6_zero_5 (goodIn_app ggL_law_X6_zero_6 ggL_law_X6_zero_7))))) ggL_law_X6_zero_8) ggL_law_X6_zero_9) ggL_law_X6_zero_10) ggL_law_X6_zero_11) ggL_law_X6_zero_12) ggL_law_X6_zero_13)
set_option maxRecDepth 20000 in
theorem gL_law_X6_zero : GoodIn wsL_law (wsV RL 128 RX6 yX6_zero wsX6_zero) := goodIn_app (goodIn_of _ (by decide +kernel)) ggL_law_X6_zero
set_option maxRecDepth 20000 in
theorem ggL_law_X6_tare_1 : GoodIn wsL_law [.code yX6_tare cX6_tare 2 (some .int)] := goodIn_r _ [253] (by decide +kernel) (by decide +kernel)
set_option maxRecDepth 20000 in
theorem ggL_law_X6_tare_2 : GoodIn wsL_law wsX6_tare_r1 := goodIn_r _ [18, 191, 234, 236, 237, 217, 218, 35, 219, 109, 110, 111, 220, 70, 71, 72, 221, 159, 160, 108, 112, 113, 114, 115] (by decide +kernel) (by decide +kernel)
set_option maxRecDepth 20000 in
theorem ggL_law_X6_tare_3 : GoodIn wsL_law wsX6_tare_r2 := goodIn_r _ [52, 254, 223, 224, 225, 226, 227, 228, 229, 104, 200, 201, 202, 203, 102, 106, 204, 205, 206, 207, 255, 209, 210, 211] (by decide +kernel) (by decide +kernel)
set_option maxRecDepth 20000 in
theorem ggL_law_X6_tare_4 : GoodIn wsL_law wsX6_tare_r3 := goodIn_r _ [245, 246, 247, 2, 248, 93, 19, 91, 94, 95, 96, 17, 97, 36, 40, 44, 46, 47, 48, 98, 99, 100, 101, 103] (by decide +kernel) (by decide +kernel)
set_option maxRecDepth 20000 in
theorem ggL_law_X6_tare_5 : GoodIn wsL_law wsX6_tare_r4 := goodIn_r _ [105, 107, 116, 117, 118, 39, 119, 56, 120, 121, 122, 123, 124, 125, 126, 127, 128, 129, 57, 130, 131, 132, 133, 134] (by decide +kernel) (by decide +kernel)
set_option maxRecDepth 20000 in
theorem ggL_law_X6_tare_6 : GoodIn wsL_law wsX6_tare_r5 := goodIn_r _ [135, 136, 137, 58, 138, 139, 140, 141, 142, 143, 144, 145, 59, 146, 147, 148, 149, 150, 151, 152, 43, 153, 64, 154] (by decide +kernel) (by decide +kernel)
set_option maxRecDepth 20000 in
theorem ggL_law_X6_tare_7 : GoodIn wsL_law wsX6_tare_r6 := goodIn_r _ [155, 156, 28, 157, 86, 74, 75, 158, 161, 162, 163, 164, 165] (by decide +kernel) (by decide +kernel)
set_option maxRecDepth 20000 in
theorem ggL_law_X6_tare_8 : GoodIn wsL_law wsX60 := goodIn_r _ [770, 771, 772, 773, 774, 775, 776, 777] (by decide +kernel) (by decide +kernel)
set_option maxRecDepth 20000 in
theorem ggL_law_X6_tare_9 : GoodIn wsL_law wsX40 := goodIn_r _ [778, 779, 780, 781, 782, 783] (by decide +kernel) (by decide +kernel)
set_option maxRecDepth 20000 in
theorem ggL_law_X6_tare_10 : GoodIn wsL_law wsX30 := goodIn_r _ [797, 798, 799, 800, 801, 802, 803, 804, 805, 806, 807] (by decide +kernel) (by decide +kernel)
set_option maxRecDepth 20000 in
theorem ggL_law_X6_tare_11 : GoodIn wsL_law wsX00 := goodIn_r _ [808, 809, 810, 811] (by decide +kernel) (by decide +kernel)
set_option maxRecDepth 20000 in
theorem ggL_law_X6_tare_12 : GoodIn wsL_law wsX20 := goodIn_r _ [812] (by decide +kernel) (by decide +kernel)
set_option maxRecDepth 20000 in
theorem ggL_law_X6_tare_13 : GoodIn wsL_law wsX50 := goodIn_r _ [793, 794, 795, 796] (by decide +kernel) (by decide +kernel)
set_option maxRecDepth 20000 in
theorem ggL_law_X6_tare : GoodIn wsL_law wsX6_tare := goodIn_app (a := [.code yX6_tare cX6_tare 2 (some .int)]) ggL_law_X6_tare_1 (goodIn_app (goodIn_app (goodIn_app (goodIn_app (goodIn_app (goodIn_app (goodIn_app ggL_law_X6_tare_2 (goodIn_app ggL_law_X6_tare_3 (goodIn_app ggL_law_X6_tare_4 (goodIn_app ggL_law_X6_tare_5 (goodIn_app ggL_law_X6_tare_6 ggL_law_X6_tare_7))))) ggL_law_X6_tare_8) ggL_law_X6_tare_9) ggL_law_X6_tare_10) ggL_law_X6_tare_11) ggL_law_X6_tare_12) ggL_law_X6_tare_13)
set_option maxRecDepth 20000 in
theorem gL_law_X6_tare : GoodIn wsL_law (wsV RL 131 RX6 yX6_tare wsX6_tare) := goodIn_app (goodIn_of _ (by decide +kernel)) ggL_law_X6_tare
set_option maxRecDepth 20000 in
theorem ggL_law_X6_unrule_1 : GoodIn wsL_law [.code yX6_unrule cX6_unrule 1 (some .int)] := goodIn_r _ [259] (by decide +kernel) (by decide +kernel)
set_option maxRecDepth 20000 in
theorem ggL_law_X6_unrule_2 : GoodIn wsL_law wsX6_unrule_r1 := goodIn_r _ [18, 181, 234, 182, 183, 184, 43, 185, 64, 186, 245, 246, 247, 2, 248, 93, 19, 91, 94, 95, 96, 17, 97, 36] (by decide +kernel) (by decide +kernel)
set_option maxRecDepth 20000 in
theorem ggL_law_X6_unrule_3 : GoodIn wsL_law wsX6_unrule_r2 := goodIn_r _ [40, 44, 46, 47, 48, 98, 99, 100, 35, 101, 52, 102, 103, 104, 105, 106, 107, 108, 109, 110, 111, 112, 113, 114] (by decide +kernel) (by decide +kernel)
set_option maxRecDepth 20000 in
theorem ggL_law_X6_unrule_4 : GoodIn wsL_law wsX6_unrule_r3 := goodIn_r _ [115, 116, 117, 118, 39, 119, 56, 120, 121, 122, 123, 124, 125, 126, 127, 128, 129, 57, 130, 131, 132, 133, 134, 135] (by decide +kernel) (by decide +kernel)
set_option maxRecDepth 20000 in
theorem ggL_law_X6_unrule_5 : GoodIn wsL_law wsX6_unrule_r4 := goodIn_r _ [136, 137, 58, 138, 139, 140, 141, 142, 143, 144, 145, 59, 146, 147, 148, 149, 150, 151, 152, 153, 154, 155, 156, 28] (by decide +kernel) (by decide +kernel)
set_option maxRecDepth 20000 in
theorem ggL_law_X6_unrule_6 : GoodIn wsL_law wsX6_unrule_r5 := goodIn_r _ [157, 86, 74, 75, 158, 159, 71, 160, 161, 162, 163, 164, 165, 260, 261, 262, 263, 264, 70, 72] (by decide +kernel) (by decide +kernel)
set_option maxRecDepth 20000 in
theorem ggL_law_X6_unrule_7 : GoodIn wsL_law wsX60 := goodIn_r _ [770, 771, 772, 773, 774, 775, 776, 777] (by decide +kernel) (by decide +kernel)
set_option maxRecDepth 20000 in
theorem ggL_law_X6_unrule_8 : GoodIn wsL_law wsX40 := goodIn_r _ [778, 779, 780, 781, 782, 783] (by decide +kernel) (by decide +kernel)
set_option maxRecDepth 20000 in
theorem ggL_law_X6_unrule_9 : GoodIn wsL_law wsX20 := goodIn_r _ [812] (by decide +kernel) (by decide +kernel)
set_option maxRecDepth 20000 in
theorem ggL_law_X6_unrule_10 : GoodIn wsL_law wsX50 := goodIn_r _ [793, 794, 795, 796] (by decide +kernel) (by decide +kernel)
set_option maxRecDepth 20000 in
theorem ggL_law_X6_unrule_11 : GoodIn wsL_law wsX30 := goodIn_r _ [797, 798, 799, 800, 801, 802, 803, 804, 805, 806, 807] (by decide +kernel) (by decide +kernel)
set_option maxRecDepth 20000 in
theorem ggL_law_X6_unrule_12 : GoodIn wsL_law wsX00 := goodIn_r _ [808, 809, 810, 811] (by decide +kernel) (by decide +kernel)
set_option maxRecDepth 20000 in
theorem ggL_law_X6_unrule : GoodIn wsL_law wsX6_unrule := goodIn_app (a := [.code yX6_unrule cX6_unrule 1 (some .int)]) ggL_law_X6_unrule_1 (goodIn_app (goodIn_app (goodIn_app (goodIn_app (goodIn_app (goodIn_app (goodIn_app ggL_law_X6_unrule_2 (goodIn_app ggL_law_X6_unrule_3 (goodIn_app ggL_law_X6_unrule_4 (goodIn_app ggL_law_X6_unrule_5 ggL_law_X6_unrule_6)))) ggL_law_X6_unrule_7) ggL_law_X6_unrule_8) ggL_law_X6_unrule_9) ggL_law_X6_unrule_10) ggL_law_X6_unrule_11) ggL_law_X6_unrule_12)
set_option maxRecDepth 20000 in
theorem gL_law_X6_unrule : GoodIn wsL_law (wsV RL 134 RX6 yX6_unrule wsX6_unrule) := goodIn_app (goodIn_of _ (by decide +kernel)) ggL_law_X6_unrule
set_option maxRecDepth 20000 in
theorem ggL_law_X6_take_1 : GoodIn wsL_law [.code yX6_take cX6_take 7 (some .int)] := goodIn_r _ [268] (by decide +kernel) (by decide +kernel)
set_option maxRecDepth 20000 in
theorem ggL_law_X6_take_2 : GoodIn wsL_law wsX6_take_r1 := goodIn_r _ [192, 18, 191, 234, 170, 171, 269, 270, 271, 2, 272, 273, 274, 275, 193, 194, 195, 276, 277, 278, 237, 217, 218, 35] (by decide +kernel) (by decide +kernel)
set_option maxRecDepth 20000 in
theorem ggL_law_X6_take_3 : GoodIn wsL_law wsX6_take_r2 := goodIn_r _ [219, 109, 110, 111, 220, 70, 71, 72, 221, 159, 160, 108, 112, 113, 114, 115, 52, 254, 223, 224, 225, 226, 227, 228] (by decide +kernel) (by decide +kernel)
set_option maxRecDepth 20000 in
theorem ggL_law_X6_take_4 : GoodIn wsL_law wsX6_take_r3 := goodIn_r _ [229, 104, 200, 201, 202, 203, 102, 106, 204, 205, 206, 207, 279, 213, 214, 215, 105, 208, 209, 210, 211, 280, 281, 282] (by decide +kernel) (by decide +kernel)
set_option maxRecDepth 20000 in
theorem ggL_law_X6_take_5 : GoodIn wsL_law wsX6_take_r4 := goodIn_r _ [283, 284, 285, 123, 124, 39, 125, 56, 120, 121, 245, 246, 247, 248, 93, 19, 91, 94, 95, 96, 17, 97, 36, 40] (by decide +kernel) (by decide +kernel)
set_option maxRecDepth 20000 in
theorem ggL_law_X6_take_6 : GoodIn wsL_law wsX6_take_r5 := goodIn_r _ [44, 46, 47, 48, 98, 99, 100, 101, 103, 107, 116, 117, 118, 119, 122, 126, 127, 128, 129, 57, 130, 131, 132, 133] (by decide +kernel) (by decide +kernel)
set_option maxRecDepth 20000 in
theorem ggL_law_X6_take_7 : GoodIn wsL_law wsX6_take_r6 := goodIn_r _ [134, 135, 136, 137, 58, 138, 139, 140, 141, 142, 143, 144, 145, 59, 146, 147, 148, 149, 150, 151, 152, 43, 153, 64] (by decide +kernel) (by decide +kernel)
set_option maxRecDepth 20000 in
theorem ggL_law_X6_take_8 : GoodIn wsL_law wsX6_take_r7 := goodIn_r _ [154, 155, 156, 28, 157, 86, 74, 75, 158, 161, 162, 163, 164, 165, 82, 83, 84, 85, 73, 286, 287, 288, 289, 290] (by decide +kernel) (by decide +kernel)
set_option maxRecDepth 20000 in
theorem ggL_law_X6_take_9 : GoodIn wsL_law wsX6_take_r8 := goodIn_r _ [291, 292, 293, 294, 295, 296, 297, 298, 299, 300, 301, 302, 303, 304, 305, 306, 307, 308, 309, 310, 311, 312, 313, 314] (by decide +kernel) (by decide +kernel)
set_option maxRecDepth 20000 in
theorem ggL_law_X6_take_10 : GoodIn wsL_law wsX6_take_r9 := goodIn_r _ [315, 316, 317, 318, 319, 320, 321, 322, 323, 324, 325, 326, 327, 328, 329, 330, 331, 332, 333, 334, 186, 335, 336, 337] (by decide +kernel) (by decide +kernel)
set_option maxRecDepth 20000 in
theorem ggL_law_X6_take_11 : GoodIn wsL_law wsX6_take_r10 := goodIn_r _ [338, 339, 340, 341, 342, 343, 344, 345, 346, 347, 348, 349, 350, 351, 352, 353, 354, 355, 356, 357, 358, 359, 360, 361] (by decide +kernel) (by decide +kernel)
set_option maxRecDepth 20000 in
theorem ggL_law_X6_take_12 : GoodIn wsL_law wsX6_take_r11 := goodIn_r _ [362, 363, 364, 365] (by decide +kernel) (by decide +kernel)
set_option maxRecDepth 20000 in
theorem ggL_law_X6_take_13 : GoodIn wsL_law wsX60 := goodIn_r _ [770, 771, 772, 773, 774, 775, 776, 777] (by decide +kernel) (by decide +kernel)
set_option maxRecDepth 20000 in
theorem ggL_law_X6_take_14 : GoodIn wsL_law wsX40 := goodIn_r _ [778, 779, 780, 781, 782, 783] (by decide +kernel) (by decide +kernel)
set_option maxRecDepth 20000 in
theorem ggL_law_X6_take_15 : GoodIn wsL_law wsX50 := goodIn_r _ [793, 794, 795, 796] (by decide +kernel) (by decide +kernel)
set_option maxRecDepth 20000 in
theorem ggL_law_X6_take_16 : GoodIn wsL_law wsX30 := goodIn_r _ [797, 798, 799, 800, 801, 802, 803, 804, 805, 806, 807] (by decide +kernel) (by decide +kernel)
set_option maxRecDepth 20000 in
theorem ggL_law_X6_take_17 : GoodIn wsL_law wsX00 := goodIn_r _ [808, 809, 810, 811] (by decide +kernel) (by decide +kernel)
set_option maxRecDepth 20000 in
theorem ggL_law_X6_take_18 : GoodIn wsL_law wsX20 := goodIn_r _ [812] (by decide +kernel) (by decide +kernel)
set_option maxRecDepth 20000 in
theorem ggL_law_X6_take : GoodIn wsL_law wsX6_take := goodIn_app (a := [.code yX6_take cX6_take 7 (some .int)]) ggL_law_X6_take_1 (goodIn_app (goodIn_app (goodIn_app (goodIn_app (goodIn_app (goodIn_app (goodIn_app ggL_law_X6_take_2 (goodIn_app ggL_law_X6_take_3 (goodIn_app ggL_law_X6_take_4 (goodIn_app ggL_law_X6_take_5 (goodIn_app ggL_law_X6_take_6 (goodIn_app ggL_law_X6_take_7 (goodIn_app ggL_law_X6_take_8 (goodIn_app ggL_law_X6_take_9 (goodIn_app ggL_law_X6_take_10 (goodIn_app ggL_law_X6_take_11 ggL_law_X6_take_12)))))))))) ggL_law_X6_take_13) ggL_law_X6_take_14) ggL_law_X6_take_15) ggL_law_X6_take_16) ggL_law_X6_take_17) ggL_law_X6_take_18)
set_option maxRecDepth 20000 in
theorem gL_law_X6_take : GoodIn wsL_law (wsV RL 52 RX6 yX6_take wsX6_take) := goodIn_app (goodIn_of _ (by decide +kernel)) ggL_law_X6_take
set_option maxRecDepth 20000 in
theorem ggL_law_X6_quote_1 : GoodIn wsL_law [.code yX6_quote cX6_quote 6 (some .int)] := goodIn_r _ [369] (by decide +kernel) (by decide +kernel)
set_option maxRecDepth 20000 in
theorem ggL_law_X6_quote_2 : GoodIn wsL_law wsX6_quote_r1 := goodIn_r _ [370, 192, 234, 29, 193, 194, 2, 195, 270, 271, 272, 273, 274, 275, 276, 277, 278, 280, 281, 282, 283, 18, 284, 285] (by decide +kernel) (by decide +kernel)
set_option maxRecDepth 20000 in
theorem ggL_law_X6_quote_3 : GoodIn wsL_law wsX6_quote_r2 := goodIn_r _ [123, 124, 39, 125, 56, 120, 121, 286, 287, 288, 289, 290, 291, 28, 292, 73, 74, 75, 371, 372, 373, 374, 293, 294] (by decide +kernel) (by decide +kernel)
set_option maxRecDepth 20000 in
theorem ggL_law_X6_quote_4 : GoodIn wsL_law wsX6_quote_r3 := goodIn_r _ [295, 17, 296, 297, 36, 298, 70, 71, 72, 40, 44, 299, 300, 301, 302, 303, 304, 305, 306, 113, 114, 35, 115, 52] (by decide +kernel) (by decide +kernel)
set_option maxRecDepth 20000 in
theorem ggL_law_X6_quote_5 : GoodIn wsL_law wsX6_quote_r4 := goodIn_r _ [307, 308, 309, 310, 311, 312, 313, 314, 315, 316, 317, 318, 319, 320, 321, 322, 323, 324, 325, 326, 122, 126, 127, 128] (by decide +kernel) (by decide +kernel)
set_option maxRecDepth 20000 in
theorem ggL_law_X6_quote_6 : GoodIn wsL_law wsX6_quote_r5 := goodIn_r _ [129, 57, 130, 131, 132, 133, 134, 135, 136, 137, 58, 327, 328, 329, 330, 142, 143, 144, 145, 59, 331, 332, 333, 43] (by decide +kernel) (by decide +kernel)
set_option maxRecDepth 20000 in
theorem ggL_law_X6_quote_7 : GoodIn wsL_law wsX6_quote_r6 := goodIn_r _ [334, 64, 186, 335, 336, 337, 338, 339, 340, 341, 342, 343, 344, 345, 346, 347, 348, 349, 350, 351, 352, 353, 354, 355] (by decide +kernel) (by decide +kernel)
set_option maxRecDepth 20000 in
theorem ggL_law_X6_quote_8 : GoodIn wsL_law wsX6_quote_r7 := goodIn_r _ [356, 357, 358, 359, 360, 361, 362, 363, 364, 365] (by decide +kernel) (by decide +kernel)
set_option maxRecDepth 20000 in
theorem ggL_law_X6_quote_9 : GoodIn wsL_law wsX60 := goodIn_r _ [770, 771, 772, 773, 774, 775, 776, 777] (by decide +kernel) (by decide +kernel)
set_option maxRecDepth 20000 in
theorem ggL_law_X6_quote_10 : GoodIn wsL_law wsX40 := goodIn_r _ [778, 779, 780, 781, 782, 783] (by decide +kernel) (by decide +kernel)
set_option maxRecDepth 20000 in
theorem ggL_law_X6_quote_11 : GoodIn wsL_law wsX00 := goodIn_r _ [808, 809, 810, 811] (by decide +kernel) (by decide +kernel)
set_option maxRecDepth 20000 in
theorem ggL_law_X6_quote_12 : GoodIn wsL_law wsX50 := goodIn_r _ [793, 794, 795, 796] (by decide +kernel) (by decide +kernel)
set_option maxRecDepth 20000 in
theorem ggL_law_X6_quote_13 : GoodIn wsL_law wsX30 := goodIn_r _ [797, 798, 799, 800, 801, 802, 803, 804, 805, 806, 807] (by decide +kernel) (by decide +kernel)
set_option maxRecDepth 20000 in
theorem ggL_law_X6_quote_14 : GoodIn wsL_law wsX20 := goodIn_r _ [812] (by decide +kernel) (by decide +kernel)
set_option maxRecDepth 20000 in
theorem ggL_law_X6_quote : GoodIn wsL_law wsX6_quote := goodIn_app (a := [.code yX6_quote cX6_quote 6 (some .int)]) ggL_law_X6_quote_1 (goodIn_app (goodIn_app (goodIn_app (goodIn_app (goodIn_app (goodIn_app (goodIn_app ggL_law_X6_quote_2 (goodIn_app ggL_law_X6_quote_3 (goodIn_app ggL_law_X6_quote_4 (goodIn_app ggL_law_X6_quote_5 (goodIn_app ggL_law_X6_quote_6 (goodIn_app ggL_law_X6_quote_7 ggL_law_X6_quote_8)))))) ggL_law_X6_quote_9) ggL_law_X6_quote_10) ggL_law_X6_quote_11) ggL_law_X6_quote_12) ggL_law_X6_quote_13) ggL_law_X6_quote_14)
set_option maxRecDepth 20000 in
theorem gL_law_X6_quote : GoodIn wsL_law (wsV RL 56 RX6 yX6_quote wsX6_quote) := goodIn_app (goodIn_of _ (by decide +kernel)) ggL_law_X6_quote
set_option maxRecDepth 20000 in
theorem ggL_law_L_fails_1 : GoodIn wsL_law [.code yL_fails cL_fails 6 (some .boolean)] := goodIn_r _ [378] (by decide +kernel) (by decide +kernel)
set_option maxRecDepth 20000 in
theorem ggL_law_L_fails_2 : GoodIn wsL_law wsL_fails_r1 := goodIn_r _ [6, 379, 380, 381, 382, 383, 384, 2, 385, 386, 387, 388, 389, 390, 391, 392, 18, 191, 192, 393, 120, 121, 394, 113] (by decide +kernel) (by decide +kernel)
set_option maxRecDepth 20000 in
theorem ggL_law_L_fails_3 : GoodIn wsL_law wsL_fails_r2 := goodIn_r _ [114, 35, 115, 52, 395, 188, 189, 190, 193, 194, 195, 196, 197, 198, 199, 103, 104, 105, 106, 107, 102, 200, 201, 202] (by decide +kernel) (by decide +kernel)
set_option maxRecDepth 20000 in
theorem ggL_law_L_fails_4 : GoodIn wsL_law wsL_fails_r3 := goodIn_r _ [203, 112, 204, 205, 206, 207, 208, 209, 210, 211, 212, 213, 214, 215, 216, 217, 218, 219, 109, 110, 111, 220, 70, 71] (by decide +kernel) (by decide +kernel)
set_option maxRecDepth 20000 in
theorem ggL_law_L_fails_5 : GoodIn wsL_law wsL_fails_r4 := goodIn_r _ [72, 221, 159, 160, 108, 222, 223, 224, 225, 226, 227, 228, 229, 396, 397, 398, 399, 284, 285, 123, 124, 39, 125, 56] (by decide +kernel) (by decide +kernel)
set_option maxRecDepth 20000 in
theorem ggL_law_L_fails_6 : GoodIn wsL_law wsL_fails_r5 := goodIn_r _ [400, 401, 402, 403, 404, 131, 132, 133, 405, 127, 128, 129, 57, 130, 406, 135, 136, 137, 58, 407, 143, 144, 145, 59] (by decide +kernel) (by decide +kernel)
set_option maxRecDepth 20000 in
theorem ggL_law_L_fails_7 : GoodIn wsL_law wsL_fails_r6 := goodIn_r _ [408, 178, 179, 180, 181, 182, 183, 184, 43, 185, 64, 186, 409, 410, 411, 412, 170, 413, 167, 168, 169, 171, 414, 415] (by decide +kernel) (by decide +kernel)
set_option maxRecDepth 20000 in
theorem ggL_law_L_fails_8 : GoodIn wsL_law wsL_fails_r7 := goodIn_r _ [416, 417, 418, 419, 420, 28, 421, 86, 422, 423, 424, 425, 176, 92, 305, 300, 301, 302, 73, 74, 75, 426, 427, 428] (by decide +kernel) (by decide +kernel)
set_option maxRecDepth 20000 in
theorem ggL_law_L_fails_9 : GoodIn wsL_law wsL_fails_r8 := goodIn_r _ [429, 430, 431, 432, 433, 434, 173, 174, 175, 435, 436, 437, 438, 439, 440, 441, 442, 443, 444, 445, 446, 447, 448, 449] (by decide +kernel) (by decide +kernel)
set_option maxRecDepth 20000 in
theorem ggL_law_L_fails_10 : GoodIn wsL_law wsL_fails_r9 := goodIn_r _ [450, 451, 452, 453, 454, 455, 456, 457, 245, 246, 247, 248, 93, 19, 91, 94, 95, 96, 17, 97, 36, 40, 44, 46] (by decide +kernel) (by decide +kernel)
set_option maxRecDepth 20000 in
theorem ggL_law_L_fails_11 : GoodIn wsL_law wsL_fails_r10 := goodIn_r _ [47, 48, 98, 99, 100, 101, 116, 117, 118, 119, 122, 126, 134, 138, 139, 140, 141, 142, 146, 147, 148, 149, 150, 151] (by decide +kernel) (by decide +kernel)
set_option maxRecDepth 20000 in
theorem ggL_law_L_fails_12 : GoodIn wsL_law wsL_fails_r11 := goodIn_r _ [152, 153, 154, 155, 156, 157, 158, 161, 162, 163, 164, 165, 458, 459, 460, 461, 462, 463, 464, 465, 466, 370, 467, 468] (by decide +kernel) (by decide +kernel)
set_option maxRecDepth 20000 in
theorem ggL_law_L_fails_13 : GoodIn wsL_law wsL_fails_r12 := goodIn_r _ [469, 470, 471, 472, 473, 474, 475, 476, 234, 477, 478, 479, 480, 481, 482, 483, 484, 485, 486, 487, 488, 242, 243, 244] (by decide +kernel) (by decide +kernel)
set_option maxRecDepth 20000 in
theorem ggL_law_L_fails_14 : GoodIn wsL_law wsL_fails_r13 := goodIn_r _ [249, 187, 489, 490, 491, 492, 269, 276, 277, 278, 493, 324, 325, 326, 494, 495, 496, 497, 498, 499, 500, 501, 502, 503] (by decide +kernel) (by decide +kernel)
set_option maxRecDepth 20000 in
theorem ggL_law_L_fails_15 : GoodIn wsL_law wsL_fails_r14 := goodIn_r _ [504, 505, 506, 507, 508, 509, 510, 511, 512, 513, 514, 515, 516, 517, 21, 265, 266, 267, 268, 270, 271, 272, 273, 274] (by decide +kernel) (by decide +kernel)
set_option maxRecDepth 20000 in
theorem ggL_law_L_fails_16 : GoodIn wsL_law wsL_fails_r15 := goodIn_r _ [275, 237, 254, 279, 280, 281, 282, 283, 82, 83, 84, 85, 286, 287, 288, 289, 290, 291, 292, 293, 294, 295, 296, 297] (by decide +kernel) (by decide +kernel)
set_option maxRecDepth 20000 in
theorem ggL_law_L_fails_17 : GoodIn wsL_law wsL_fails_r16 := goodIn_r _ [298, 299, 303, 304, 306, 307, 308, 309, 310, 311, 312, 313, 314, 315, 316, 317, 318, 319, 320, 321, 322, 323, 327, 328] (by decide +kernel) (by decide +kernel)
set_option maxRecDepth 20000 in
theorem ggL_law_L_fails_18 : GoodIn wsL_law wsL_fails_r17 := goodIn_r _ [329, 330, 331, 332, 333, 334, 335, 336, 337, 338, 339, 340, 341, 342, 343, 344, 345, 346, 347, 348, 349, 350, 351, 352] (by decide +kernel) (by decide +kernel)
