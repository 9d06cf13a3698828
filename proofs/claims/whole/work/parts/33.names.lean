theorem dX7_settle_44 : decode cX7_settle 44 = .ok (.getfield 7, 3) := by decide +kernel
theorem dX7_settle_47 : decode cX7_settle 47 = .ok (.iload_n 1, 1) := by decide +kernel
theorem dX7_settle_48 : decode cX7_settle 48 = .ok (.iconst 4, 1) := by decide +kernel
theorem dX7_settle_49 : decode cX7_settle 49 = .ok (.invokestatic 240, 3) := by decide +kernel
theorem dX7_settle_52 : decode cX7_settle 52 = .ok (.iload_n 2, 1) := by decide +kernel
theorem dX7_settle_53 : decode cX7_settle 53 = .ok (.ifCond .eq 7, 3) := by decide +kernel
theorem dX7_settle_56 : decode cX7_settle 56 = .ok (.lconst 1, 1) := by decide +kernel
theorem dX7_settle_57 : decode cX7_settle 57 = .ok (.goto 6, 3) := by decide +kernel
theorem dX7_settle_60 : decode cX7_settle 60 = .ok (.ldc2_w 112, 3) := by decide +kernel
theorem dX7_settle_63 : decode cX7_settle 63 = .ok (.lastore, 1) := by decide +kernel
theorem dX7_settle_64 : decode cX7_settle 64 = .ok (.iload_n 2, 1) := by decide +kernel
theorem dX7_settle_65 : decode cX7_settle 65 = .ok (.ifCond .ne 5, 3) := by decide +kernel
theorem dX7_settle_68 : decode cX7_settle 68 = .ok (.iconst 0, 1) := by decide +kernel
theorem dX7_settle_69 : decode cX7_settle 69 = .ok (.ireturn, 1) := by decide +kernel
theorem dX7_settle_70 : decode cX7_settle 70 = .ok (.aload_n 0, 1) := by decide +kernel
theorem dX7_settle_71 : decode cX7_settle 71 = .ok (.getfield 7, 3) := by decide +kernel
theorem dX7_settle_74 : decode cX7_settle 74 = .ok (.iload_n 1, 1) := by decide +kernel
theorem dX7_settle_75 : decode cX7_settle 75 = .ok (.iconst 0, 1) := by decide +kernel
theorem dX7_settle_76 : decode cX7_settle 76 = .ok (.invokestatic 240, 3) := by decide +kernel
theorem dX7_settle_79 : decode cX7_settle 79 = .ok (.laload, 1) := by decide +kernel
theorem dX7_settle_80 : decode cX7_settle 80 = .ok (.l2i, 1) := by decide +kernel
theorem dX7_settle_81 : decode cX7_settle 81 = .ok (.istore_n 3, 1) := by decide +kernel
theorem dX7_settle_82 : decode cX7_settle 82 = .ok (.aload_n 0, 1) := by decide +kernel
theorem dX7_settle_83 : decode cX7_settle 83 = .ok (.getfield 7, 3) := by decide +kernel
theorem dX7_settle_86 : decode cX7_settle 86 = .ok (.iload_n 3, 1) := by decide +kernel
theorem dX7_settle_87 : decode cX7_settle 87 = .ok (.bipush 8, 2) := by decide +kernel
theorem dX7_settle_89 : decode cX7_settle 89 = .ok (.invokestatic 236, 3) := by decide +kernel
theorem dX7_settle_92 : decode cX7_settle 92 = .ok (.laload, 1) := by decide +kernel
theorem dX7_settle_93 : decode cX7_settle 93 = .ok (.aload_n 0, 1) := by decide +kernel
theorem dX7_settle_94 : decode cX7_settle 94 = .ok (.getfield 7, 3) := by decide +kernel
theorem dX7_settle_97 : decode cX7_settle 97 = .ok (.iload_n 1, 1) := by decide +kernel
theorem dX7_settle_98 : decode cX7_settle 98 = .ok (.iconst 3, 1) := by decide +kernel
theorem dX7_settle_99 : decode cX7_settle 99 = .ok (.invokestatic 240, 3) := by decide +kernel
theorem dX7_settle_102 : decode cX7_settle 102 = .ok (.laload, 1) := by decide +kernel
theorem dX7_settle_103 : decode cX7_settle 103 = .ok (.lsub, 1) := by decide +kernel
theorem dX7_settle_104 : decode cX7_settle 104 = .ok (.lstore 4, 2) := by decide +kernel
theorem dX7_settle_106 : decode cX7_settle 106 = .ok (.aload_n 0, 1) := by decide +kernel
theorem dX7_settle_107 : decode cX7_settle 107 = .ok (.getfield 7, 3) := by decide +kernel
theorem dX7_settle_110 : decode cX7_settle 110 = .ok (.iload_n 3, 1) := by decide +kernel
theorem dX7_settle_111 : decode cX7_settle 111 = .ok (.aload_n 0, 1) := by decide +kernel
theorem dX7_settle_112 : decode cX7_settle 112 = .ok (.getfield 7, 3) := by decide +kernel
theorem dX7_settle_115 : decode cX7_settle 115 = .ok (.iload_n 1, 1) := by decide +kernel
theorem dX7_settle_116 : decode cX7_settle 116 = .ok (.iconst 1, 1) := by decide +kernel
theorem dX7_settle_117 : decode cX7_settle 117 = .ok (.invokestatic 240, 3) := by decide +kernel
theorem dX7_settle_120 : decode cX7_settle 120 = .ok (.laload, 1) := by decide +kernel
theorem dX7_settle_121 : decode cX7_settle 121 = .ok (.l2i, 1) := by decide +kernel
theorem dX7_settle_122 : decode cX7_settle 122 = .ok (.invokestatic 236, 3) := by decide +kernel
theorem dX7_settle_125 : decode cX7_settle 125 = .ok (.aload_n 0, 1) := by decide +kernel
theorem dX7_settle_126 : decode cX7_settle 126 = .ok (.getfield 7, 3) := by decide +kernel
theorem dX7_settle_129 : decode cX7_settle 129 = .ok (.iload_n 1, 1) := by decide +kernel
theorem dX7_settle_130 : decode cX7_settle 130 = .ok (.iconst 2, 1) := by decide +kernel
theorem dX7_settle_131 : decode cX7_settle 131 = .ok (.invokestatic 240, 3) := by decide +kernel
theorem dX7_settle_134 : decode cX7_settle 134 = .ok (.laload, 1) := by decide +kernel
theorem dX7_settle_135 : decode cX7_settle 135 = .ok (.lastore, 1) := by decide +kernel
theorem dX7_settle_136 : decode cX7_settle 136 = .ok (.aload_n 0, 1) := by decide +kernel
theorem dX7_settle_137 : decode cX7_settle 137 = .ok (.getfield 7, 3) := by decide +kernel
theorem dX7_settle_140 : decode cX7_settle 140 = .ok (.iload_n 3, 1) := by decide +kernel
theorem dX7_settle_141 : decode cX7_settle 141 = .ok (.bipush 8, 2) := by decide +kernel
theorem dX7_settle_143 : decode cX7_settle 143 = .ok (.invokestatic 236, 3) := by decide +kernel
theorem dX7_settle_146 : decode cX7_settle 146 = .ok (.aload_n 0, 1) := by decide +kernel
theorem dX7_settle_147 : decode cX7_settle 147 = .ok (.getfield 7, 3) := by decide +kernel
theorem dX7_settle_150 : decode cX7_settle 150 = .ok (.iload_n 1, 1) := by decide +kernel
theorem dX7_settle_151 : decode cX7_settle 151 = .ok (.iconst 3, 1) := by decide +kernel
theorem dX7_settle_152 : decode cX7_settle 152 = .ok (.invokestatic 240, 3) := by decide +kernel
theorem dX7_settle_155 : decode cX7_settle 155 = .ok (.laload, 1) := by decide +kernel
theorem dX7_settle_156 : decode cX7_settle 156 = .ok (.lastore, 1) := by decide +kernel
theorem dX7_settle_157 : decode cX7_settle 157 = .ok (.aload_n 0, 1) := by decide +kernel
theorem dX7_settle_158 : decode cX7_settle 158 = .ok (.getfield 7, 3) := by decide +kernel
theorem dX7_settle_161 : decode cX7_settle 161 = .ok (.iload_n 3, 1) := by decide +kernel
theorem dX7_settle_162 : decode cX7_settle 162 = .ok (.iconst 5, 1) := by decide +kernel
theorem dX7_settle_163 : decode cX7_settle 163 = .ok (.invokestatic 236, 3) := by decide +kernel
theorem dX7_settle_166 : decode cX7_settle 166 = .ok (.aload_n 0, 1) := by decide +kernel
theorem dX7_settle_167 : decode cX7_settle 167 = .ok (.getfield 7, 3) := by decide +kernel
theorem dX7_settle_170 : decode cX7_settle 170 = .ok (.iload_n 1, 1) := by decide +kernel
theorem dX7_settle_171 : decode cX7_settle 171 = .ok (.bipush 6, 2) := by decide +kernel
theorem dX7_settle_173 : decode cX7_settle 173 = .ok (.invokestatic 240, 3) := by decide +kernel
theorem dX7_settle_176 : decode cX7_settle 176 = .ok (.laload, 1) := by decide +kernel
theorem dX7_settle_177 : decode cX7_settle 177 = .ok (.lastore, 1) := by decide +kernel
theorem dX7_settle_178 : decode cX7_settle 178 = .ok (.aload_n 0, 1) := by decide +kernel
theorem dX7_settle_179 : decode cX7_settle 179 = .ok (.getfield 7, 3) := by decide +kernel
theorem dX7_settle_182 : decode cX7_settle 182 = .ok (.iload_n 3, 1) := by decide +kernel
theorem dX7_settle_183 : decode cX7_settle 183 = .ok (.bipush 6, 2) := by decide +kernel
theorem dX7_settle_185 : decode cX7_settle 185 = .ok (.invokestatic 236, 3) := by decide +kernel
theorem dX7_settle_188 : decode cX7_settle 188 = .ok (.aload_n 0, 1) := by decide +kernel
theorem dX7_settle_189 : decode cX7_settle 189 = .ok (.getfield 7, 3) := by decide +kernel
theorem dX7_settle_192 : decode cX7_settle 192 = .ok (.iload_n 1, 1) := by decide +kernel
theorem dX7_settle_193 : decode cX7_settle 193 = .ok (.bipush 7, 2) := by decide +kernel
theorem dX7_settle_195 : decode cX7_settle 195 = .ok (.invokestatic 240, 3) := by decide +kernel
theorem dX7_settle_198 : decode cX7_settle 198 = .ok (.laload, 1) := by decide +kernel
theorem dX7_settle_199 : decode cX7_settle 199 = .ok (.lastore, 1) := by decide +kernel
theorem dX7_settle_200 : decode cX7_settle 200 = .ok (.aload_n 0, 1) := by decide +kernel
theorem dX7_settle_201 : decode cX7_settle 201 = .ok (.getfield 7, 3) := by decide +kernel
theorem dX7_settle_204 : decode cX7_settle 204 = .ok (.iload_n 3, 1) := by decide +kernel
theorem dX7_settle_205 : decode cX7_settle 205 = .ok (.bipush 7, 2) := by decide +kernel
theorem dX7_settle_207 : decode cX7_settle 207 = .ok (.invokestatic 236, 3) := by decide +kernel
theorem dX7_settle_210 : decode cX7_settle 210 = .ok (.aload_n 0, 1) := by decide +kernel
theorem dX7_settle_211 : decode cX7_settle 211 = .ok (.getfield 7, 3) := by decide +kernel
theorem dX7_settle_214 : decode cX7_settle 214 = .ok (.iload_n 1, 1) := by decide +kernel
theorem dX7_settle_215 : decode cX7_settle 215 = .ok (.bipush 8, 2) := by decide +kernel
theorem dX7_settle_217 : decode cX7_settle 217 = .ok (.invokestatic 240, 3) := by decide +kernel
theorem dX7_settle_220 : decode cX7_settle 220 = .ok (.laload, 1) := by decide +kernel
theorem dX7_settle_221 : decode cX7_settle 221 = .ok (.lastore, 1) := by decide +kernel
theorem dX7_settle_222 : decode cX7_settle 222 = .ok (.iconst 0, 1) := by decide +kernel
theorem dX7_settle_223 : decode cX7_settle 223 = .ok (.istore 6, 2) := by decide +kernel
theorem dX7_settle_225 : decode cX7_settle 225 = .ok (.iload 6, 2) := by decide +kernel
theorem dX7_settle_227 : decode cX7_settle 227 = .ok (.iconst 3, 1) := by decide +kernel
theorem dX7_settle_228 : decode cX7_settle 228 = .ok (.if_icmp .ge 37, 3) := by decide +kernel
theorem dX7_settle_231 : decode cX7_settle 231 = .ok (.aload_n 0, 1) := by decide +kernel
theorem dX7_settle_232 : decode cX7_settle 232 = .ok (.getfield 7, 3) := by decide +kernel
theorem dX7_settle_235 : decode cX7_settle 235 = .ok (.iload_n 3, 1) := by decide +kernel
theorem dX7_settle_236 : decode cX7_settle 236 = .ok (.bipush 9, 2) := by decide +kernel
theorem dX7_settle_238 : decode cX7_settle 238 = .ok (.iload 6, 2) := by decide +kernel
theorem dX7_settle_240 : decode cX7_settle 240 = .ok (.iadd, 1) := by decide +kernel
theorem dX7_settle_241 : decode cX7_settle 241 = .ok (.invokestatic 236, 3) := by decide +kernel
theorem dX7_settle_244 : decode cX7_settle 244 = .ok (.aload_n 0, 1) := by decide +kernel
theorem dX7_settle_245 : decode cX7_settle 245 = .ok (.getfield 7, 3) := by decide +kernel
theorem dX7_settle_248 : decode cX7_settle 248 = .ok (.iload_n 1, 1) := by decide +kernel
theorem dX7_settle_249 : decode cX7_settle 249 = .ok (.bipush 9, 2) := by decide +kernel
theorem dX7_settle_251 : decode cX7_settle 251 = .ok (.iload 6, 2) := by decide +kernel
theorem dX7_settle_253 : decode cX7_settle 253 = .ok (.iadd, 1) := by decide +kernel
theorem dX7_settle_254 : decode cX7_settle 254 = .ok (.invokestatic 240, 3) := by decide +kernel
theorem dX7_settle_257 : decode cX7_settle 257 = .ok (.laload, 1) := by decide +kernel
theorem dX7_settle_258 : decode cX7_settle 258 = .ok (.lastore, 1) := by decide +kernel
theorem dX7_settle_259 : decode cX7_settle 259 = .ok (.iinc 6 1, 3) := by decide +kernel
theorem dX7_settle_262 : decode cX7_settle 262 = .ok (.goto (-37), 3) := by decide +kernel
theorem dX7_settle_265 : decode cX7_settle 265 = .ok (.aload_n 0, 1) := by decide +kernel
theorem dX7_settle_266 : decode cX7_settle 266 = .ok (.getfield 7, 3) := by decide +kernel
theorem dX7_settle_269 : decode cX7_settle 269 = .ok (.iload_n 1, 1) := by decide +kernel
theorem dX7_settle_270 : decode cX7_settle 270 = .ok (.iconst 5, 1) := by decide +kernel
theorem dX7_settle_271 : decode cX7_settle 271 = .ok (.invokestatic 240, 3) := by decide +kernel
theorem dX7_settle_274 : decode cX7_settle 274 = .ok (.lload 4, 2) := by decide +kernel
theorem dX7_settle_276 : decode cX7_settle 276 = .ok (.lastore, 1) := by decide +kernel
theorem dX7_settle_277 : decode cX7_settle 277 = .ok (.aload_n 0, 1) := by decide +kernel
theorem dX7_settle_278 : decode cX7_settle 278 = .ok (.getfield 7, 3) := by decide +kernel
theorem dX7_settle_281 : decode cX7_settle 281 = .ok (.bipush 21, 2) := by decide +kernel
theorem dX7_settle_283 : decode cX7_settle 283 = .ok (.dup2, 1) := by decide +kernel
theorem dX7_settle_284 : decode cX7_settle 284 = .ok (.laload, 1) := by decide +kernel
theorem dX7_settle_285 : decode cX7_settle 285 = .ok (.lload 4, 2) := by decide +kernel
theorem dX7_settle_287 : decode cX7_settle 287 = .ok (.ladd, 1) := by decide +kernel
theorem dX7_settle_288 : decode cX7_settle 288 = .ok (.lastore, 1) := by decide +kernel
theorem dX7_settle_289 : decode cX7_settle 289 = .ok (.lload 4, 2) := by decide +kernel
theorem dX7_settle_291 : decode cX7_settle 291 = .ok (.l2i, 1) := by decide +kernel
theorem dX7_settle_292 : decode cX7_settle 292 = .ok (.ireturn, 1) := by decide +kernel
set_option maxRecDepth 20000 in
theorem ggX7_note_X7_in : GoodIn wsX7_note wsX7_in := goodIn_r _ [7] (by decide +kernel) (by decide +kernel)
set_option maxRecDepth 20000 in
theorem gX7_note_X7_in : GoodIn wsX7_note (va_wsS RX7 69 yX7_in wsX7_in) := goodIn_app (goodIn_of _ (by decide +kernel)) ggX7_note_X7_in
set_option maxRecDepth 20000 in
theorem ggX7_note_X7_noteAt : GoodIn wsX7_note wsX7_noteAt := goodIn_r _ [10] (by decide +kernel) (by decide +kernel)
set_option maxRecDepth 20000 in
theorem gX7_note_X7_noteAt : GoodIn wsX7_note (va_wsS RX7 240 yX7_noteAt wsX7_noteAt) := goodIn_app (goodIn_of _ (by decide +kernel)) ggX7_note_X7_noteAt
theorem dX7_note_0 : decode cX7_note 0 = .ok (.iload_n 1, 1) := by decide +kernel
theorem dX7_note_1 : decode cX7_note 1 = .ok (.i2l, 1) := by decide +kernel
theorem dX7_note_2 : decode cX7_note 2 = .ok (.lconst 0, 1) := by decide +kernel
theorem dX7_note_3 : decode cX7_note 3 = .ok (.aload_n 0, 1) := by decide +kernel
theorem dX7_note_4 : decode cX7_note 4 = .ok (.getfield 7, 3) := by decide +kernel
theorem dX7_note_7 : decode cX7_note 7 = .ok (.bipush 20, 2) := by decide +kernel
theorem dX7_note_9 : decode cX7_note 9 = .ok (.laload, 1) := by decide +kernel
theorem dX7_note_10 : decode cX7_note 10 = .ok (.lconst 1, 1) := by decide +kernel
theorem dX7_note_11 : decode cX7_note 11 = .ok (.lsub, 1) := by decide +kernel
theorem dX7_note_12 : decode cX7_note 12 = .ok (.invokestatic 69, 3) := by decide +kernel
theorem dX7_note_15 : decode cX7_note 15 = .ok (.ifCond .eq 29, 3) := by decide +kernel
theorem dX7_note_18 : decode cX7_note 18 = .ok (.iload_n 2, 1) := by decide +kernel
theorem dX7_note_19 : decode cX7_note 19 = .ok (.i2l, 1) := by decide +kernel
theorem dX7_note_20 : decode cX7_note 20 = .ok (.lconst 0, 1) := by decide +kernel
theorem dX7_note_21 : decode cX7_note 21 = .ok (.ldc2_w 52, 3) := by decide +kernel
theorem dX7_note_24 : decode cX7_note 24 = .ok (.invokestatic 69, 3) := by decide +kernel
theorem dX7_note_27 : decode cX7_note 27 = .ok (.ifCond .eq 17, 3) := by decide +kernel
theorem dX7_note_30 : decode cX7_note 30 = .ok (.aload_n 0, 1) := by decide +kernel
theorem dX7_note_31 : decode cX7_note 31 = .ok (.getfield 7, 3) := by decide +kernel
theorem dX7_note_34 : decode cX7_note 34 = .ok (.iload_n 1, 1) := by decide +kernel
theorem dX7_note_35 : decode cX7_note 35 = .ok (.iload_n 2, 1) := by decide +kernel
theorem dX7_note_36 : decode cX7_note 36 = .ok (.invokestatic 240, 3) := by decide +kernel
theorem dX7_note_39 : decode cX7_note 39 = .ok (.laload, 1) := by decide +kernel
theorem dX7_note_40 : decode cX7_note 40 = .ok (.l2i, 1) := by decide +kernel
theorem dX7_note_41 : decode cX7_note 41 = .ok (.goto 5, 3) := by decide +kernel
theorem dX7_note_44 : decode cX7_note 44 = .ok (.ldc 89, 2) := by decide +kernel
theorem dX7_note_46 : decode cX7_note 46 = .ok (.ireturn, 1) := by decide +kernel
theorem dX7_notes_0 : decode cX7_notes 0 = .ok (.aload_n 0, 1) := by decide +kernel
theorem dX7_notes_1 : decode cX7_notes 1 = .ok (.getfield 7, 3) := by decide +kernel
theorem dX7_notes_4 : decode cX7_notes 4 = .ok (.bipush 20, 2) := by decide +kernel
theorem dX7_notes_6 : decode cX7_notes 6 = .ok (.laload, 1) := by decide +kernel
theorem dX7_notes_7 : decode cX7_notes 7 = .ok (.l2i, 1) := by decide +kernel
theorem dX7_notes_8 : decode cX7_notes 8 = .ok (.ireturn, 1) := by decide +kernel
set_option maxRecDepth 20000 in
theorem ggX7_sumOf_X7_parcelAt : GoodIn wsX7_sumOf wsX7_parcelAt := goodIn_r _ [6] (by decide +kernel) (by decide +kernel)
set_option maxRecDepth 20000 in
theorem gX7_sumOf_X7_parcelAt : GoodIn wsX7_sumOf (va_wsS RX7 236 yX7_parcelAt wsX7_parcelAt) := goodIn_app (goodIn_of _ (by decide +kernel)) ggX7_sumOf_X7_parcelAt
theorem dX7_sumOf_0 : decode cX7_sumOf 0 = .ok (.iload_n 1, 1) := by decide +kernel
theorem dX7_sumOf_1 : decode cX7_sumOf 1 = .ok (.iconst 1, 1) := by decide +kernel
theorem dX7_sumOf_2 : decode cX7_sumOf 2 = .ok (.if_icmp .ne 11, 3) := by decide +kernel
theorem dX7_sumOf_5 : decode cX7_sumOf 5 = .ok (.aload_n 0, 1) := by decide +kernel
theorem dX7_sumOf_6 : decode cX7_sumOf 6 = .ok (.getfield 7, 3) := by decide +kernel
theorem dX7_sumOf_9 : decode cX7_sumOf 9 = .ok (.bipush 21, 2) := by decide +kernel
theorem dX7_sumOf_11 : decode cX7_sumOf 11 = .ok (.laload, 1) := by decide +kernel
theorem dX7_sumOf_12 : decode cX7_sumOf 12 = .ok (.lreturn, 1) := by decide +kernel
theorem dX7_sumOf_13 : decode cX7_sumOf 13 = .ok (.lconst 0, 1) := by decide +kernel
theorem dX7_sumOf_14 : decode cX7_sumOf 14 = .ok (.lstore_n 2, 1) := by decide +kernel
theorem dX7_sumOf_15 : decode cX7_sumOf 15 = .ok (.iconst 0, 1) := by decide +kernel
theorem dX7_sumOf_16 : decode cX7_sumOf 16 = .ok (.istore 4, 2) := by decide +kernel
theorem dX7_sumOf_18 : decode cX7_sumOf 18 = .ok (.iload 4, 2) := by decide +kernel
theorem dX7_sumOf_20 : decode cX7_sumOf 20 = .ok (.i2l, 1) := by decide +kernel
theorem dX7_sumOf_21 : decode cX7_sumOf 21 = .ok (.aload_n 0, 1) := by decide +kernel
theorem dX7_sumOf_22 : decode cX7_sumOf 22 = .ok (.getfield 7, 3) := by decide +kernel
theorem dX7_sumOf_25 : decode cX7_sumOf 25 = .ok (.bipush 19, 2) := by decide +kernel
theorem dX7_sumOf_27 : decode cX7_sumOf 27 = .ok (.laload, 1) := by decide +kernel
theorem dX7_sumOf_28 : decode cX7_sumOf 28 = .ok (.lcmp, 1) := by decide +kernel
theorem dX7_sumOf_29 : decode cX7_sumOf 29 = .ok (.ifCond .ge 94, 3) := by decide +kernel
theorem dX7_sumOf_32 : decode cX7_sumOf 32 = .ok (.lload_n 2, 1) := by decide +kernel
theorem dX7_sumOf_33 : decode cX7_sumOf 33 = .ok (.iload_n 1, 1) := by decide +kernel
theorem dX7_sumOf_34 : decode cX7_sumOf 34 = .ok (.ifCond .ne 18, 3) := by decide +kernel
theorem dX7_sumOf_37 : decode cX7_sumOf 37 = .ok (.aload_n 0, 1) := by decide +kernel
theorem dX7_sumOf_38 : decode cX7_sumOf 38 = .ok (.getfield 7, 3) := by decide +kernel
theorem dX7_sumOf_41 : decode cX7_sumOf 41 = .ok (.iload 4, 2) := by decide +kernel
theorem dX7_sumOf_43 : decode cX7_sumOf 43 = .ok (.bipush 8, 2) := by decide +kernel
theorem dX7_sumOf_45 : decode cX7_sumOf 45 = .ok (.invokestatic 236, 3) := by decide +kernel
theorem dX7_sumOf_48 : decode cX7_sumOf 48 = .ok (.laload, 1) := by decide +kernel
theorem dX7_sumOf_49 : decode cX7_sumOf 49 = .ok (.goto 66, 3) := by decide +kernel
theorem dX7_sumOf_52 : decode cX7_sumOf 52 = .ok (.iload_n 1, 1) := by decide +kernel
theorem dX7_sumOf_53 : decode cX7_sumOf 53 = .ok (.iconst 2, 1) := by decide +kernel
theorem dX7_sumOf_54 : decode cX7_sumOf 54 = .ok (.if_icmp .ne 17, 3) := by decide +kernel
theorem dX7_sumOf_57 : decode cX7_sumOf 57 = .ok (.aload_n 0, 1) := by decide +kernel
theorem dX7_sumOf_58 : decode cX7_sumOf 58 = .ok (.getfield 7, 3) := by decide +kernel
theorem dX7_sumOf_61 : decode cX7_sumOf 61 = .ok (.iload 4, 2) := by decide +kernel
theorem dX7_sumOf_63 : decode cX7_sumOf 63 = .ok (.iconst 0, 1) := by decide +kernel
theorem dX7_sumOf_64 : decode cX7_sumOf 64 = .ok (.invokestatic 236, 3) := by decide +kernel
theorem dX7_sumOf_67 : decode cX7_sumOf 67 = .ok (.laload, 1) := by decide +kernel
theorem dX7_sumOf_68 : decode cX7_sumOf 68 = .ok (.goto 47, 3) := by decide +kernel
theorem dX7_sumOf_71 : decode cX7_sumOf 71 = .ok (.iload_n 1, 1) := by decide +kernel
theorem dX7_sumOf_72 : decode cX7_sumOf 72 = .ok (.iconst 3, 1) := by decide +kernel
theorem dX7_sumOf_73 : decode cX7_sumOf 73 = .ok (.if_icmp .ne 18, 3) := by decide +kernel
theorem dX7_sumOf_76 : decode cX7_sumOf 76 = .ok (.aload_n 0, 1) := by decide +kernel
theorem dX7_sumOf_77 : decode cX7_sumOf 77 = .ok (.getfield 7, 3) := by decide +kernel
theorem dX7_sumOf_80 : decode cX7_sumOf 80 = .ok (.iload 4, 2) := by decide +kernel
theorem dX7_sumOf_82 : decode cX7_sumOf 82 = .ok (.bipush 6, 2) := by decide +kernel
theorem dX7_sumOf_84 : decode cX7_sumOf 84 = .ok (.invokestatic 236, 3) := by decide +kernel
theorem dX7_sumOf_87 : decode cX7_sumOf 87 = .ok (.laload, 1) := by decide +kernel
theorem dX7_sumOf_88 : decode cX7_sumOf 88 = .ok (.goto 27, 3) := by decide +kernel
theorem dX7_sumOf_91 : decode cX7_sumOf 91 = .ok (.aload_n 0, 1) := by decide +kernel
theorem dX7_sumOf_92 : decode cX7_sumOf 92 = .ok (.getfield 7, 3) := by decide +kernel
theorem dX7_sumOf_95 : decode cX7_sumOf 95 = .ok (.iload 4, 2) := by decide +kernel
theorem dX7_sumOf_97 : decode cX7_sumOf 97 = .ok (.bipush 9, 2) := by decide +kernel
theorem dX7_sumOf_99 : decode cX7_sumOf 99 = .ok (.invokestatic 236, 3) := by decide +kernel
theorem dX7_sumOf_102 : decode cX7_sumOf 102 = .ok (.laload, 1) := by decide +kernel
theorem dX7_sumOf_103 : decode cX7_sumOf 103 = .ok (.ldc2_w 112, 3) := by decide +kernel
theorem dX7_sumOf_106 : decode cX7_sumOf 106 = .ok (.lcmp, 1) := by decide +kernel
theorem dX7_sumOf_107 : decode cX7_sumOf 107 = .ok (.ifCond .ne 7, 3) := by decide +kernel
theorem dX7_sumOf_110 : decode cX7_sumOf 110 = .ok (.lconst 1, 1) := by decide +kernel
theorem dX7_sumOf_111 : decode cX7_sumOf 111 = .ok (.goto 4, 3) := by decide +kernel
theorem dX7_sumOf_114 : decode cX7_sumOf 114 = .ok (.lconst 0, 1) := by decide +kernel
theorem dX7_sumOf_115 : decode cX7_sumOf 115 = .ok (.ladd, 1) := by decide +kernel
theorem dX7_sumOf_116 : decode cX7_sumOf 116 = .ok (.lstore_n 2, 1) := by decide +kernel
theorem dX7_sumOf_117 : decode cX7_sumOf 117 = .ok (.iinc 4 1, 3) := by decide +kernel
theorem dX7_sumOf_120 : decode cX7_sumOf 120 = .ok (.goto (-102), 3) := by decide +kernel
theorem dX7_sumOf_123 : decode cX7_sumOf 123 = .ok (.lload_n 2, 1) := by decide +kernel
theorem dX7_sumOf_124 : decode cX7_sumOf 124 = .ok (.lreturn, 1) := by decide +kernel
set_option maxRecDepth 20000 in
theorem ggX7_sum_X7_in : GoodIn wsX7_sum wsX7_in := goodIn_r _ [6] (by decide +kernel) (by decide +kernel)
set_option maxRecDepth 20000 in
theorem gX7_sum_X7_in : GoodIn wsX7_sum (va_wsS RX7 69 yX7_in wsX7_in) := goodIn_app (goodIn_of _ (by decide +kernel)) ggX7_sum_X7_in
set_option maxRecDepth 20000 in
theorem ggX7_sum_X7_sumOf : GoodIn wsX7_sum wsX7_sumOf := goodIn_r _ [10, 11, 12, 13, 14, 5, 15, 16, 17, 18, 19, 20, 21, 22, 23, 24, 25, 26, 27, 28, 29, 30, 31, 32, 33, 34] (by decide +kernel) (by decide +kernel)
set_option maxRecDepth 20000 in
theorem gX7_sum_X7_sumOf : GoodIn wsX7_sum (wsV RX7 266 RX7 yX7_sumOf wsX7_sumOf) := goodIn_app (goodIn_of _ (by decide +kernel)) ggX7_sum_X7_sumOf
theorem dX7_sum_0 : decode cX7_sum 0 = .ok (.iload_n 1, 1) := by decide +kernel
theorem dX7_sum_1 : decode cX7_sum 1 = .ok (.i2l, 1) := by decide +kernel
theorem dX7_sum_2 : decode cX7_sum 2 = .ok (.lconst 0, 1) := by decide +kernel
theorem dX7_sum_3 : decode cX7_sum 3 = .ok (.ldc2_w 264, 3) := by decide +kernel
theorem dX7_sum_6 : decode cX7_sum 6 = .ok (.invokestatic 69, 3) := by decide +kernel
theorem dX7_sum_9 : decode cX7_sum 9 = .ok (.ifCond .eq 11, 3) := by decide +kernel
theorem dX7_sum_12 : decode cX7_sum 12 = .ok (.aload_n 0, 1) := by decide +kernel
theorem dX7_sum_13 : decode cX7_sum 13 = .ok (.iload_n 1, 1) := by decide +kernel
theorem dX7_sum_14 : decode cX7_sum 14 = .ok (.invokevirtual 266, 3) := by decide +kernel
theorem dX7_sum_17 : decode cX7_sum 17 = .ok (.goto 6, 3) := by decide +kernel
theorem dX7_sum_20 : decode cX7_sum 20 = .ok (.ldc2_w 269, 3) := by decide +kernel
theorem dX7_sum_23 : decode cX7_sum 23 = .ok (.lreturn, 1) := by decide +kernel
set_option maxRecDepth 20000 in
theorem ggX7_less_X7_hasBands : GoodIn wsX7_less wsX7_hasBands := goodIn_r _ [8, 2, 9, 10, 7, 11, 12, 13, 14, 15, 114, 115, 116, 117, 118, 119, 120, 121, 122, 123, 124, 125, 126, 127, 128, 129, 130, 131, 132] (by decide +kernel) (by decide +kernel)
set_option maxRecDepth 20000 in
theorem gX7_less_X7_hasBands : GoodIn wsX7_less (wsV RX7 257 RX7 yX7_hasBands wsX7_hasBands) := goodIn_app (goodIn_of _ (by decide +kernel)) ggX7_less_X7_hasBands
set_option maxRecDepth 20000 in
theorem ggX7_less_X7_readsRules_c : GoodIn wsX7_less [.code yX7_readsRules cX7_readsRules 3 none] := goodIn_r _ [19] (by decide +kernel) (by decide +kernel)
set_option maxRecDepth 20000 in
theorem ggX7_less_X7_readsRules_1 : GoodIn wsX7_less wsX7_readsRules_r1 := goodIn_r _ [2, 20, 21, 22, 23, 24, 25, 7, 26, 27, 28, 29, 30, 31, 32, 33, 34, 35, 36, 37, 38, 39, 40, 41] (by decide +kernel) (by decide +kernel)
set_option maxRecDepth 20000 in
theorem ggX7_less_X7_readsRules_2 : GoodIn wsX7_less wsX7_readsRules_r2 := goodIn_r _ [42, 43, 44, 45, 46, 47, 48, 49, 50, 51, 52, 53, 54, 55, 56, 57, 58, 59, 60, 61, 62, 63, 64, 65] (by decide +kernel) (by decide +kernel)
set_option maxRecDepth 20000 in
theorem ggX7_less_X7_readsRules_3 : GoodIn wsX7_less wsX7_readsRules_r3 := goodIn_r _ [66, 67, 68, 69, 70] (by decide +kernel) (by decide +kernel)
set_option maxRecDepth 20000 in
theorem ggX7_less_X7_readsRules_t : GoodIn wsX7_less wsX70 := goodIn_r _ [114, 115, 116, 117, 118, 119, 120, 121, 122, 123, 124, 125, 126, 127, 128, 129, 130, 131, 132] (by decide +kernel) (by decide +kernel)
set_option maxRecDepth 20000 in
theorem ggX7_less_X7_readsRules : GoodIn wsX7_less wsX7_readsRules := goodIn_app (a := [.code yX7_readsRules cX7_readsRules 3 none]) ggX7_less_X7_readsRules_c (goodIn_app (goodIn_app ggX7_less_X7_readsRules_1 (goodIn_app ggX7_less_X7_readsRules_2 ggX7_less_X7_readsRules_3)) ggX7_less_X7_readsRules_t)
set_option maxRecDepth 20000 in
theorem gX7_less_X7_readsRules : GoodIn wsX7_less (wsV RX7 229 RX7 yX7_readsRules wsX7_readsRules) := goodIn_app (goodIn_of _ (by decide +kernel)) ggX7_less_X7_readsRules
set_option maxRecDepth 20000 in
theorem ggX7_less_X7_parcelAt : GoodIn wsX7_less wsX7_parcelAt := goodIn_r _ [11] (by decide +kernel) (by decide +kernel)
set_option maxRecDepth 20000 in
theorem gX7_less_X7_parcelAt : GoodIn wsX7_less (va_wsS RX7 236 yX7_parcelAt wsX7_parcelAt) := goodIn_app (goodIn_of _ (by decide +kernel)) ggX7_less_X7_parcelAt
set_option maxRecDepth 20000 in
theorem ggX7_less_X7_with_c : GoodIn wsX7_less [.code yX7_with cX7_with 13 (some .long)] := goodIn_r _ [74] (by decide +kernel) (by decide +kernel)
set_option maxRecDepth 20000 in
theorem ggX7_less_X7_with_1 : GoodIn wsX7_less wsX7_with_r1 := goodIn_r _ [2, 9, 10, 7, 11, 75, 76, 77, 78, 79, 80, 81, 82, 83, 32, 33, 84, 85, 86, 87, 88, 89, 90, 91] (by decide +kernel) (by decide +kernel)
set_option maxRecDepth 20000 in
theorem ggX7_less_X7_with_2 : GoodIn wsX7_less wsX7_with_r2 := goodIn_r _ [92, 93, 94, 95, 96, 12, 13, 14, 15, 97, 98, 99, 100, 101, 102, 103, 104, 105, 106, 107, 108, 109, 28, 58] (by decide +kernel) (by decide +kernel)
set_option maxRecDepth 20000 in
theorem ggX7_less_X7_with_3 : GoodIn wsX7_less wsX7_with_r3 := goodIn_r _ [110, 111, 112, 113] (by decide +kernel) (by decide +kernel)
set_option maxRecDepth 20000 in
theorem ggX7_less_X7_with_t : GoodIn wsX7_less wsX70 := goodIn_r _ [114, 115, 116, 117, 118, 119, 120, 121, 122, 123, 124, 125, 126, 127, 128, 129, 130, 131, 132] (by decide +kernel) (by decide +kernel)
set_option maxRecDepth 20000 in
theorem ggX7_less_X7_with : GoodIn wsX7_less wsX7_with := goodIn_app (a := [.code yX7_with cX7_with 13 (some .long)]) ggX7_less_X7_with_c (goodIn_app (goodIn_app ggX7_less_X7_with_1 (goodIn_app ggX7_less_X7_with_2 ggX7_less_X7_with_3)) ggX7_less_X7_with_t)
set_option maxRecDepth 20000 in
theorem gX7_less_X7_with : GoodIn wsX7_less (wsV RX7 260 RX7 yX7_with wsX7_with) := goodIn_app (goodIn_of _ (by decide +kernel)) ggX7_less_X7_with
theorem dX7_less_0 : decode cX7_less 0 = .ok (.aload_n 0, 1) := by decide +kernel
theorem dX7_less_1 : decode cX7_less 1 = .ok (.iload_n 1, 1) := by decide +kernel
theorem dX7_less_2 : decode cX7_less 2 = .ok (.invokevirtual 257, 3) := by decide +kernel
theorem dX7_less_5 : decode cX7_less 5 = .ok (.ifCond .ne 6, 3) := by decide +kernel
theorem dX7_less_8 : decode cX7_less 8 = .ok (.ldc 108, 2) := by decide +kernel
theorem dX7_less_10 : decode cX7_less 10 = .ok (.ireturn, 1) := by decide +kernel
theorem dX7_less_11 : decode cX7_less 11 = .ok (.aload_n 0, 1) := by decide +kernel
theorem dX7_less_12 : decode cX7_less 12 = .ok (.invokevirtual 229, 3) := by decide +kernel
theorem dX7_less_15 : decode cX7_less 15 = .ok (.aload_n 0, 1) := by decide +kernel
theorem dX7_less_16 : decode cX7_less 16 = .ok (.getfield 7, 3) := by decide +kernel
theorem dX7_less_19 : decode cX7_less 19 = .ok (.iload_n 1, 1) := by decide +kernel
theorem dX7_less_20 : decode cX7_less 20 = .ok (.iload_n 2, 1) := by decide +kernel
theorem dX7_less_21 : decode cX7_less 21 = .ok (.invokestatic 236, 3) := by decide +kernel
theorem dX7_less_24 : decode cX7_less 24 = .ok (.laload, 1) := by decide +kernel
theorem dX7_less_25 : decode cX7_less 25 = .ok (.lstore_n 3, 1) := by decide +kernel
theorem dX7_less_26 : decode cX7_less 26 = .ok (.aload_n 0, 1) := by decide +kernel
theorem dX7_less_27 : decode cX7_less 27 = .ok (.iload_n 1, 1) := by decide +kernel
theorem dX7_less_28 : decode cX7_less 28 = .ok (.iload_n 2, 1) := by decide +kernel
theorem dX7_less_29 : decode cX7_less 29 = .ok (.lload_n 3, 1) := by decide +kernel
theorem dX7_less_30 : decode cX7_less 30 = .ok (.invokevirtual 260, 3) := by decide +kernel
theorem dX7_less_33 : decode cX7_less 33 = .ok (.lstore 5, 2) := by decide +kernel
theorem dX7_less_35 : decode cX7_less 35 = .ok (.iconst 1, 1) := by decide +kernel
theorem dX7_less_36 : decode cX7_less 36 = .ok (.istore 7, 2) := by decide +kernel
theorem dX7_less_38 : decode cX7_less 38 = .ok (.iload 7, 2) := by decide +kernel
theorem dX7_less_40 : decode cX7_less 40 = .ok (.i2l, 1) := by decide +kernel
theorem dX7_less_41 : decode cX7_less 41 = .ok (.lload_n 3, 1) := by decide +kernel
theorem dX7_less_42 : decode cX7_less 42 = .ok (.lcmp, 1) := by decide +kernel
theorem dX7_less_43 : decode cX7_less 43 = .ok (.ifCond .ge 29, 3) := by decide +kernel
theorem dX7_less_46 : decode cX7_less 46 = .ok (.aload_n 0, 1) := by decide +kernel
theorem dX7_less_47 : decode cX7_less 47 = .ok (.iload_n 1, 1) := by decide +kernel
theorem dX7_less_48 : decode cX7_less 48 = .ok (.iload_n 2, 1) := by decide +kernel
theorem dX7_less_49 : decode cX7_less 49 = .ok (.lload_n 3, 1) := by decide +kernel
theorem dX7_less_50 : decode cX7_less 50 = .ok (.iload 7, 2) := by decide +kernel
theorem dX7_less_52 : decode cX7_less 52 = .ok (.i2l, 1) := by decide +kernel
theorem dX7_less_53 : decode cX7_less 53 = .ok (.lsub, 1) := by decide +kernel
theorem dX7_less_54 : decode cX7_less 54 = .ok (.invokevirtual 260, 3) := by decide +kernel
theorem dX7_less_57 : decode cX7_less 57 = .ok (.lload 5, 2) := by decide +kernel
theorem dX7_less_59 : decode cX7_less 59 = .ok (.lcmp, 1) := by decide +kernel
theorem dX7_less_60 : decode cX7_less 60 = .ok (.ifCond .ge 6, 3) := by decide +kernel
theorem dX7_less_63 : decode cX7_less 63 = .ok (.iload 7, 2) := by decide +kernel
theorem dX7_less_65 : decode cX7_less 65 = .ok (.ireturn, 1) := by decide +kernel
theorem dX7_less_66 : decode cX7_less 66 = .ok (.iinc 7 1, 3) := by decide +kernel
theorem dX7_less_69 : decode cX7_less 69 = .ok (.goto (-31), 3) := by decide +kernel
theorem dX7_less_72 : decode cX7_less 72 = .ok (.ldc 239, 2) := by decide +kernel
theorem dX7_less_74 : decode cX7_less 74 = .ok (.ireturn, 1) := by decide +kernel
set_option maxRecDepth 20000 in
theorem ggX7_lighter_X7_isParcel : GoodIn wsX7_lighter wsX7_isParcel := goodIn_r _ [6, 7, 8, 9, 5, 10, 123, 124, 125, 126, 127, 128, 129, 130, 131, 132, 133, 134, 135, 136, 137, 138, 139, 140, 141] (by decide +kernel) (by decide +kernel)
set_option maxRecDepth 20000 in
theorem gX7_lighter_X7_isParcel : GoodIn wsX7_lighter (wsV RX7 246 RX7 yX7_isParcel wsX7_isParcel) := goodIn_app (goodIn_of _ (by decide +kernel)) ggX7_lighter_X7_isParcel
set_option maxRecDepth 20000 in
theorem ggX7_lighter_X7_less_c : GoodIn wsX7_lighter [.code yX7_less cX7_less 8 (some .int)] := goodIn_r _ [14] (by decide +kernel) (by decide +kernel)
set_option maxRecDepth 20000 in
theorem ggX7_lighter_X7_less_1 : GoodIn wsX7_lighter wsX7_less_r1 := goodIn_r _ [15, 7, 16, 17, 18, 19, 5, 20, 21, 22, 23, 24, 25, 26, 27, 28, 29, 30, 31, 32, 33, 34, 35, 36] (by decide +kernel) (by decide +kernel)
set_option maxRecDepth 20000 in
theorem ggX7_lighter_X7_less_2 : GoodIn wsX7_lighter wsX7_less_r2 := goodIn_r _ [37, 38, 39, 40, 41, 42, 43, 44, 45, 46, 47, 48, 49, 50, 51, 52, 53, 54, 55, 56, 57, 58, 59, 60] (by decide +kernel) (by decide +kernel)
set_option maxRecDepth 20000 in
theorem ggX7_lighter_X7_less_3 : GoodIn wsX7_lighter wsX7_less_r3 := goodIn_r _ [61, 62, 8, 9, 10, 63, 64, 65, 66, 67, 68, 69, 70, 71, 72, 73, 74, 75, 76, 77, 78, 79, 80, 81] (by decide +kernel) (by decide +kernel)
set_option maxRecDepth 20000 in
theorem ggX7_lighter_X7_less_4 : GoodIn wsX7_lighter wsX7_less_r4 := goodIn_r _ [82, 83, 84, 85, 86, 87, 88, 89, 90, 91, 92, 93, 94, 95, 96, 97, 98, 99, 100, 101, 102, 103, 104, 105] (by decide +kernel) (by decide +kernel)
set_option maxRecDepth 20000 in
theorem ggX7_lighter_X7_less_5 : GoodIn wsX7_lighter wsX7_less_r5 := goodIn_r _ [106, 107, 108, 109, 110, 111, 112, 113, 114, 115, 116, 117, 118, 119, 120, 121, 122] (by decide +kernel) (by decide +kernel)
set_option maxRecDepth 20000 in
theorem ggX7_lighter_X7_less_t : GoodIn wsX7_lighter wsX70 := goodIn_r _ [123, 124, 125, 126, 127, 128, 129, 130, 131, 132, 133, 134, 135, 136, 137, 138, 139, 140, 141] (by decide +kernel) (by decide +kernel)
set_option maxRecDepth 20000 in
theorem ggX7_lighter_X7_less : GoodIn wsX7_lighter wsX7_less := goodIn_app (a := [.code yX7_less cX7_less 8 (some .int)]) ggX7_lighter_X7_less_c (goodIn_app (goodIn_app ggX7_lighter_X7_less_1 (goodIn_app ggX7_lighter_X7_less_2 (goodIn_app ggX7_lighter_X7_less_3 (goodIn_app ggX7_lighter_X7_less_4 ggX7_lighter_X7_less_5)))) ggX7_lighter_X7_less_t)
set_option maxRecDepth 20000 in
theorem gX7_lighter_X7_less : GoodIn wsX7_lighter (wsV RX7 271 RX7 yX7_less wsX7_less) := goodIn_app (goodIn_of _ (by decide +kernel)) ggX7_lighter_X7_less
theorem dX7_lighter_0 : decode cX7_lighter 0 = .ok (.aload_n 0, 1) := by decide +kernel
theorem dX7_lighter_1 : decode cX7_lighter 1 = .ok (.iload_n 1, 1) := by decide +kernel
theorem dX7_lighter_2 : decode cX7_lighter 2 = .ok (.invokevirtual 246, 3) := by decide +kernel
theorem dX7_lighter_5 : decode cX7_lighter 5 = .ok (.ifCond .eq 12, 3) := by decide +kernel
theorem dX7_lighter_8 : decode cX7_lighter 8 = .ok (.aload_n 0, 1) := by decide +kernel
theorem dX7_lighter_9 : decode cX7_lighter 9 = .ok (.iload_n 1, 1) := by decide +kernel
theorem dX7_lighter_10 : decode cX7_lighter 10 = .ok (.iconst 0, 1) := by decide +kernel
theorem dX7_lighter_11 : decode cX7_lighter 11 = .ok (.invokevirtual 271, 3) := by decide +kernel
theorem dX7_lighter_14 : decode cX7_lighter 14 = .ok (.goto 5, 3) := by decide +kernel
theorem dX7_lighter_17 : decode cX7_lighter 17 = .ok (.ldc 89, 2) := by decide +kernel
theorem dX7_lighter_19 : decode cX7_lighter 19 = .ok (.ireturn, 1) := by decide +kernel
set_option maxRecDepth 20000 in
theorem ggX7_shorter_X7_isParcel : GoodIn wsX7_shorter wsX7_isParcel := goodIn_r _ [7, 8, 9, 10, 6, 11, 123, 124, 125, 126, 127, 128, 129, 130, 131, 132, 133, 134, 135, 136, 137, 138, 139, 140, 141] (by decide +kernel) (by decide +kernel)
set_option maxRecDepth 20000 in
theorem gX7_shorter_X7_isParcel : GoodIn wsX7_shorter (wsV RX7 246 RX7 yX7_isParcel wsX7_isParcel) := goodIn_app (goodIn_of _ (by decide +kernel)) ggX7_shorter_X7_isParcel
set_option maxRecDepth 20000 in
theorem ggX7_shorter_X7_in : GoodIn wsX7_shorter wsX7_in := goodIn_r _ [11] (by decide +kernel) (by decide +kernel)
set_option maxRecDepth 20000 in
theorem gX7_shorter_X7_in : GoodIn wsX7_shorter (va_wsS RX7 69 yX7_in wsX7_in) := goodIn_app (goodIn_of _ (by decide +kernel)) ggX7_shorter_X7_in
set_option maxRecDepth 20000 in
theorem ggX7_shorter_X7_less_c : GoodIn wsX7_shorter [.code yX7_less cX7_less 8 (some .int)] := goodIn_r _ [15] (by decide +kernel) (by decide +kernel)
set_option maxRecDepth 20000 in
theorem ggX7_shorter_X7_less_1 : GoodIn wsX7_shorter wsX7_less_r1 := goodIn_r _ [16, 8, 17, 18, 19, 20, 6, 21, 22, 23, 24, 25, 26, 27, 28, 29, 30, 31, 32, 33, 34, 35, 36, 37] (by decide +kernel) (by decide +kernel)
set_option maxRecDepth 20000 in
theorem ggX7_shorter_X7_less_2 : GoodIn wsX7_shorter wsX7_less_r2 := goodIn_r _ [38, 39, 40, 41, 42, 43, 44, 45, 46, 47, 48, 49, 50, 51, 52, 53, 54, 55, 56, 57, 58, 59, 60, 61] (by decide +kernel) (by decide +kernel)
set_option maxRecDepth 20000 in
theorem ggX7_shorter_X7_less_3 : GoodIn wsX7_shorter wsX7_less_r3 := goodIn_r _ [62, 63, 9, 10, 11, 64, 65, 66, 67, 68, 69, 70, 71, 72, 73, 74, 75, 76, 77, 78, 79, 80, 81, 82] (by decide +kernel) (by decide +kernel)
set_option maxRecDepth 20000 in
theorem ggX7_shorter_X7_less_4 : GoodIn wsX7_shorter wsX7_less_r4 := goodIn_r _ [83, 84, 85, 86, 87, 88, 89, 90, 91, 1, 92, 93, 94, 95, 96, 97, 98, 99, 100, 101, 102, 103, 104, 105] (by decide +kernel) (by decide +kernel)
set_option maxRecDepth 20000 in
theorem ggX7_shorter_X7_less_5 : GoodIn wsX7_shorter wsX7_less_r5 := goodIn_r _ [106, 107, 108, 109, 110, 111, 112, 113, 114, 115, 116, 117, 118, 119, 120, 121, 122] (by decide +kernel) (by decide +kernel)
set_option maxRecDepth 20000 in
theorem ggX7_shorter_X7_less_t : GoodIn wsX7_shorter wsX70 := goodIn_r _ [123, 124, 125, 126, 127, 128, 129, 130, 131, 132, 133, 134, 135, 136, 137, 138, 139, 140, 141] (by decide +kernel) (by decide +kernel)
set_option maxRecDepth 20000 in
theorem ggX7_shorter_X7_less : GoodIn wsX7_shorter wsX7_less := goodIn_app (a := [.code yX7_less cX7_less 8 (some .int)]) ggX7_shorter_X7_less_c (goodIn_app (goodIn_app ggX7_shorter_X7_less_1 (goodIn_app ggX7_shorter_X7_less_2 (goodIn_app ggX7_shorter_X7_less_3 (goodIn_app ggX7_shorter_X7_less_4 ggX7_shorter_X7_less_5)))) ggX7_shorter_X7_less_t)
set_option maxRecDepth 20000 in
theorem gX7_shorter_X7_less : GoodIn wsX7_shorter (wsV RX7 271 RX7 yX7_less wsX7_less) := goodIn_app (goodIn_of _ (by decide +kernel)) ggX7_shorter_X7_less
theorem dX7_shorter_0 : decode cX7_shorter 0 = .ok (.aload_n 0, 1) := by decide +kernel
theorem dX7_shorter_1 : decode cX7_shorter 1 = .ok (.iload_n 1, 1) := by decide +kernel
theorem dX7_shorter_2 : decode cX7_shorter 2 = .ok (.invokevirtual 246, 3) := by decide +kernel
theorem dX7_shorter_5 : decode cX7_shorter 5 = .ok (.ifCond .eq 24, 3) := by decide +kernel
theorem dX7_shorter_8 : decode cX7_shorter 8 = .ok (.iload_n 2, 1) := by decide +kernel
theorem dX7_shorter_9 : decode cX7_shorter 9 = .ok (.i2l, 1) := by decide +kernel
theorem dX7_shorter_10 : decode cX7_shorter 10 = .ok (.lconst 1, 1) := by decide +kernel
theorem dX7_shorter_11 : decode cX7_shorter 11 = .ok (.ldc2_w 98, 3) := by decide +kernel
theorem dX7_shorter_14 : decode cX7_shorter 14 = .ok (.invokestatic 69, 3) := by decide +kernel
theorem dX7_shorter_17 : decode cX7_shorter 17 = .ok (.ifCond .eq 12, 3) := by decide +kernel
theorem dX7_shorter_20 : decode cX7_shorter 20 = .ok (.aload_n 0, 1) := by decide +kernel
theorem dX7_shorter_21 : decode cX7_shorter 21 = .ok (.iload_n 1, 1) := by decide +kernel
theorem dX7_shorter_22 : decode cX7_shorter 22 = .ok (.iload_n 2, 1) := by decide +kernel
theorem dX7_shorter_23 : decode cX7_shorter 23 = .ok (.invokevirtual 271, 3) := by decide +kernel
theorem dX7_shorter_26 : decode cX7_shorter 26 = .ok (.goto 5, 3) := by decide +kernel
theorem dX7_shorter_29 : decode cX7_shorter 29 = .ok (.ldc 89, 2) := by decide +kernel
theorem dX7_shorter_31 : decode cX7_shorter 31 = .ok (.ireturn, 1) := by decide +kernel
set_option maxRecDepth 20000 in
theorem ggX7_cheapest_X7_isParcel : GoodIn wsX7_cheapest wsX7_isParcel := goodIn_r _ [8, 3, 9, 10, 7, 11, 110, 111, 112, 113, 114, 115, 116, 117, 118, 119, 120, 121, 122, 123, 124, 125, 126, 127, 128] (by decide +kernel) (by decide +kernel)
set_option maxRecDepth 20000 in
theorem gX7_cheapest_X7_isParcel : GoodIn wsX7_cheapest (wsV RX7 246 RX7 yX7_isParcel wsX7_isParcel) := goodIn_app (goodIn_of _ (by decide +kernel)) ggX7_cheapest_X7_isParcel
set_option maxRecDepth 20000 in
theorem ggX7_cheapest_X7_readsRules_c : GoodIn wsX7_cheapest [.code yX7_readsRules cX7_readsRules 3 none] := goodIn_r _ [15] (by decide +kernel) (by decide +kernel)
set_option maxRecDepth 20000 in
theorem ggX7_cheapest_X7_readsRules_1 : GoodIn wsX7_cheapest wsX7_readsRules_r1 := goodIn_r _ [3, 16, 17, 18, 19, 20, 21, 7, 22, 23, 24, 25, 26, 27, 28, 29, 30, 31, 32, 33, 34, 35, 36, 37] (by decide +kernel) (by decide +kernel)
set_option maxRecDepth 20000 in
theorem ggX7_cheapest_X7_readsRules_2 : GoodIn wsX7_cheapest wsX7_readsRules_r2 := goodIn_r _ [38, 39, 40, 41, 42, 43, 44, 45, 46, 9, 10, 11, 47, 48, 49, 50, 51, 52, 53, 54, 55, 56, 57, 58] (by decide +kernel) (by decide +kernel)
set_option maxRecDepth 20000 in
theorem ggX7_cheapest_X7_readsRules_3 : GoodIn wsX7_cheapest wsX7_readsRules_r3 := goodIn_r _ [59, 60, 61, 62, 63] (by decide +kernel) (by decide +kernel)
set_option maxRecDepth 20000 in
theorem ggX7_cheapest_X7_readsRules_t : GoodIn wsX7_cheapest wsX70 := goodIn_r _ [110, 111, 112, 113, 114, 115, 116, 117, 118, 119, 120, 121, 122, 123, 124, 125, 126, 127, 128] (by decide +kernel) (by decide +kernel)
set_option maxRecDepth 20000 in
theorem ggX7_cheapest_X7_readsRules : GoodIn wsX7_cheapest wsX7_readsRules := goodIn_app (a := [.code yX7_readsRules cX7_readsRules 3 none]) ggX7_cheapest_X7_readsRules_c (goodIn_app (goodIn_app ggX7_cheapest_X7_readsRules_1 (goodIn_app ggX7_cheapest_X7_readsRules_2 ggX7_cheapest_X7_readsRules_3)) ggX7_cheapest_X7_readsRules_t)
set_option maxRecDepth 20000 in
theorem gX7_cheapest_X7_readsRules : GoodIn wsX7_cheapest (wsV RX7 229 RX7 yX7_readsRules wsX7_readsRules) := goodIn_app (goodIn_of _ (by decide +kernel)) ggX7_cheapest_X7_readsRules
set_option maxRecDepth 20000 in
theorem ggX7_cheapest_X7_bands : GoodIn wsX7_cheapest wsX7_bands := goodIn_r _ [67, 3, 110, 111, 112, 113, 114, 115, 116, 117, 118, 119, 120, 121, 122, 123, 124, 125, 126, 127, 128] (by decide +kernel) (by decide +kernel)
set_option maxRecDepth 20000 in
theorem gX7_cheapest_X7_bands : GoodIn wsX7_cheapest (wsV RX7 132 RX7 yX7_bands wsX7_bands) := goodIn_app (goodIn_of _ (by decide +kernel)) ggX7_cheapest_X7_bands
set_option maxRecDepth 20000 in
theorem ggX7_cheapest_X7_parcelAt : GoodIn wsX7_cheapest wsX7_parcelAt := goodIn_r _ [70] (by decide +kernel) (by decide +kernel)
set_option maxRecDepth 20000 in
theorem gX7_cheapest_X7_parcelAt : GoodIn wsX7_cheapest (va_wsS RX7 236 yX7_parcelAt wsX7_parcelAt) := goodIn_app (goodIn_of _ (by decide +kernel)) ggX7_cheapest_X7_parcelAt
set_option maxRecDepth 20000 in
theorem ggX7_cheapest_X7_works_c : GoodIn wsX7_cheapest [.code yX7_works cX7_works 15 (some .long)] := goodIn_r _ [74] (by decide +kernel) (by decide +kernel)
set_option maxRecDepth 20000 in
theorem ggX7_cheapest_X7_works_1 : GoodIn wsX7_cheapest wsX7_works_r1 := goodIn_r _ [75, 76, 3, 77, 78, 79, 28, 29, 80, 81, 82, 7, 83, 84, 85, 86, 87, 88, 89, 90, 91, 92, 64, 65] (by decide +kernel) (by decide +kernel)
set_option maxRecDepth 20000 in
theorem ggX7_cheapest_X7_works_2 : GoodIn wsX7_cheapest wsX7_works_r2 := goodIn_r _ [66, 67, 93, 94, 95, 96, 97, 98, 99, 100, 101, 102, 103, 104, 105, 24, 51, 106, 107, 108, 109] (by decide +kernel) (by decide +kernel)
set_option maxRecDepth 20000 in
theorem ggX7_cheapest_X7_works_t : GoodIn wsX7_cheapest wsX70 := goodIn_r _ [110, 111, 112, 113, 114, 115, 116, 117, 118, 119, 120, 121, 122, 123, 124, 125, 126, 127, 128] (by decide +kernel) (by decide +kernel)
set_option maxRecDepth 20000 in
theorem ggX7_cheapest_X7_works : GoodIn wsX7_cheapest wsX7_works := goodIn_app (a := [.code yX7_works cX7_works 15 (some .long)]) ggX7_cheapest_X7_works_c (goodIn_app (goodIn_app ggX7_cheapest_X7_works_1 ggX7_cheapest_X7_works_2) ggX7_cheapest_X7_works_t)
set_option maxRecDepth 20000 in
theorem gX7_cheapest_X7_works : GoodIn wsX7_cheapest (wsV RX7 232 RX7 yX7_works wsX7_works) := goodIn_app (goodIn_of _ (by decide +kernel)) ggX7_cheapest_X7_works
theorem dX7_cheapest_0 : decode cX7_cheapest 0 = .ok (.aload_n 0, 1) := by decide +kernel
theorem dX7_cheapest_1 : decode cX7_cheapest 1 = .ok (.iload_n 1, 1) := by decide +kernel
theorem dX7_cheapest_2 : decode cX7_cheapest 2 = .ok (.invokevirtual 246, 3) := by decide +kernel
theorem dX7_cheapest_5 : decode cX7_cheapest 5 = .ok (.ifCond .ne 6, 3) := by decide +kernel
theorem dX7_cheapest_8 : decode cX7_cheapest 8 = .ok (.ldc 89, 2) := by decide +kernel
theorem dX7_cheapest_10 : decode cX7_cheapest 10 = .ok (.ireturn, 1) := by decide +kernel
theorem dX7_cheapest_11 : decode cX7_cheapest 11 = .ok (.aload_n 0, 1) := by decide +kernel
theorem dX7_cheapest_12 : decode cX7_cheapest 12 = .ok (.invokevirtual 229, 3) := by decide +kernel
theorem dX7_cheapest_15 : decode cX7_cheapest 15 = .ok (.ldc 239, 2) := by decide +kernel
theorem dX7_cheapest_17 : decode cX7_cheapest 17 = .ok (.istore_n 2, 1) := by decide +kernel
theorem dX7_cheapest_18 : decode cX7_cheapest 18 = .ok (.lconst 0, 1) := by decide +kernel
theorem dX7_cheapest_19 : decode cX7_cheapest 19 = .ok (.lstore_n 3, 1) := by decide +kernel
theorem dX7_cheapest_20 : decode cX7_cheapest 20 = .ok (.iconst 0, 1) := by decide +kernel
theorem dX7_cheapest_21 : decode cX7_cheapest 21 = .ok (.istore 5, 2) := by decide +kernel
theorem dX7_cheapest_23 : decode cX7_cheapest 23 = .ok (.iload 5, 2) := by decide +kernel
theorem dX7_cheapest_25 : decode cX7_cheapest 25 = .ok (.iconst 4, 1) := by decide +kernel
theorem dX7_cheapest_26 : decode cX7_cheapest 26 = .ok (.if_icmp .ge 97, 3) := by decide +kernel
theorem dX7_cheapest_29 : decode cX7_cheapest 29 = .ok (.aload_n 0, 1) := by decide +kernel
theorem dX7_cheapest_30 : decode cX7_cheapest 30 = .ok (.iload 5, 2) := by decide +kernel
theorem dX7_cheapest_32 : decode cX7_cheapest 32 = .ok (.invokevirtual 132, 3) := by decide +kernel
theorem dX7_cheapest_35 : decode cX7_cheapest 35 = .ok (.ifCond .le 82, 3) := by decide +kernel
theorem dX7_cheapest_38 : decode cX7_cheapest 38 = .ok (.aload_n 0, 1) := by decide +kernel
theorem dX7_cheapest_39 : decode cX7_cheapest 39 = .ok (.aload_n 0, 1) := by decide +kernel
theorem dX7_cheapest_40 : decode cX7_cheapest 40 = .ok (.getfield 7, 3) := by decide +kernel
theorem dX7_cheapest_43 : decode cX7_cheapest 43 = .ok (.iload_n 1, 1) := by decide +kernel
theorem dX7_cheapest_44 : decode cX7_cheapest 44 = .ok (.iconst 0, 1) := by decide +kernel
theorem dX7_cheapest_45 : decode cX7_cheapest 45 = .ok (.invokestatic 236, 3) := by decide +kernel
theorem dX7_cheapest_48 : decode cX7_cheapest 48 = .ok (.laload, 1) := by decide +kernel
theorem dX7_cheapest_49 : decode cX7_cheapest 49 = .ok (.aload_n 0, 1) := by decide +kernel
theorem dX7_cheapest_50 : decode cX7_cheapest 50 = .ok (.getfield 7, 3) := by decide +kernel
theorem dX7_cheapest_53 : decode cX7_cheapest 53 = .ok (.iload_n 1, 1) := by decide +kernel
theorem dX7_cheapest_54 : decode cX7_cheapest 54 = .ok (.iconst 1, 1) := by decide +kernel
theorem dX7_cheapest_55 : decode cX7_cheapest 55 = .ok (.invokestatic 236, 3) := by decide +kernel
theorem dX7_cheapest_58 : decode cX7_cheapest 58 = .ok (.laload, 1) := by decide +kernel
theorem dX7_cheapest_59 : decode cX7_cheapest 59 = .ok (.aload_n 0, 1) := by decide +kernel
theorem dX7_cheapest_60 : decode cX7_cheapest 60 = .ok (.getfield 7, 3) := by decide +kernel
theorem dX7_cheapest_63 : decode cX7_cheapest 63 = .ok (.iload_n 1, 1) := by decide +kernel
theorem dX7_cheapest_64 : decode cX7_cheapest 64 = .ok (.iconst 2, 1) := by decide +kernel
theorem dX7_cheapest_65 : decode cX7_cheapest 65 = .ok (.invokestatic 236, 3) := by decide +kernel
theorem dX7_cheapest_68 : decode cX7_cheapest 68 = .ok (.laload, 1) := by decide +kernel
theorem dX7_cheapest_69 : decode cX7_cheapest 69 = .ok (.aload_n 0, 1) := by decide +kernel
theorem dX7_cheapest_70 : decode cX7_cheapest 70 = .ok (.getfield 7, 3) := by decide +kernel
theorem dX7_cheapest_73 : decode cX7_cheapest 73 = .ok (.iload_n 1, 1) := by decide +kernel
theorem dX7_cheapest_74 : decode cX7_cheapest 74 = .ok (.iconst 3, 1) := by decide +kernel
theorem dX7_cheapest_75 : decode cX7_cheapest 75 = .ok (.invokestatic 236, 3) := by decide +kernel
theorem dX7_cheapest_78 : decode cX7_cheapest 78 = .ok (.laload, 1) := by decide +kernel
theorem dX7_cheapest_79 : decode cX7_cheapest 79 = .ok (.iload 5, 2) := by decide +kernel
theorem dX7_cheapest_81 : decode cX7_cheapest 81 = .ok (.invokevirtual 232, 3) := by decide +kernel
theorem dX7_cheapest_84 : decode cX7_cheapest 84 = .ok (.lstore 6, 2) := by decide +kernel
theorem dX7_cheapest_86 : decode cX7_cheapest 86 = .ok (.iload_n 2, 1) := by decide +kernel
theorem dX7_cheapest_87 : decode cX7_cheapest 87 = .ok (.ifCond .lt 10, 3) := by decide +kernel
theorem dX7_cheapest_90 : decode cX7_cheapest 90 = .ok (.lload 6, 2) := by decide +kernel
theorem dX7_cheapest_92 : decode cX7_cheapest 92 = .ok (.lload_n 3, 1) := by decide +kernel
theorem dX7_cheapest_93 : decode cX7_cheapest 93 = .ok (.lcmp, 1) := by decide +kernel
theorem dX7_cheapest_94 : decode cX7_cheapest 94 = .ok (.ifCond .ge 8, 3) := by decide +kernel
theorem dX7_cheapest_97 : decode cX7_cheapest 97 = .ok (.iload 5, 2) := by decide +kernel
theorem dX7_cheapest_99 : decode cX7_cheapest 99 = .ok (.goto 4, 3) := by decide +kernel
theorem dX7_cheapest_102 : decode cX7_cheapest 102 = .ok (.iload_n 2, 1) := by decide +kernel
theorem dX7_cheapest_103 : decode cX7_cheapest 103 = .ok (.istore_n 2, 1) := by decide +kernel
theorem dX7_cheapest_104 : decode cX7_cheapest 104 = .ok (.iload_n 2, 1) := by decide +kernel
theorem dX7_cheapest_105 : decode cX7_cheapest 105 = .ok (.iload 5, 2) := by decide +kernel
theorem dX7_cheapest_107 : decode cX7_cheapest 107 = .ok (.if_icmp .ne 8, 3) := by decide +kernel
theorem dX7_cheapest_110 : decode cX7_cheapest 110 = .ok (.lload 6, 2) := by decide +kernel
theorem dX7_cheapest_112 : decode cX7_cheapest 112 = .ok (.goto 4, 3) := by decide +kernel
theorem dX7_cheapest_115 : decode cX7_cheapest 115 = .ok (.lload_n 3, 1) := by decide +kernel
theorem dX7_cheapest_116 : decode cX7_cheapest 116 = .ok (.lstore_n 3, 1) := by decide +kernel
theorem dX7_cheapest_117 : decode cX7_cheapest 117 = .ok (.iinc 5 1, 3) := by decide +kernel
theorem dX7_cheapest_120 : decode cX7_cheapest 120 = .ok (.goto (-97), 3) := by decide +kernel
theorem dX7_cheapest_123 : decode cX7_cheapest 123 = .ok (.iload_n 2, 1) := by decide +kernel
theorem dX7_cheapest_124 : decode cX7_cheapest 124 = .ok (.ireturn, 1) := by decide +kernel
theorem dX7_undo_0 : decode cX7_undo 0 = .ok (.aload_n 0, 1) := by decide +kernel
theorem dX7_undo_1 : decode cX7_undo 1 = .ok (.getfield 58, 3) := by decide +kernel
theorem dX7_undo_4 : decode cX7_undo 4 = .ok (.ifCond .ne 6, 3) := by decide +kernel
theorem dX7_undo_7 : decode cX7_undo 7 = .ok (.ldc 239, 2) := by decide +kernel
theorem dX7_undo_9 : decode cX7_undo 9 = .ok (.ireturn, 1) := by decide +kernel
theorem dX7_undo_10 : decode cX7_undo 10 = .ok (.aload_n 0, 1) := by decide +kernel
theorem dX7_undo_11 : decode cX7_undo 11 = .ok (.dup, 1) := by decide +kernel
theorem dX7_undo_12 : decode cX7_undo 12 = .ok (.getfield 58, 3) := by decide +kernel
theorem dX7_undo_15 : decode cX7_undo 15 = .ok (.iconst 1, 1) := by decide +kernel
theorem dX7_undo_16 : decode cX7_undo 16 = .ok (.isub, 1) := by decide +kernel
theorem dX7_undo_17 : decode cX7_undo 17 = .ok (.putfield 58, 3) := by decide +kernel
theorem dX7_undo_20 : decode cX7_undo 20 = .ok (.iconst 0, 1) := by decide +kernel
theorem dX7_undo_21 : decode cX7_undo 21 = .ok (.istore_n 1, 1) := by decide +kernel
theorem dX7_undo_22 : decode cX7_undo 22 = .ok (.iload_n 1, 1) := by decide +kernel
theorem dX7_undo_23 : decode cX7_undo 23 = .ok (.sipush 1200, 3) := by decide +kernel
theorem dX7_undo_26 : decode cX7_undo 26 = .ok (.if_icmp .ge 30, 3) := by decide +kernel
theorem dX7_undo_29 : decode cX7_undo 29 = .ok (.aload_n 0, 1) := by decide +kernel
theorem dX7_undo_30 : decode cX7_undo 30 = .ok (.getfield 7, 3) := by decide +kernel
theorem dX7_undo_33 : decode cX7_undo 33 = .ok (.iload_n 1, 1) := by decide +kernel
theorem dX7_undo_34 : decode cX7_undo 34 = .ok (.aload_n 0, 1) := by decide +kernel
theorem dX7_undo_35 : decode cX7_undo 35 = .ok (.getfield 13, 3) := by decide +kernel
theorem dX7_undo_38 : decode cX7_undo 38 = .ok (.sipush 1200, 3) := by decide +kernel
theorem dX7_undo_41 : decode cX7_undo 41 = .ok (.aload_n 0, 1) := by decide +kernel
theorem dX7_undo_42 : decode cX7_undo 42 = .ok (.getfield 58, 3) := by decide +kernel
theorem dX7_undo_45 : decode cX7_undo 45 = .ok (.imul, 1) := by decide +kernel
theorem dX7_undo_46 : decode cX7_undo 46 = .ok (.iload_n 1, 1) := by decide +kernel
theorem dX7_undo_47 : decode cX7_undo 47 = .ok (.iadd, 1) := by decide +kernel
theorem dX7_undo_48 : decode cX7_undo 48 = .ok (.laload, 1) := by decide +kernel
theorem dX7_undo_49 : decode cX7_undo 49 = .ok (.lastore, 1) := by decide +kernel
theorem dX7_undo_50 : decode cX7_undo 50 = .ok (.iinc 1 1, 3) := by decide +kernel
theorem dX7_undo_53 : decode cX7_undo 53 = .ok (.goto (-31), 3) := by decide +kernel
theorem dX7_undo_56 : decode cX7_undo 56 = .ok (.aload_n 0, 1) := by decide +kernel
theorem dX7_undo_57 : decode cX7_undo 57 = .ok (.getfield 58, 3) := by decide +kernel
theorem dX7_undo_60 : decode cX7_undo 60 = .ok (.ireturn, 1) := by decide +kernel
set_option maxRecDepth 20000 in
theorem ggX7_fingerprint_X7_scaleOf : GoodIn wsX7_fingerprint wsX7_scaleOf := goodIn_r _ [9, 3, 10, 11, 12, 8, 13, 14, 15, 16, 17, 18, 19, 20, 21, 22, 23, 24, 25, 26, 27, 28, 29, 30, 31, 67, 68, 69, 70, 71, 72, 73, 74, 75, 76, 77, 78, 79, 80, 81, 82, 83, 84, 85] (by decide +kernel) (by decide +kernel)
set_option maxRecDepth 20000 in
theorem gX7_fingerprint_X7_scaleOf : GoodIn wsX7_fingerprint (wsV RX7 124 RX7 yX7_scaleOf wsX7_scaleOf) := goodIn_app (goodIn_of _ (by decide +kernel)) ggX7_fingerprint_X7_scaleOf
set_option maxRecDepth 20000 in
theorem ggX7_fingerprint_X7_bands : GoodIn wsX7_fingerprint wsX7_bands := goodIn_r _ [35, 3, 67, 68, 69, 70, 71, 72, 73, 74, 75, 76, 77, 78, 79, 80, 81, 82, 83, 84, 85] (by decide +kernel) (by decide +kernel)
set_option maxRecDepth 20000 in
theorem gX7_fingerprint_X7_bands : GoodIn wsX7_fingerprint (wsV RX7 132 RX7 yX7_bands wsX7_bands) := goodIn_app (goodIn_of _ (by decide +kernel)) ggX7_fingerprint_X7_bands
set_option maxRecDepth 20000 in
theorem ggX7_fingerprint_X7_placeOf : GoodIn wsX7_fingerprint wsX7_placeOf := goodIn_r _ [38] (by decide +kernel) (by decide +kernel)
set_option maxRecDepth 20000 in
theorem gX7_fingerprint_X7_placeOf : GoodIn wsX7_fingerprint (va_wsS RX7 136 yX7_placeOf wsX7_placeOf) := goodIn_app (goodIn_of _ (by decide +kernel)) ggX7_fingerprint_X7_placeOf
set_option maxRecDepth 20000 in
theorem ggX7_fingerprint_X7_told : GoodIn wsX7_fingerprint wsX7_told := goodIn_r _ [42, 3, 43, 44, 8, 45, 46, 47, 48, 22, 49, 50, 51, 52, 53, 54, 55, 4, 56, 57, 58, 67, 68, 69, 70, 71, 72, 73, 74, 75, 76, 77, 78, 79, 80, 81, 82, 83, 84, 85] (by decide +kernel) (by decide +kernel)
set_option maxRecDepth 20000 in
theorem gX7_fingerprint_X7_told : GoodIn wsX7_fingerprint (wsV RX7 249 RX7 yX7_told wsX7_told) := goodIn_app (goodIn_of _ (by decide +kernel)) ggX7_fingerprint_X7_told
set_option maxRecDepth 20000 in
theorem ggX7_fingerprint_X7_reason : GoodIn wsX7_fingerprint wsX7_reason := goodIn_r _ [62, 3, 4, 43, 44, 8, 45, 67, 68, 69, 70, 71, 72, 73, 74, 75, 76, 77, 78, 79, 80, 81, 82, 83, 84, 85] (by decide +kernel) (by decide +kernel)
set_option maxRecDepth 20000 in
theorem gX7_fingerprint_X7_reason : GoodIn wsX7_fingerprint (wsV RX7 253 RX7 yX7_reason wsX7_reason) := goodIn_app (goodIn_of _ (by decide +kernel)) ggX7_fingerprint_X7_reason
set_option maxRecDepth 20000 in
theorem ggX7_fingerprint_X7_noteAt : GoodIn wsX7_fingerprint wsX7_noteAt := goodIn_r _ [58] (by decide +kernel) (by decide +kernel)
set_option maxRecDepth 20000 in
theorem gX7_fingerprint_X7_noteAt : GoodIn wsX7_fingerprint (va_wsS RX7 240 yX7_noteAt wsX7_noteAt) := goodIn_app (goodIn_of _ (by decide +kernel)) ggX7_fingerprint_X7_noteAt
set_option maxRecDepth 20000 in
theorem ggX7_fingerprint_X7_sumOf : GoodIn wsX7_fingerprint wsX7_sumOf := goodIn_r _ [66, 3, 22, 43, 44, 8, 45, 67, 68, 69, 70, 71, 72, 73, 74, 75, 76, 77, 78, 79, 80, 81, 82, 83, 84, 85] (by decide +kernel) (by decide +kernel)
set_option maxRecDepth 20000 in
theorem gX7_fingerprint_X7_sumOf : GoodIn wsX7_fingerprint (wsV RX7 266 RX7 yX7_sumOf wsX7_sumOf) := goodIn_app (goodIn_of _ (by decide +kernel)) ggX7_fingerprint_X7_sumOf
theorem dX7_fingerprint_0 : decode cX7_fingerprint 0 = .ok (.ldc2_w 274, 3) := by decide +kernel
theorem dX7_fingerprint_3 : decode cX7_fingerprint 3 = .ok (.lstore_n 1, 1) := by decide +kernel
theorem dX7_fingerprint_4 : decode cX7_fingerprint 4 = .ok (.iconst 0, 1) := by decide +kernel
theorem dX7_fingerprint_5 : decode cX7_fingerprint 5 = .ok (.istore_n 3, 1) := by decide +kernel
theorem dX7_fingerprint_6 : decode cX7_fingerprint 6 = .ok (.iload_n 3, 1) := by decide +kernel
theorem dX7_fingerprint_7 : decode cX7_fingerprint 7 = .ok (.bipush 8, 2) := by decide +kernel
theorem dX7_fingerprint_9 : decode cX7_fingerprint 9 = .ok (.if_icmp .ge 22, 3) := by decide +kernel
theorem dX7_fingerprint_12 : decode cX7_fingerprint 12 = .ok (.ldc2_w 276, 3) := by decide +kernel
theorem dX7_fingerprint_15 : decode cX7_fingerprint 15 = .ok (.lload_n 1, 1) := by decide +kernel
theorem dX7_fingerprint_16 : decode cX7_fingerprint 16 = .ok (.lmul, 1) := by decide +kernel
theorem dX7_fingerprint_17 : decode cX7_fingerprint 17 = .ok (.aload_n 0, 1) := by decide +kernel
theorem dX7_fingerprint_18 : decode cX7_fingerprint 18 = .ok (.getfield 7, 3) := by decide +kernel
theorem dX7_fingerprint_21 : decode cX7_fingerprint 21 = .ok (.iload_n 3, 1) := by decide +kernel
theorem dX7_fingerprint_22 : decode cX7_fingerprint 22 = .ok (.laload, 1) := by decide +kernel
theorem dX7_fingerprint_23 : decode cX7_fingerprint 23 = .ok (.ladd, 1) := by decide +kernel
theorem dX7_fingerprint_24 : decode cX7_fingerprint 24 = .ok (.lstore_n 1, 1) := by decide +kernel
theorem dX7_fingerprint_25 : decode cX7_fingerprint 25 = .ok (.iinc 3 1, 3) := by decide +kernel
theorem dX7_fingerprint_28 : decode cX7_fingerprint 28 = .ok (.goto (-22), 3) := by decide +kernel
theorem dX7_fingerprint_31 : decode cX7_fingerprint 31 = .ok (.iconst 0, 1) := by decide +kernel
theorem dX7_fingerprint_32 : decode cX7_fingerprint 32 = .ok (.istore_n 3, 1) := by decide +kernel
theorem dX7_fingerprint_33 : decode cX7_fingerprint 33 = .ok (.iload_n 3, 1) := by decide +kernel
theorem dX7_fingerprint_34 : decode cX7_fingerprint 34 = .ok (.bipush 11, 2) := by decide +kernel
theorem dX7_fingerprint_36 : decode cX7_fingerprint 36 = .ok (.if_icmp .ge 21, 3) := by decide +kernel
theorem dX7_fingerprint_39 : decode cX7_fingerprint 39 = .ok (.ldc2_w 276, 3) := by decide +kernel
theorem dX7_fingerprint_42 : decode cX7_fingerprint 42 = .ok (.lload_n 1, 1) := by decide +kernel
theorem dX7_fingerprint_43 : decode cX7_fingerprint 43 = .ok (.lmul, 1) := by decide +kernel
theorem dX7_fingerprint_44 : decode cX7_fingerprint 44 = .ok (.aload_n 0, 1) := by decide +kernel
theorem dX7_fingerprint_45 : decode cX7_fingerprint 45 = .ok (.iload_n 3, 1) := by decide +kernel
theorem dX7_fingerprint_46 : decode cX7_fingerprint 46 = .ok (.invokevirtual 124, 3) := by decide +kernel
theorem dX7_fingerprint_49 : decode cX7_fingerprint 49 = .ok (.ladd, 1) := by decide +kernel
theorem dX7_fingerprint_50 : decode cX7_fingerprint 50 = .ok (.lstore_n 1, 1) := by decide +kernel
theorem dX7_fingerprint_51 : decode cX7_fingerprint 51 = .ok (.iinc 3 1, 3) := by decide +kernel
theorem dX7_fingerprint_54 : decode cX7_fingerprint 54 = .ok (.goto (-21), 3) := by decide +kernel
theorem dX7_fingerprint_57 : decode cX7_fingerprint 57 = .ok (.iconst 0, 1) := by decide +kernel
theorem dX7_fingerprint_58 : decode cX7_fingerprint 58 = .ok (.istore_n 3, 1) := by decide +kernel
theorem dX7_fingerprint_59 : decode cX7_fingerprint 59 = .ok (.iload_n 3, 1) := by decide +kernel
theorem dX7_fingerprint_60 : decode cX7_fingerprint 60 = .ok (.iconst 4, 1) := by decide +kernel
theorem dX7_fingerprint_61 : decode cX7_fingerprint 61 = .ok (.if_icmp .ge 84, 3) := by decide +kernel
theorem dX7_fingerprint_64 : decode cX7_fingerprint 64 = .ok (.ldc2_w 276, 3) := by decide +kernel
theorem dX7_fingerprint_67 : decode cX7_fingerprint 67 = .ok (.lload_n 1, 1) := by decide +kernel
theorem dX7_fingerprint_68 : decode cX7_fingerprint 68 = .ok (.lmul, 1) := by decide +kernel
theorem dX7_fingerprint_69 : decode cX7_fingerprint 69 = .ok (.aload_n 0, 1) := by decide +kernel
theorem dX7_fingerprint_70 : decode cX7_fingerprint 70 = .ok (.iload_n 3, 1) := by decide +kernel
theorem dX7_fingerprint_71 : decode cX7_fingerprint 71 = .ok (.invokevirtual 132, 3) := by decide +kernel
theorem dX7_fingerprint_74 : decode cX7_fingerprint 74 = .ok (.i2l, 1) := by decide +kernel
theorem dX7_fingerprint_75 : decode cX7_fingerprint 75 = .ok (.ladd, 1) := by decide +kernel
theorem dX7_fingerprint_76 : decode cX7_fingerprint 76 = .ok (.lstore_n 1, 1) := by decide +kernel
theorem dX7_fingerprint_77 : decode cX7_fingerprint 77 = .ok (.iconst 0, 1) := by decide +kernel
theorem dX7_fingerprint_78 : decode cX7_fingerprint 78 = .ok (.istore 4, 2) := by decide +kernel
theorem dX7_fingerprint_80 : decode cX7_fingerprint 80 = .ok (.iload 4, 2) := by decide +kernel
theorem dX7_fingerprint_82 : decode cX7_fingerprint 82 = .ok (.iconst 2, 1) := by decide +kernel
theorem dX7_fingerprint_83 : decode cX7_fingerprint 83 = .ok (.aload_n 0, 1) := by decide +kernel
theorem dX7_fingerprint_84 : decode cX7_fingerprint 84 = .ok (.iload_n 3, 1) := by decide +kernel
theorem dX7_fingerprint_85 : decode cX7_fingerprint 85 = .ok (.invokevirtual 132, 3) := by decide +kernel
theorem dX7_fingerprint_88 : decode cX7_fingerprint 88 = .ok (.imul, 1) := by decide +kernel
theorem dX7_fingerprint_89 : decode cX7_fingerprint 89 = .ok (.if_icmp .ge 29, 3) := by decide +kernel
theorem dX7_fingerprint_92 : decode cX7_fingerprint 92 = .ok (.ldc2_w 276, 3) := by decide +kernel
theorem dX7_fingerprint_95 : decode cX7_fingerprint 95 = .ok (.lload_n 1, 1) := by decide +kernel
theorem dX7_fingerprint_96 : decode cX7_fingerprint 96 = .ok (.lmul, 1) := by decide +kernel
theorem dX7_fingerprint_97 : decode cX7_fingerprint 97 = .ok (.aload_n 0, 1) := by decide +kernel
theorem dX7_fingerprint_98 : decode cX7_fingerprint 98 = .ok (.getfield 7, 3) := by decide +kernel
theorem dX7_fingerprint_101 : decode cX7_fingerprint 101 = .ok (.iload_n 3, 1) := by decide +kernel
theorem dX7_fingerprint_102 : decode cX7_fingerprint 102 = .ok (.iconst 0, 1) := by decide +kernel
theorem dX7_fingerprint_103 : decode cX7_fingerprint 103 = .ok (.invokestatic 136, 3) := by decide +kernel
theorem dX7_fingerprint_106 : decode cX7_fingerprint 106 = .ok (.iload 4, 2) := by decide +kernel
theorem dX7_fingerprint_108 : decode cX7_fingerprint 108 = .ok (.iadd, 1) := by decide +kernel
theorem dX7_fingerprint_109 : decode cX7_fingerprint 109 = .ok (.laload, 1) := by decide +kernel
theorem dX7_fingerprint_110 : decode cX7_fingerprint 110 = .ok (.ladd, 1) := by decide +kernel
theorem dX7_fingerprint_111 : decode cX7_fingerprint 111 = .ok (.lstore_n 1, 1) := by decide +kernel
theorem dX7_fingerprint_112 : decode cX7_fingerprint 112 = .ok (.iinc 4 1, 3) := by decide +kernel
theorem dX7_fingerprint_115 : decode cX7_fingerprint 115 = .ok (.goto (-35), 3) := by decide +kernel
theorem dX7_fingerprint_118 : decode cX7_fingerprint 118 = .ok (.ldc2_w 276, 3) := by decide +kernel
theorem dX7_fingerprint_121 : decode cX7_fingerprint 121 = .ok (.lload_n 1, 1) := by decide +kernel
theorem dX7_fingerprint_122 : decode cX7_fingerprint 122 = .ok (.lmul, 1) := by decide +kernel
theorem dX7_fingerprint_123 : decode cX7_fingerprint 123 = .ok (.aload_n 0, 1) := by decide +kernel
theorem dX7_fingerprint_124 : decode cX7_fingerprint 124 = .ok (.getfield 7, 3) := by decide +kernel
theorem dX7_fingerprint_127 : decode cX7_fingerprint 127 = .ok (.bipush 24, 2) := by decide +kernel
theorem dX7_fingerprint_129 : decode cX7_fingerprint 129 = .ok (.bipush 14, 2) := by decide +kernel
theorem dX7_fingerprint_131 : decode cX7_fingerprint 131 = .ok (.iload_n 3, 1) := by decide +kernel
theorem dX7_fingerprint_132 : decode cX7_fingerprint 132 = .ok (.imul, 1) := by decide +kernel
theorem dX7_fingerprint_133 : decode cX7_fingerprint 133 = .ok (.iadd, 1) := by decide +kernel
theorem dX7_fingerprint_134 : decode cX7_fingerprint 134 = .ok (.iconst 1, 1) := by decide +kernel
theorem dX7_fingerprint_135 : decode cX7_fingerprint 135 = .ok (.iadd, 1) := by decide +kernel
theorem dX7_fingerprint_136 : decode cX7_fingerprint 136 = .ok (.laload, 1) := by decide +kernel
theorem dX7_fingerprint_137 : decode cX7_fingerprint 137 = .ok (.ladd, 1) := by decide +kernel
theorem dX7_fingerprint_138 : decode cX7_fingerprint 138 = .ok (.lstore_n 1, 1) := by decide +kernel
theorem dX7_fingerprint_139 : decode cX7_fingerprint 139 = .ok (.iinc 3 1, 3) := by decide +kernel
theorem dX7_fingerprint_142 : decode cX7_fingerprint 142 = .ok (.goto (-83), 3) := by decide +kernel
theorem dX7_fingerprint_145 : decode cX7_fingerprint 145 = .ok (.ldc2_w 276, 3) := by decide +kernel
theorem dX7_fingerprint_148 : decode cX7_fingerprint 148 = .ok (.ldc2_w 276, 3) := by decide +kernel
theorem dX7_fingerprint_151 : decode cX7_fingerprint 151 = .ok (.lload_n 1, 1) := by decide +kernel
theorem dX7_fingerprint_152 : decode cX7_fingerprint 152 = .ok (.lmul, 1) := by decide +kernel
theorem dX7_fingerprint_153 : decode cX7_fingerprint 153 = .ok (.aload_n 0, 1) := by decide +kernel
theorem dX7_fingerprint_154 : decode cX7_fingerprint 154 = .ok (.getfield 7, 3) := by decide +kernel
theorem dX7_fingerprint_157 : decode cX7_fingerprint 157 = .ok (.bipush 18, 2) := by decide +kernel
theorem dX7_fingerprint_159 : decode cX7_fingerprint 159 = .ok (.laload, 1) := by decide +kernel
theorem dX7_fingerprint_160 : decode cX7_fingerprint 160 = .ok (.ladd, 1) := by decide +kernel
theorem dX7_fingerprint_161 : decode cX7_fingerprint 161 = .ok (.lmul, 1) := by decide +kernel
theorem dX7_fingerprint_162 : decode cX7_fingerprint 162 = .ok (.aload_n 0, 1) := by decide +kernel
theorem dX7_fingerprint_163 : decode cX7_fingerprint 163 = .ok (.getfield 7, 3) := by decide +kernel
theorem dX7_fingerprint_166 : decode cX7_fingerprint 166 = .ok (.bipush 19, 2) := by decide +kernel
theorem dX7_fingerprint_168 : decode cX7_fingerprint 168 = .ok (.laload, 1) := by decide +kernel
theorem dX7_fingerprint_169 : decode cX7_fingerprint 169 = .ok (.ladd, 1) := by decide +kernel
theorem dX7_fingerprint_170 : decode cX7_fingerprint 170 = .ok (.lstore_n 1, 1) := by decide +kernel
theorem dX7_fingerprint_171 : decode cX7_fingerprint 171 = .ok (.iconst 0, 1) := by decide +kernel
theorem dX7_fingerprint_172 : decode cX7_fingerprint 172 = .ok (.istore_n 3, 1) := by decide +kernel
theorem dX7_fingerprint_173 : decode cX7_fingerprint 173 = .ok (.iload_n 3, 1) := by decide +kernel
theorem dX7_fingerprint_174 : decode cX7_fingerprint 174 = .ok (.i2l, 1) := by decide +kernel
theorem dX7_fingerprint_175 : decode cX7_fingerprint 175 = .ok (.aload_n 0, 1) := by decide +kernel
theorem dX7_fingerprint_176 : decode cX7_fingerprint 176 = .ok (.getfield 7, 3) := by decide +kernel
theorem dX7_fingerprint_179 : decode cX7_fingerprint 179 = .ok (.bipush 19, 2) := by decide +kernel
theorem dX7_fingerprint_181 : decode cX7_fingerprint 181 = .ok (.laload, 1) := by decide +kernel
theorem dX7_fingerprint_182 : decode cX7_fingerprint 182 = .ok (.lcmp, 1) := by decide +kernel
theorem dX7_fingerprint_183 : decode cX7_fingerprint 183 = .ok (.ifCond .ge 75, 3) := by decide +kernel
theorem dX7_fingerprint_186 : decode cX7_fingerprint 186 = .ok (.iconst 0, 1) := by decide +kernel
theorem dX7_fingerprint_187 : decode cX7_fingerprint 187 = .ok (.istore 4, 2) := by decide +kernel
theorem dX7_fingerprint_189 : decode cX7_fingerprint 189 = .ok (.iload 4, 2) := by decide +kernel
theorem dX7_fingerprint_191 : decode cX7_fingerprint 191 = .ok (.bipush 11, 2) := by decide +kernel
theorem dX7_fingerprint_193 : decode cX7_fingerprint 193 = .ok (.if_icmp .ge 23, 3) := by decide +kernel
theorem dX7_fingerprint_196 : decode cX7_fingerprint 196 = .ok (.ldc2_w 276, 3) := by decide +kernel
theorem dX7_fingerprint_199 : decode cX7_fingerprint 199 = .ok (.lload_n 1, 1) := by decide +kernel
theorem dX7_fingerprint_200 : decode cX7_fingerprint 200 = .ok (.lmul, 1) := by decide +kernel
theorem dX7_fingerprint_201 : decode cX7_fingerprint 201 = .ok (.aload_n 0, 1) := by decide +kernel
theorem dX7_fingerprint_202 : decode cX7_fingerprint 202 = .ok (.iload_n 3, 1) := by decide +kernel
theorem dX7_fingerprint_203 : decode cX7_fingerprint 203 = .ok (.iload 4, 2) := by decide +kernel
theorem dX7_fingerprint_205 : decode cX7_fingerprint 205 = .ok (.invokevirtual 249, 3) := by decide +kernel
theorem dX7_fingerprint_208 : decode cX7_fingerprint 208 = .ok (.ladd, 1) := by decide +kernel
theorem dX7_fingerprint_209 : decode cX7_fingerprint 209 = .ok (.lstore_n 1, 1) := by decide +kernel
theorem dX7_fingerprint_210 : decode cX7_fingerprint 210 = .ok (.iinc 4 1, 3) := by decide +kernel
theorem dX7_fingerprint_213 : decode cX7_fingerprint 213 = .ok (.goto (-24), 3) := by decide +kernel
theorem dX7_fingerprint_216 : decode cX7_fingerprint 216 = .ok (.iconst 0, 1) := by decide +kernel
theorem dX7_fingerprint_217 : decode cX7_fingerprint 217 = .ok (.istore 4, 2) := by decide +kernel
theorem dX7_fingerprint_219 : decode cX7_fingerprint 219 = .ok (.aload_n 0, 1) := by decide +kernel
theorem dX7_fingerprint_220 : decode cX7_fingerprint 220 = .ok (.iload_n 3, 1) := by decide +kernel
theorem dX7_fingerprint_221 : decode cX7_fingerprint 221 = .ok (.iload 4, 2) := by decide +kernel
theorem dX7_fingerprint_223 : decode cX7_fingerprint 223 = .ok (.invokevirtual 253, 3) := by decide +kernel
theorem dX7_fingerprint_226 : decode cX7_fingerprint 226 = .ok (.ldc 239, 2) := by decide +kernel
theorem dX7_fingerprint_228 : decode cX7_fingerprint 228 = .ok (.if_icmp .eq 24, 3) := by decide +kernel
theorem dX7_fingerprint_231 : decode cX7_fingerprint 231 = .ok (.ldc2_w 276, 3) := by decide +kernel
theorem dX7_fingerprint_234 : decode cX7_fingerprint 234 = .ok (.lload_n 1, 1) := by decide +kernel
theorem dX7_fingerprint_235 : decode cX7_fingerprint 235 = .ok (.lmul, 1) := by decide +kernel
theorem dX7_fingerprint_236 : decode cX7_fingerprint 236 = .ok (.aload_n 0, 1) := by decide +kernel
theorem dX7_fingerprint_237 : decode cX7_fingerprint 237 = .ok (.iload_n 3, 1) := by decide +kernel
theorem dX7_fingerprint_238 : decode cX7_fingerprint 238 = .ok (.iload 4, 2) := by decide +kernel
theorem dX7_fingerprint_240 : decode cX7_fingerprint 240 = .ok (.invokevirtual 253, 3) := by decide +kernel
theorem dX7_fingerprint_243 : decode cX7_fingerprint 243 = .ok (.i2l, 1) := by decide +kernel
theorem dX7_fingerprint_244 : decode cX7_fingerprint 244 = .ok (.ladd, 1) := by decide +kernel
theorem dX7_fingerprint_245 : decode cX7_fingerprint 245 = .ok (.lstore_n 1, 1) := by decide +kernel
theorem dX7_fingerprint_246 : decode cX7_fingerprint 246 = .ok (.iinc 4 1, 3) := by decide +kernel
theorem dX7_fingerprint_249 : decode cX7_fingerprint 249 = .ok (.goto (-30), 3) := by decide +kernel
theorem dX7_fingerprint_252 : decode cX7_fingerprint 252 = .ok (.iinc 3 1, 3) := by decide +kernel
theorem dX7_fingerprint_255 : decode cX7_fingerprint 255 = .ok (.goto (-82), 3) := by decide +kernel
theorem dX7_fingerprint_258 : decode cX7_fingerprint 258 = .ok (.ldc2_w 276, 3) := by decide +kernel
theorem dX7_fingerprint_261 : decode cX7_fingerprint 261 = .ok (.lload_n 1, 1) := by decide +kernel
theorem dX7_fingerprint_262 : decode cX7_fingerprint 262 = .ok (.lmul, 1) := by decide +kernel
theorem dX7_fingerprint_263 : decode cX7_fingerprint 263 = .ok (.aload_n 0, 1) := by decide +kernel
theorem dX7_fingerprint_264 : decode cX7_fingerprint 264 = .ok (.getfield 7, 3) := by decide +kernel
theorem dX7_fingerprint_267 : decode cX7_fingerprint 267 = .ok (.bipush 20, 2) := by decide +kernel
theorem dX7_fingerprint_269 : decode cX7_fingerprint 269 = .ok (.laload, 1) := by decide +kernel
theorem dX7_fingerprint_270 : decode cX7_fingerprint 270 = .ok (.ladd, 1) := by decide +kernel
theorem dX7_fingerprint_271 : decode cX7_fingerprint 271 = .ok (.lstore_n 1, 1) := by decide +kernel
theorem dX7_fingerprint_272 : decode cX7_fingerprint 272 = .ok (.iconst 0, 1) := by decide +kernel
theorem dX7_fingerprint_273 : decode cX7_fingerprint 273 = .ok (.istore_n 3, 1) := by decide +kernel
theorem dX7_fingerprint_274 : decode cX7_fingerprint 274 = .ok (.iload_n 3, 1) := by decide +kernel
theorem dX7_fingerprint_275 : decode cX7_fingerprint 275 = .ok (.i2l, 1) := by decide +kernel
theorem dX7_fingerprint_276 : decode cX7_fingerprint 276 = .ok (.aload_n 0, 1) := by decide +kernel
theorem dX7_fingerprint_277 : decode cX7_fingerprint 277 = .ok (.getfield 7, 3) := by decide +kernel
theorem dX7_fingerprint_280 : decode cX7_fingerprint 280 = .ok (.bipush 20, 2) := by decide +kernel
theorem dX7_fingerprint_282 : decode cX7_fingerprint 282 = .ok (.laload, 1) := by decide +kernel
theorem dX7_fingerprint_283 : decode cX7_fingerprint 283 = .ok (.lcmp, 1) := by decide +kernel
theorem dX7_fingerprint_284 : decode cX7_fingerprint 284 = .ok (.ifCond .ge 43, 3) := by decide +kernel
theorem dX7_fingerprint_287 : decode cX7_fingerprint 287 = .ok (.iconst 0, 1) := by decide +kernel
theorem dX7_fingerprint_288 : decode cX7_fingerprint 288 = .ok (.istore 4, 2) := by decide +kernel
theorem dX7_fingerprint_290 : decode cX7_fingerprint 290 = .ok (.iload 4, 2) := by decide +kernel
theorem dX7_fingerprint_292 : decode cX7_fingerprint 292 = .ok (.bipush 6, 2) := by decide +kernel
theorem dX7_fingerprint_294 : decode cX7_fingerprint 294 = .ok (.if_icmp .ge 27, 3) := by decide +kernel
theorem dX7_fingerprint_297 : decode cX7_fingerprint 297 = .ok (.ldc2_w 276, 3) := by decide +kernel
theorem dX7_fingerprint_300 : decode cX7_fingerprint 300 = .ok (.lload_n 1, 1) := by decide +kernel
theorem dX7_fingerprint_301 : decode cX7_fingerprint 301 = .ok (.lmul, 1) := by decide +kernel
theorem dX7_fingerprint_302 : decode cX7_fingerprint 302 = .ok (.aload_n 0, 1) := by decide +kernel
theorem dX7_fingerprint_303 : decode cX7_fingerprint 303 = .ok (.getfield 7, 3) := by decide +kernel
theorem dX7_fingerprint_306 : decode cX7_fingerprint 306 = .ok (.iload_n 3, 1) := by decide +kernel
theorem dX7_fingerprint_307 : decode cX7_fingerprint 307 = .ok (.iload 4, 2) := by decide +kernel
theorem dX7_fingerprint_309 : decode cX7_fingerprint 309 = .ok (.invokestatic 240, 3) := by decide +kernel
theorem dX7_fingerprint_312 : decode cX7_fingerprint 312 = .ok (.laload, 1) := by decide +kernel
theorem dX7_fingerprint_313 : decode cX7_fingerprint 313 = .ok (.ladd, 1) := by decide +kernel
theorem dX7_fingerprint_314 : decode cX7_fingerprint 314 = .ok (.lstore_n 1, 1) := by decide +kernel
theorem dX7_fingerprint_315 : decode cX7_fingerprint 315 = .ok (.iinc 4 1, 3) := by decide +kernel
theorem dX7_fingerprint_318 : decode cX7_fingerprint 318 = .ok (.goto (-28), 3) := by decide +kernel
theorem dX7_fingerprint_321 : decode cX7_fingerprint 321 = .ok (.iinc 3 1, 3) := by decide +kernel
theorem dX7_fingerprint_324 : decode cX7_fingerprint 324 = .ok (.goto (-50), 3) := by decide +kernel
theorem dX7_fingerprint_327 : decode cX7_fingerprint 327 = .ok (.iconst 0, 1) := by decide +kernel
theorem dX7_fingerprint_328 : decode cX7_fingerprint 328 = .ok (.istore_n 3, 1) := by decide +kernel
theorem dX7_fingerprint_329 : decode cX7_fingerprint 329 = .ok (.iload_n 3, 1) := by decide +kernel
theorem dX7_fingerprint_330 : decode cX7_fingerprint 330 = .ok (.iconst 5, 1) := by decide +kernel
theorem dX7_fingerprint_331 : decode cX7_fingerprint 331 = .ok (.if_icmp .ge 21, 3) := by decide +kernel
theorem dX7_fingerprint_334 : decode cX7_fingerprint 334 = .ok (.ldc2_w 276, 3) := by decide +kernel
theorem dX7_fingerprint_337 : decode cX7_fingerprint 337 = .ok (.lload_n 1, 1) := by decide +kernel
theorem dX7_fingerprint_338 : decode cX7_fingerprint 338 = .ok (.lmul, 1) := by decide +kernel
theorem dX7_fingerprint_339 : decode cX7_fingerprint 339 = .ok (.aload_n 0, 1) := by decide +kernel
theorem dX7_fingerprint_340 : decode cX7_fingerprint 340 = .ok (.iload_n 3, 1) := by decide +kernel
theorem dX7_fingerprint_341 : decode cX7_fingerprint 341 = .ok (.invokevirtual 266, 3) := by decide +kernel
theorem dX7_fingerprint_344 : decode cX7_fingerprint 344 = .ok (.ladd, 1) := by decide +kernel
theorem dX7_fingerprint_345 : decode cX7_fingerprint 345 = .ok (.lstore_n 1, 1) := by decide +kernel
theorem dX7_fingerprint_346 : decode cX7_fingerprint 346 = .ok (.iinc 3 1, 3) := by decide +kernel
theorem dX7_fingerprint_349 : decode cX7_fingerprint 349 = .ok (.goto (-20), 3) := by decide +kernel
theorem dX7_fingerprint_352 : decode cX7_fingerprint 352 = .ok (.lload_n 1, 1) := by decide +kernel
theorem dX7_fingerprint_353 : decode cX7_fingerprint 353 = .ok (.lreturn, 1) := by decide +kernel


