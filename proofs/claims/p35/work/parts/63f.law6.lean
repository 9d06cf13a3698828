theorem dL_law_0 : decode cL_law 0 = .ok (.new 10, 3) := by decide +kernel
theorem dL_law_3 : decode cL_law 3 = .ok (.dup, 1) := by decide +kernel
theorem dL_law_4 : decode cL_law 4 = .ok (.invokespecial 115, 3) := by decide +kernel
theorem dL_law_7 : decode cL_law 7 = .ok (.astore_n 1, 1) := by decide +kernel
theorem dL_law_8 : decode cL_law 8 = .ok (.aload_n 1, 1) := by decide +kernel
theorem dL_law_9 : decode cL_law 9 = .ok (.invokevirtual 116, 3) := by decide +kernel
theorem dL_law_12 : decode cL_law 12 = .ok (.ldc 99, 2) := by decide +kernel
theorem dL_law_14 : decode cL_law 14 = .ok (.if_icmp .ne 104, 3) := by decide +kernel
theorem dL_law_17 : decode cL_law 17 = .ok (.aload_n 1, 1) := by decide +kernel
theorem dL_law_18 : decode cL_law 18 = .ok (.invokevirtual 119, 3) := by decide +kernel
theorem dL_law_21 : decode cL_law 21 = .ok (.ifCond .ne 97, 3) := by decide +kernel
theorem dL_law_24 : decode cL_law 24 = .ok (.aload_n 1, 1) := by decide +kernel
theorem dL_law_25 : decode cL_law 25 = .ok (.invokevirtual 122, 3) := by decide +kernel
theorem dL_law_28 : decode cL_law 28 = .ok (.ifCond .ne 90, 3) := by decide +kernel
theorem dL_law_31 : decode cL_law 31 = .ok (.aload_n 1, 1) := by decide +kernel
theorem dL_law_32 : decode cL_law 32 = .ok (.invokevirtual 125, 3) := by decide +kernel
theorem dL_law_35 : decode cL_law 35 = .ok (.ifCond .ne 83, 3) := by decide +kernel
theorem dL_law_38 : decode cL_law 38 = .ok (.aload_n 1, 1) := by decide +kernel
theorem dL_law_39 : decode cL_law 39 = .ok (.iconst 2, 1) := by decide +kernel
theorem dL_law_40 : decode cL_law 40 = .ok (.invokevirtual 33, 3) := by decide +kernel
theorem dL_law_43 : decode cL_law 43 = .ok (.ifCond .ne 75, 3) := by decide +kernel
theorem dL_law_46 : decode cL_law 46 = .ok (.aload_n 1, 1) := by decide +kernel
theorem dL_law_47 : decode cL_law 47 = .ok (.bipush 7, 2) := by decide +kernel
theorem dL_law_49 : decode cL_law 49 = .ok (.invokevirtual 33, 3) := by decide +kernel
theorem dL_law_52 : decode cL_law 52 = .ok (.ifCond .ne 66, 3) := by decide +kernel
theorem dL_law_55 : decode cL_law 55 = .ok (.aload_n 1, 1) := by decide +kernel
theorem dL_law_56 : decode cL_law 56 = .ok (.invokevirtual 128, 3) := by decide +kernel
theorem dL_law_59 : decode cL_law 59 = .ok (.ldc 107, 2) := by decide +kernel
theorem dL_law_61 : decode cL_law 61 = .ok (.if_icmp .ne 57, 3) := by decide +kernel
theorem dL_law_64 : decode cL_law 64 = .ok (.aload_n 1, 1) := by decide +kernel
theorem dL_law_65 : decode cL_law 65 = .ok (.invokevirtual 131, 3) := by decide +kernel
theorem dL_law_68 : decode cL_law 68 = .ok (.ldc 107, 2) := by decide +kernel
theorem dL_law_70 : decode cL_law 70 = .ok (.if_icmp .ne 48, 3) := by decide +kernel
theorem dL_law_73 : decode cL_law 73 = .ok (.aload_n 1, 1) := by decide +kernel
theorem dL_law_74 : decode cL_law 74 = .ok (.invokevirtual 134, 3) := by decide +kernel
theorem dL_law_77 : decode cL_law 77 = .ok (.ldc 107, 2) := by decide +kernel
theorem dL_law_79 : decode cL_law 79 = .ok (.if_icmp .ne 39, 3) := by decide +kernel
theorem dL_law_82 : decode cL_law 82 = .ok (.aload_n 1, 1) := by decide +kernel
theorem dL_law_83 : decode cL_law 83 = .ok (.iconst 1, 1) := by decide +kernel
theorem dL_law_84 : decode cL_law 84 = .ok (.iconst 1, 1) := by decide +kernel
theorem dL_law_85 : decode cL_law 85 = .ok (.iconst 1, 1) := by decide +kernel
theorem dL_law_86 : decode cL_law 86 = .ok (.iconst 0, 1) := by decide +kernel
theorem dL_law_87 : decode cL_law 87 = .ok (.invokevirtual 52, 3) := by decide +kernel
theorem dL_law_90 : decode cL_law 90 = .ok (.ldc 107, 2) := by decide +kernel
theorem dL_law_92 : decode cL_law 92 = .ok (.if_icmp .ne 26, 3) := by decide +kernel
theorem dL_law_95 : decode cL_law 95 = .ok (.aload_n 1, 1) := by decide +kernel
theorem dL_law_96 : decode cL_law 96 = .ok (.iconst 1, 1) := by decide +kernel
theorem dL_law_97 : decode cL_law 97 = .ok (.iconst 1, 1) := by decide +kernel
theorem dL_law_98 : decode cL_law 98 = .ok (.iconst 1, 1) := by decide +kernel
theorem dL_law_99 : decode cL_law 99 = .ok (.iconst 1, 1) := by decide +kernel
theorem dL_law_100 : decode cL_law 100 = .ok (.iconst 0, 1) := by decide +kernel
theorem dL_law_101 : decode cL_law 101 = .ok (.invokevirtual 56, 3) := by decide +kernel
theorem dL_law_104 : decode cL_law 104 = .ok (.ldc 107, 2) := by decide +kernel
theorem dL_law_106 : decode cL_law 106 = .ok (.if_icmp .ne 12, 3) := by decide +kernel
theorem dL_law_109 : decode cL_law 109 = .ok (.aload_n 1, 1) := by decide +kernel
theorem dL_law_110 : decode cL_law 110 = .ok (.iconst 0, 1) := by decide +kernel
theorem dL_law_111 : decode cL_law 111 = .ok (.iconst 0, 1) := by decide +kernel
theorem dL_law_112 : decode cL_law 112 = .ok (.invokestatic 137, 3) := by decide +kernel
theorem dL_law_115 : decode cL_law 115 = .ok (.ifCond .ne 5, 3) := by decide +kernel
theorem dL_law_118 : decode cL_law 118 = .ok (.iconst 0, 1) := by decide +kernel
theorem dL_law_119 : decode cL_law 119 = .ok (.ireturn, 1) := by decide +kernel
theorem dL_law_120 : decode cL_law 120 = .ok (.iconst 0, 1) := by decide +kernel
theorem dL_law_121 : decode cL_law 121 = .ok (.istore_n 2, 1) := by decide +kernel
theorem dL_law_122 : decode cL_law 122 = .ok (.iconst 0, 1) := by decide +kernel
theorem dL_law_123 : decode cL_law 123 = .ok (.istore_n 3, 1) := by decide +kernel
theorem dL_law_124 : decode cL_law 124 = .ok (.iconst 0, 1) := by decide +kernel
theorem dL_law_125 : decode cL_law 125 = .ok (.istore 4, 2) := by decide +kernel
theorem dL_law_127 : decode cL_law 127 = .ok (.iconst 0, 1) := by decide +kernel
theorem dL_law_128 : decode cL_law 128 = .ok (.istore 5, 2) := by decide +kernel
theorem dL_law_130 : decode cL_law 130 = .ok (.iload 5, 2) := by decide +kernel
theorem dL_law_132 : decode cL_law 132 = .ok (.bipush 30, 2) := by decide +kernel
theorem dL_law_134 : decode cL_law 134 = .ok (.if_icmp .ge 1383, 3) := by decide +kernel
theorem dL_law_137 : decode cL_law 137 = .ok (.aload_n 0, 1) := by decide +kernel
theorem dL_law_138 : decode cL_law 138 = .ok (.iload 5, 2) := by decide +kernel
theorem dL_law_140 : decode cL_law 140 = .ok (.invokestatic 141, 3) := by decide +kernel
theorem dL_law_143 : decode cL_law 143 = .ok (.istore 6, 2) := by decide +kernel
theorem dL_law_145 : decode cL_law 145 = .ok (.iload 6, 2) := by decide +kernel
theorem dL_law_147 : decode cL_law 147 = .ok (.iconst 4, 1) := by decide +kernel
theorem dL_law_148 : decode cL_law 148 = .ok (.ishr, 1) := by decide +kernel
theorem dL_law_149 : decode cL_law 149 = .ok (.istore 7, 2) := by decide +kernel
theorem dL_law_151 : decode cL_law 151 = .ok (.iconst 1, 1) := by decide +kernel
theorem dL_law_152 : decode cL_law 152 = .ok (.istore 8, 2) := by decide +kernel
theorem dL_law_154 : decode cL_law 154 = .ok (.iload 5, 2) := by decide +kernel
theorem dL_law_156 : decode cL_law 156 = .ok (.iconst 4, 1) := by decide +kernel
theorem dL_law_157 : decode cL_law 157 = .ok (.if_icmp .ge 7, 3) := by decide +kernel
theorem dL_law_160 : decode cL_law 160 = .ok (.iconst 0, 1) := by decide +kernel
theorem dL_law_161 : decode cL_law 161 = .ok (.goto 10, 3) := by decide +kernel
theorem dL_law_164 : decode cL_law 164 = .ok (.iload 6, 2) := by decide +kernel
theorem dL_law_166 : decode cL_law 166 = .ok (.bipush 13, 2) := by decide +kernel
theorem dL_law_168 : decode cL_law 168 = .ok (.invokestatic 108, 3) := by decide +kernel
theorem dL_law_171 : decode cL_law 171 = .ok (.istore 9, 2) := by decide +kernel
theorem dL_law_173 : decode cL_law 173 = .ok (.aload_n 1, 1) := by decide +kernel
theorem dL_law_174 : decode cL_law 174 = .ok (.invokevirtual 9, 3) := by decide +kernel
theorem dL_law_177 : decode cL_law 177 = .ok (.lstore 10, 2) := by decide +kernel
theorem dL_law_179 : decode cL_law 179 = .ok (.iload 9, 2) := by decide +kernel
theorem dL_law_181 : decode cL_law 181 = .ok (.ifCond .ne 82, 3) := by decide +kernel
theorem dL_law_184 : decode cL_law 184 = .ok (.iload 5, 2) := by decide +kernel
theorem dL_law_186 : decode cL_law 186 = .ok (.iconst 4, 1) := by decide +kernel
theorem dL_law_187 : decode cL_law 187 = .ok (.if_icmp .ge 8, 3) := by decide +kernel
theorem dL_law_190 : decode cL_law 190 = .ok (.iload 5, 2) := by decide +kernel
theorem dL_law_192 : decode cL_law 192 = .ok (.goto 9, 3) := by decide +kernel
theorem dL_law_195 : decode cL_law 195 = .ok (.iload 7, 2) := by decide +kernel
theorem dL_law_197 : decode cL_law 197 = .ok (.iconst 4, 1) := by decide +kernel
theorem dL_law_198 : decode cL_law 198 = .ok (.invokestatic 108, 3) := by decide +kernel
theorem dL_law_201 : decode cL_law 201 = .ok (.istore 12, 2) := by decide +kernel
theorem dL_law_203 : decode cL_law 203 = .ok (.aload_n 1, 1) := by decide +kernel
theorem dL_law_204 : decode cL_law 204 = .ok (.iload 12, 2) := by decide +kernel
theorem dL_law_206 : decode cL_law 206 = .ok (.iconst 1, 1) := by decide +kernel
theorem dL_law_207 : decode cL_law 207 = .ok (.iload 7, 2) := by decide +kernel
theorem dL_law_209 : decode cL_law 209 = .ok (.iconst 2, 1) := by decide +kernel
theorem dL_law_210 : decode cL_law 210 = .ok (.ishr, 1) := by decide +kernel
theorem dL_law_211 : decode cL_law 211 = .ok (.sipush 20000, 3) := by decide +kernel
theorem dL_law_214 : decode cL_law 214 = .ok (.invokestatic 108, 3) := by decide +kernel
theorem dL_law_217 : decode cL_law 217 = .ok (.iadd, 1) := by decide +kernel
theorem dL_law_218 : decode cL_law 218 = .ok (.iload 7, 2) := by decide +kernel
theorem dL_law_220 : decode cL_law 220 = .ok (.bipush 9, 2) := by decide +kernel
theorem dL_law_222 : decode cL_law 222 = .ok (.ishr, 1) := by decide +kernel
theorem dL_law_223 : decode cL_law 223 = .ok (.sipush 9000, 3) := by decide +kernel
theorem dL_law_226 : decode cL_law 226 = .ok (.invokestatic 108, 3) := by decide +kernel
theorem dL_law_229 : decode cL_law 229 = .ok (.invokevirtual 36, 3) := by decide +kernel
theorem dL_law_232 : decode cL_law 232 = .ok (.istore 13, 2) := by decide +kernel
theorem dL_law_234 : decode cL_law 234 = .ok (.iload 13, 2) := by decide +kernel
theorem dL_law_236 : decode cL_law 236 = .ok (.ifCond .lt 10, 3) := by decide +kernel
theorem dL_law_239 : decode cL_law 239 = .ok (.iload 13, 2) := by decide +kernel
theorem dL_law_241 : decode cL_law 241 = .ok (.bipush 6, 2) := by decide +kernel
theorem dL_law_243 : decode cL_law 243 = .ok (.if_icmp .lt 10, 3) := by decide +kernel
theorem dL_law_246 : decode cL_law 246 = .ok (.iload 13, 2) := by decide +kernel
theorem dL_law_248 : decode cL_law 248 = .ok (.ldc 145, 2) := by decide +kernel
theorem dL_law_250 : decode cL_law 250 = .ok (.if_icmp .ne 7, 3) := by decide +kernel
theorem dL_law_253 : decode cL_law 253 = .ok (.iconst 1, 1) := by decide +kernel
theorem dL_law_254 : decode cL_law 254 = .ok (.goto 4, 3) := by decide +kernel
theorem dL_law_257 : decode cL_law 257 = .ok (.iconst 0, 1) := by decide +kernel
theorem dL_law_258 : decode cL_law 258 = .ok (.istore 8, 2) := by decide +kernel
theorem dL_law_260 : decode cL_law 260 = .ok (.goto 1228, 3) := by decide +kernel
theorem dL_law_263 : decode cL_law 263 = .ok (.iload 9, 2) := by decide +kernel
theorem dL_law_265 : decode cL_law 265 = .ok (.iconst 4, 1) := by decide +kernel
theorem dL_law_266 : decode cL_law 266 = .ok (.if_icmp .ge 339, 3) := by decide +kernel
theorem dL_law_269 : decode cL_law 269 = .ok (.iload 7, 2) := by decide +kernel
theorem dL_law_271 : decode cL_law 271 = .ok (.sipush 30000, 3) := by decide +kernel
theorem dL_law_274 : decode cL_law 274 = .ok (.invokestatic 108, 3) := by decide +kernel
theorem dL_law_277 : decode cL_law 277 = .ok (.istore 12, 2) := by decide +kernel
theorem dL_law_279 : decode cL_law 279 = .ok (.aload_n 1, 1) := by decide +kernel
theorem dL_law_280 : decode cL_law 280 = .ok (.iload 12, 2) := by decide +kernel
theorem dL_law_282 : decode cL_law 282 = .ok (.invokevirtual 27, 3) := by decide +kernel
theorem dL_law_285 : decode cL_law 285 = .ok (.ifCond .ge 7, 3) := by decide +kernel
theorem dL_law_288 : decode cL_law 288 = .ok (.iconst (-1), 1) := by decide +kernel
theorem dL_law_289 : decode cL_law 289 = .ok (.goto 8, 3) := by decide +kernel
theorem dL_law_292 : decode cL_law 292 = .ok (.aload_n 1, 1) := by decide +kernel
theorem dL_law_293 : decode cL_law 293 = .ok (.iconst 3, 1) := by decide +kernel
theorem dL_law_294 : decode cL_law 294 = .ok (.invokevirtual 30, 3) := by decide +kernel
theorem dL_law_297 : decode cL_law 297 = .ok (.istore 13, 2) := by decide +kernel
theorem dL_law_299 : decode cL_law 299 = .ok (.aload_n 1, 1) := by decide +kernel
theorem dL_law_300 : decode cL_law 300 = .ok (.bipush 10, 2) := by decide +kernel
theorem dL_law_302 : decode cL_law 302 = .ok (.invokevirtual 33, 3) := by decide +kernel
theorem dL_law_305 : decode cL_law 305 = .ok (.iload 12, 2) := by decide +kernel
theorem dL_law_307 : decode cL_law 307 = .ok (.if_icmp .ne 65, 3) := by decide +kernel
theorem dL_law_310 : decode cL_law 310 = .ok (.iload 13, 2) := by decide +kernel
theorem dL_law_312 : decode cL_law 312 = .ok (.aload_n 1, 1) := by decide +kernel
theorem dL_law_313 : decode cL_law 313 = .ok (.iconst 1, 1) := by decide +kernel
theorem dL_law_314 : decode cL_law 314 = .ok (.invokevirtual 33, 3) := by decide +kernel
theorem dL_law_317 : decode cL_law 317 = .ok (.if_icmp .ne 55, 3) := by decide +kernel
theorem dL_law_320 : decode cL_law 320 = .ok (.aload_n 1, 1) := by decide +kernel
theorem dL_law_321 : decode cL_law 321 = .ok (.invokestatic 146, 3) := by decide +kernel
theorem dL_law_324 : decode cL_law 324 = .ok (.ifCond .eq 48, 3) := by decide +kernel
theorem dL_law_327 : decode cL_law 327 = .ok (.aload_n 1, 1) := by decide +kernel
theorem dL_law_328 : decode cL_law 328 = .ok (.bipush 7, 2) := by decide +kernel
theorem dL_law_330 : decode cL_law 330 = .ok (.invokevirtual 33, 3) := by decide +kernel
theorem dL_law_333 : decode cL_law 333 = .ok (.iconst 1, 1) := by decide +kernel
theorem dL_law_334 : decode cL_law 334 = .ok (.if_icmp .ne 7, 3) := by decide +kernel
theorem dL_law_337 : decode cL_law 337 = .ok (.iconst 1, 1) := by decide +kernel
theorem dL_law_338 : decode cL_law 338 = .ok (.goto 4, 3) := by decide +kernel
theorem dL_law_341 : decode cL_law 341 = .ok (.iconst 0, 1) := by decide +kernel
theorem dL_law_342 : decode cL_law 342 = .ok (.iconst 2, 1) := by decide +kernel
theorem dL_law_343 : decode cL_law 343 = .ok (.aload_n 1, 1) := by decide +kernel
theorem dL_law_344 : decode cL_law 344 = .ok (.iconst 0, 1) := by decide +kernel
theorem dL_law_345 : decode cL_law 345 = .ok (.invokevirtual 22, 3) := by decide +kernel
theorem dL_law_348 : decode cL_law 348 = .ok (.invokestatic 96, 3) := by decide +kernel
theorem dL_law_351 : decode cL_law 351 = .ok (.imul, 1) := by decide +kernel
theorem dL_law_352 : decode cL_law 352 = .ok (.aload_n 1, 1) := by decide +kernel
theorem dL_law_353 : decode cL_law 353 = .ok (.iconst 4, 1) := by decide +kernel
theorem dL_law_354 : decode cL_law 354 = .ok (.invokevirtual 22, 3) := by decide +kernel
theorem dL_law_357 : decode cL_law 357 = .ok (.if_icmp .gt 7, 3) := by decide +kernel
theorem dL_law_360 : decode cL_law 360 = .ok (.iconst 1, 1) := by decide +kernel
theorem dL_law_361 : decode cL_law 361 = .ok (.goto 4, 3) := by decide +kernel
theorem dL_law_364 : decode cL_law 364 = .ok (.iconst 0, 1) := by decide +kernel
theorem dL_law_365 : decode cL_law 365 = .ok (.if_icmp .ne 7, 3) := by decide +kernel
theorem dL_law_368 : decode cL_law 368 = .ok (.iconst 1, 1) := by decide +kernel
theorem dL_law_369 : decode cL_law 369 = .ok (.goto 4, 3) := by decide +kernel
theorem dL_law_372 : decode cL_law 372 = .ok (.iconst 0, 1) := by decide +kernel
theorem dL_law_373 : decode cL_law 373 = .ok (.istore 8, 2) := by decide +kernel
theorem dL_law_375 : decode cL_law 375 = .ok (.aload_n 1, 1) := by decide +kernel
theorem dL_law_376 : decode cL_law 376 = .ok (.iconst 3, 1) := by decide +kernel
theorem dL_law_377 : decode cL_law 377 = .ok (.invokevirtual 33, 3) := by decide +kernel
theorem dL_law_380 : decode cL_law 380 = .ok (.istore 14, 2) := by decide +kernel
theorem dL_law_382 : decode cL_law 382 = .ok (.aload_n 1, 1) := by decide +kernel
theorem dL_law_383 : decode cL_law 383 = .ok (.bipush 7, 2) := by decide +kernel
theorem dL_law_385 : decode cL_law 385 = .ok (.invokevirtual 33, 3) := by decide +kernel
theorem dL_law_388 : decode cL_law 388 = .ok (.iconst 1, 1) := by decide +kernel
theorem dL_law_389 : decode cL_law 389 = .ok (.if_icmp .ne 40, 3) := by decide +kernel
theorem dL_law_392 : decode cL_law 392 = .ok (.aload_n 1, 1) := by decide +kernel
theorem dL_law_393 : decode cL_law 393 = .ok (.bipush 8, 2) := by decide +kernel
theorem dL_law_395 : decode cL_law 395 = .ok (.invokevirtual 33, 3) := by decide +kernel
theorem dL_law_398 : decode cL_law 398 = .ok (.ifCond .ne 31, 3) := by decide +kernel
theorem dL_law_401 : decode cL_law 401 = .ok (.iload 14, 2) := by decide +kernel
theorem dL_law_403 : decode cL_law 403 = .ok (.ifCond .le 26, 3) := by decide +kernel
theorem dL_law_406 : decode cL_law 406 = .ok (.aload_n 1, 1) := by decide +kernel
theorem dL_law_407 : decode cL_law 407 = .ok (.iload 7, 2) := by decide +kernel
theorem dL_law_409 : decode cL_law 409 = .ok (.iconst 5, 1) := by decide +kernel
theorem dL_law_410 : decode cL_law 410 = .ok (.ishr, 1) := by decide +kernel
theorem dL_law_411 : decode cL_law 411 = .ok (.iconst 4, 1) := by decide +kernel
theorem dL_law_412 : decode cL_law 412 = .ok (.invokestatic 108, 3) := by decide +kernel
theorem dL_law_415 : decode cL_law 415 = .ok (.iconst 0, 1) := by decide +kernel
theorem dL_law_416 : decode cL_law 416 = .ok (.iconst 0, 1) := by decide +kernel
theorem dL_law_417 : decode cL_law 417 = .ok (.invokevirtual 43, 3) := by decide +kernel
theorem dL_law_420 : decode cL_law 420 = .ok (.ldc 21, 2) := by decide +kernel
theorem dL_law_422 : decode cL_law 422 = .ok (.if_icmp .eq 7, 3) := by decide +kernel
theorem dL_law_425 : decode cL_law 425 = .ok (.iconst 1, 1) := by decide +kernel
theorem dL_law_426 : decode cL_law 426 = .ok (.goto 4, 3) := by decide +kernel
theorem dL_law_429 : decode cL_law 429 = .ok (.iconst 0, 1) := by decide +kernel
theorem dL_law_430 : decode cL_law 430 = .ok (.istore 15, 2) := by decide +kernel
theorem dL_law_432 : decode cL_law 432 = .ok (.iconst 1, 1) := by decide +kernel
theorem dL_law_433 : decode cL_law 433 = .ok (.iload 7, 2) := by decide +kernel
theorem dL_law_435 : decode cL_law 435 = .ok (.iconst 3, 1) := by decide +kernel
theorem dL_law_436 : decode cL_law 436 = .ok (.ishr, 1) := by decide +kernel
theorem dL_law_437 : decode cL_law 437 = .ok (.sipush 500, 3) := by decide +kernel
theorem dL_law_440 : decode cL_law 440 = .ok (.invokestatic 108, 3) := by decide +kernel
theorem dL_law_443 : decode cL_law 443 = .ok (.iadd, 1) := by decide +kernel
theorem dL_law_444 : decode cL_law 444 = .ok (.istore 16, 2) := by decide +kernel
theorem dL_law_446 : decode cL_law 446 = .ok (.iconst 1, 1) := by decide +kernel
theorem dL_law_447 : decode cL_law 447 = .ok (.iload 7, 2) := by decide +kernel
theorem dL_law_449 : decode cL_law 449 = .ok (.bipush 7, 2) := by decide +kernel
theorem dL_law_451 : decode cL_law 451 = .ok (.ishr, 1) := by decide +kernel
theorem dL_law_452 : decode cL_law 452 = .ok (.sipush 700, 3) := by decide +kernel
theorem dL_law_455 : decode cL_law 455 = .ok (.invokestatic 108, 3) := by decide +kernel
theorem dL_law_458 : decode cL_law 458 = .ok (.iadd, 1) := by decide +kernel
theorem dL_law_459 : decode cL_law 459 = .ok (.istore 17, 2) := by decide +kernel
theorem dL_law_461 : decode cL_law 461 = .ok (.iconst 1, 1) := by decide +kernel
theorem dL_law_462 : decode cL_law 462 = .ok (.iload 7, 2) := by decide +kernel
theorem dL_law_464 : decode cL_law 464 = .ok (.bipush 10, 2) := by decide +kernel
theorem dL_law_466 : decode cL_law 466 = .ok (.ishr, 1) := by decide +kernel
theorem dL_law_467 : decode cL_law 467 = .ok (.sipush 400, 3) := by decide +kernel
theorem dL_law_470 : decode cL_law 470 = .ok (.invokestatic 108, 3) := by decide +kernel
theorem dL_law_473 : decode cL_law 473 = .ok (.iadd, 1) := by decide +kernel
theorem dL_law_474 : decode cL_law 474 = .ok (.istore 18, 2) := by decide +kernel
theorem dL_law_476 : decode cL_law 476 = .ok (.iload 7, 2) := by decide +kernel
theorem dL_law_478 : decode cL_law 478 = .ok (.iconst 5, 1) := by decide +kernel
theorem dL_law_479 : decode cL_law 479 = .ok (.ishr, 1) := by decide +kernel
theorem dL_law_480 : decode cL_law 480 = .ok (.iconst 4, 1) := by decide +kernel
theorem dL_law_481 : decode cL_law 481 = .ok (.invokestatic 108, 3) := by decide +kernel
theorem dL_law_484 : decode cL_law 484 = .ok (.istore 19, 2) := by decide +kernel
theorem dL_law_486 : decode cL_law 486 = .ok (.aload_n 1, 1) := by decide +kernel
theorem dL_law_487 : decode cL_law 487 = .ok (.iload 16, 2) := by decide +kernel
theorem dL_law_489 : decode cL_law 489 = .ok (.iload 17, 2) := by decide +kernel
theorem dL_law_491 : decode cL_law 491 = .ok (.iload 18, 2) := by decide +kernel
theorem dL_law_493 : decode cL_law 493 = .ok (.iload 19, 2) := by decide +kernel
theorem dL_law_495 : decode cL_law 495 = .ok (.invokevirtual 52, 3) := by decide +kernel
theorem dL_law_498 : decode cL_law 498 = .ok (.istore 20, 2) := by decide +kernel
theorem dL_law_500 : decode cL_law 500 = .ok (.iload 8, 2) := by decide +kernel
theorem dL_law_502 : decode cL_law 502 = .ok (.ifCond .eq 23, 3) := by decide +kernel
theorem dL_law_505 : decode cL_law 505 = .ok (.iload 20, 2) := by decide +kernel
theorem dL_law_507 : decode cL_law 507 = .ok (.iload 15, 2) := by decide +kernel
theorem dL_law_509 : decode cL_law 509 = .ok (.ifCond .eq 7, 3) := by decide +kernel
theorem dL_law_512 : decode cL_law 512 = .ok (.iload_n 2, 1) := by decide +kernel
theorem dL_law_513 : decode cL_law 513 = .ok (.goto 5, 3) := by decide +kernel
theorem dL_law_516 : decode cL_law 516 = .ok (.ldc 107, 2) := by decide +kernel
theorem dL_law_518 : decode cL_law 518 = .ok (.if_icmp .ne 7, 3) := by decide +kernel
theorem dL_law_521 : decode cL_law 521 = .ok (.iconst 1, 1) := by decide +kernel
theorem dL_law_522 : decode cL_law 522 = .ok (.goto 4, 3) := by decide +kernel
theorem dL_law_525 : decode cL_law 525 = .ok (.iconst 0, 1) := by decide +kernel
theorem dL_law_526 : decode cL_law 526 = .ok (.istore 8, 2) := by decide +kernel
theorem dL_law_528 : decode cL_law 528 = .ok (.iload_n 2, 1) := by decide +kernel
theorem dL_law_529 : decode cL_law 529 = .ok (.iload 20, 2) := by decide +kernel
theorem dL_law_531 : decode cL_law 531 = .ok (.ifCond .lt 7, 3) := by decide +kernel
theorem dL_law_534 : decode cL_law 534 = .ok (.iconst 1, 1) := by decide +kernel
theorem dL_law_535 : decode cL_law 535 = .ok (.goto 4, 3) := by decide +kernel
theorem dL_law_538 : decode cL_law 538 = .ok (.iconst 0, 1) := by decide +kernel
theorem dL_law_539 : decode cL_law 539 = .ok (.iadd, 1) := by decide +kernel
theorem dL_law_540 : decode cL_law 540 = .ok (.istore_n 2, 1) := by decide +kernel
theorem dL_law_541 : decode cL_law 541 = .ok (.iload 8, 2) := by decide +kernel
theorem dL_law_543 : decode cL_law 543 = .ok (.ifCond .eq 56, 3) := by decide +kernel
theorem dL_law_546 : decode cL_law 546 = .ok (.iload 20, 2) := by decide +kernel
theorem dL_law_548 : decode cL_law 548 = .ok (.ifCond .lt 47, 3) := by decide +kernel
theorem dL_law_551 : decode cL_law 551 = .ok (.aload_n 1, 1) := by decide +kernel
theorem dL_law_552 : decode cL_law 552 = .ok (.iload 20, 2) := by decide +kernel
theorem dL_law_554 : decode cL_law 554 = .ok (.iconst 0, 1) := by decide +kernel
theorem dL_law_555 : decode cL_law 555 = .ok (.invokevirtual 60, 3) := by decide +kernel
theorem dL_law_558 : decode cL_law 558 = .ok (.iload 14, 2) := by decide +kernel
theorem dL_law_560 : decode cL_law 560 = .ok (.if_icmp .ne 39, 3) := by decide +kernel
theorem dL_law_563 : decode cL_law 563 = .ok (.iload 14, 2) := by decide +kernel
theorem dL_law_565 : decode cL_law 565 = .ok (.ldc 106, 2) := by decide +kernel
theorem dL_law_567 : decode cL_law 567 = .ok (.if_icmp .gt 28, 3) := by decide +kernel
theorem dL_law_570 : decode cL_law 570 = .ok (.aload_n 1, 1) := by decide +kernel
theorem dL_law_571 : decode cL_law 571 = .ok (.iload 20, 2) := by decide +kernel
theorem dL_law_573 : decode cL_law 573 = .ok (.bipush 8, 2) := by decide +kernel
theorem dL_law_575 : decode cL_law 575 = .ok (.invokevirtual 60, 3) := by decide +kernel
theorem dL_law_578 : decode cL_law 578 = .ok (.aload_n 1, 1) := by decide +kernel
theorem dL_law_579 : decode cL_law 579 = .ok (.iload 14, 2) := by decide +kernel
theorem dL_law_581 : decode cL_law 581 = .ok (.iload 16, 2) := by decide +kernel
theorem dL_law_583 : decode cL_law 583 = .ok (.iload 17, 2) := by decide +kernel
theorem dL_law_585 : decode cL_law 585 = .ok (.iload 18, 2) := by decide +kernel
theorem dL_law_587 : decode cL_law 587 = .ok (.iload 19, 2) := by decide +kernel
theorem dL_law_589 : decode cL_law 589 = .ok (.invokevirtual 56, 3) := by decide +kernel
theorem dL_law_592 : decode cL_law 592 = .ok (.if_icmp .ne 7, 3) := by decide +kernel
theorem dL_law_595 : decode cL_law 595 = .ok (.iconst 1, 1) := by decide +kernel
theorem dL_law_596 : decode cL_law 596 = .ok (.goto 4, 3) := by decide +kernel
theorem dL_law_599 : decode cL_law 599 = .ok (.iconst 0, 1) := by decide +kernel
theorem dL_law_600 : decode cL_law 600 = .ok (.istore 8, 2) := by decide +kernel
theorem dL_law_602 : decode cL_law 602 = .ok (.goto 886, 3) := by decide +kernel
theorem dL_law_605 : decode cL_law 605 = .ok (.iload 9, 2) := by decide +kernel
theorem dL_law_607 : decode cL_law 607 = .ok (.iconst 4, 1) := by decide +kernel
theorem dL_law_608 : decode cL_law 608 = .ok (.if_icmp .ne 192, 3) := by decide +kernel
theorem dL_law_611 : decode cL_law 611 = .ok (.iload 7, 2) := by decide +kernel
theorem dL_law_613 : decode cL_law 613 = .ok (.bipush 8, 2) := by decide +kernel
theorem dL_law_615 : decode cL_law 615 = .ok (.invokestatic 108, 3) := by decide +kernel
theorem dL_law_618 : decode cL_law 618 = .ok (.istore 12, 2) := by decide +kernel
theorem dL_law_620 : decode cL_law 620 = .ok (.iload 12, 2) := by decide +kernel
theorem dL_law_622 : decode cL_law 622 = .ok (.iconst 2, 1) := by decide +kernel
theorem dL_law_623 : decode cL_law 623 = .ok (.if_icmp .ge 18, 3) := by decide +kernel
theorem dL_law_626 : decode cL_law 626 = .ok (.iload 7, 2) := by decide +kernel
theorem dL_law_628 : decode cL_law 628 = .ok (.iconst 3, 1) := by decide +kernel
theorem dL_law_629 : decode cL_law 629 = .ok (.ishr, 1) := by decide +kernel
theorem dL_law_630 : decode cL_law 630 = .ok (.bipush 41, 2) := by decide +kernel
theorem dL_law_632 : decode cL_law 632 = .ok (.invokestatic 108, 3) := by decide +kernel
theorem dL_law_635 : decode cL_law 635 = .ok (.bipush 20, 2) := by decide +kernel
theorem dL_law_637 : decode cL_law 637 = .ok (.isub, 1) := by decide +kernel
theorem dL_law_638 : decode cL_law 638 = .ok (.goto 118, 3) := by decide +kernel
theorem dL_law_641 : decode cL_law 641 = .ok (.iload 12, 2) := by decide +kernel
theorem dL_law_643 : decode cL_law 643 = .ok (.iconst 2, 1) := by decide +kernel
theorem dL_law_644 : decode cL_law 644 = .ok (.if_icmp .ne 17, 3) := by decide +kernel
theorem dL_law_647 : decode cL_law 647 = .ok (.iconst 1, 1) := by decide +kernel
theorem dL_law_648 : decode cL_law 648 = .ok (.iload 7, 2) := by decide +kernel
theorem dL_law_650 : decode cL_law 650 = .ok (.iconst 3, 1) := by decide +kernel
theorem dL_law_651 : decode cL_law 651 = .ok (.ishr, 1) := by decide +kernel
theorem dL_law_652 : decode cL_law 652 = .ok (.bipush 100, 2) := by decide +kernel
theorem dL_law_654 : decode cL_law 654 = .ok (.invokestatic 108, 3) := by decide +kernel
theorem dL_law_657 : decode cL_law 657 = .ok (.iadd, 1) := by decide +kernel
theorem dL_law_658 : decode cL_law 658 = .ok (.goto 98, 3) := by decide +kernel
theorem dL_law_661 : decode cL_law 661 = .ok (.iload 12, 2) := by decide +kernel
theorem dL_law_663 : decode cL_law 663 = .ok (.iconst 3, 1) := by decide +kernel
theorem dL_law_664 : decode cL_law 664 = .ok (.if_icmp .ne 19, 3) := by decide +kernel
theorem dL_law_667 : decode cL_law 667 = .ok (.sipush 1000, 3) := by decide +kernel
theorem dL_law_670 : decode cL_law 670 = .ok (.iload 7, 2) := by decide +kernel
theorem dL_law_672 : decode cL_law 672 = .ok (.iconst 3, 1) := by decide +kernel
theorem dL_law_673 : decode cL_law 673 = .ok (.ishr, 1) := by decide +kernel
theorem dL_law_674 : decode cL_law 674 = .ok (.ldc 149, 2) := by decide +kernel
theorem dL_law_676 : decode cL_law 676 = .ok (.invokestatic 108, 3) := by decide +kernel
theorem dL_law_679 : decode cL_law 679 = .ok (.iadd, 1) := by decide +kernel
theorem dL_law_680 : decode cL_law 680 = .ok (.goto 76, 3) := by decide +kernel
theorem dL_law_683 : decode cL_law 683 = .ok (.iload 12, 2) := by decide +kernel
theorem dL_law_685 : decode cL_law 685 = .ok (.iconst 4, 1) := by decide +kernel
theorem dL_law_686 : decode cL_law 686 = .ok (.if_icmp .ne 15, 3) := by decide +kernel
theorem dL_law_689 : decode cL_law 689 = .ok (.iload 7, 2) := by decide +kernel
theorem dL_law_691 : decode cL_law 691 = .ok (.iconst 3, 1) := by decide +kernel
theorem dL_law_692 : decode cL_law 692 = .ok (.ishr, 1) := by decide +kernel
theorem dL_law_693 : decode cL_law 693 = .ok (.bipush 101, 2) := by decide +kernel
theorem dL_law_695 : decode cL_law 695 = .ok (.invokestatic 108, 3) := by decide +kernel
theorem dL_law_698 : decode cL_law 698 = .ok (.goto 58, 3) := by decide +kernel
theorem dL_law_701 : decode cL_law 701 = .ok (.iload 12, 2) := by decide +kernel
theorem dL_law_703 : decode cL_law 703 = .ok (.iconst 5, 1) := by decide +kernel
theorem dL_law_704 : decode cL_law 704 = .ok (.if_icmp .ne 16, 3) := by decide +kernel
theorem dL_law_707 : decode cL_law 707 = .ok (.iload 7, 2) := by decide +kernel
theorem dL_law_709 : decode cL_law 709 = .ok (.iconst 3, 1) := by decide +kernel
theorem dL_law_710 : decode cL_law 710 = .ok (.ishr, 1) := by decide +kernel
theorem dL_law_711 : decode cL_law 711 = .ok (.sipush 201, 3) := by decide +kernel
theorem dL_law_714 : decode cL_law 714 = .ok (.invokestatic 108, 3) := by decide +kernel
theorem dL_law_717 : decode cL_law 717 = .ok (.goto 39, 3) := by decide +kernel
theorem dL_law_720 : decode cL_law 720 = .ok (.iload 12, 2) := by decide +kernel
theorem dL_law_722 : decode cL_law 722 = .ok (.bipush 6, 2) := by decide +kernel
theorem dL_law_724 : decode cL_law 724 = .ok (.if_icmp .ne 20, 3) := by decide +kernel
theorem dL_law_727 : decode cL_law 727 = .ok (.sipush 1000, 3) := by decide +kernel
theorem dL_law_730 : decode cL_law 730 = .ok (.iload 7, 2) := by decide +kernel
theorem dL_law_732 : decode cL_law 732 = .ok (.iconst 3, 1) := by decide +kernel
theorem dL_law_733 : decode cL_law 733 = .ok (.ishr, 1) := by decide +kernel
theorem dL_law_734 : decode cL_law 734 = .ok (.sipush 9000, 3) := by decide +kernel
theorem dL_law_737 : decode cL_law 737 = .ok (.invokestatic 108, 3) := by decide +kernel
theorem dL_law_740 : decode cL_law 740 = .ok (.iadd, 1) := by decide +kernel
theorem dL_law_741 : decode cL_law 741 = .ok (.goto 15, 3) := by decide +kernel
theorem dL_law_744 : decode cL_law 744 = .ok (.iconst 1, 1) := by decide +kernel
theorem dL_law_745 : decode cL_law 745 = .ok (.iload 7, 2) := by decide +kernel
theorem dL_law_747 : decode cL_law 747 = .ok (.iconst 3, 1) := by decide +kernel
theorem dL_law_748 : decode cL_law 748 = .ok (.ishr, 1) := by decide +kernel
theorem dL_law_749 : decode cL_law 749 = .ok (.sipush 1000, 3) := by decide +kernel
theorem dL_law_752 : decode cL_law 752 = .ok (.invokestatic 108, 3) := by decide +kernel
theorem dL_law_755 : decode cL_law 755 = .ok (.iadd, 1) := by decide +kernel
