theorem dL_fails_0 : decode cL_fails 0 = .ok (.aload_n 0, 1) := by decide +kernel
theorem dL_fails_1 : decode cL_fails 1 = .ok (.invokevirtual 9, 3) := by decide +kernel
theorem dL_fails_4 : decode cL_fails 4 = .ok (.lstore_n 3, 1) := by decide +kernel
theorem dL_fails_5 : decode cL_fails 5 = .ok (.aload_n 0, 1) := by decide +kernel
theorem dL_fails_6 : decode cL_fails 6 = .ok (.bipush 8, 2) := by decide +kernel
theorem dL_fails_8 : decode cL_fails 8 = .ok (.iconst 1, 1) := by decide +kernel
theorem dL_fails_9 : decode cL_fails 9 = .ok (.invokevirtual 15, 3) := by decide +kernel
theorem dL_fails_12 : decode cL_fails 12 = .ok (.ldc 21, 2) := by decide +kernel
theorem dL_fails_14 : decode cL_fails 14 = .ok (.if_icmp .ne 197, 3) := by decide +kernel
theorem dL_fails_17 : decode cL_fails 17 = .ok (.aload_n 0, 1) := by decide +kernel
theorem dL_fails_18 : decode cL_fails 18 = .ok (.iconst 0, 1) := by decide +kernel
theorem dL_fails_19 : decode cL_fails 19 = .ok (.bipush 21, 2) := by decide +kernel
theorem dL_fails_21 : decode cL_fails 21 = .ok (.invokevirtual 15, 3) := by decide +kernel
theorem dL_fails_24 : decode cL_fails 24 = .ok (.ldc 21, 2) := by decide +kernel
theorem dL_fails_26 : decode cL_fails 26 = .ok (.if_icmp .ne 185, 3) := by decide +kernel
theorem dL_fails_29 : decode cL_fails 29 = .ok (.aload_n 0, 1) := by decide +kernel
theorem dL_fails_30 : decode cL_fails 30 = .ok (.iconst 2, 1) := by decide +kernel
theorem dL_fails_31 : decode cL_fails 31 = .ok (.iconst 0, 1) := by decide +kernel
theorem dL_fails_32 : decode cL_fails 32 = .ok (.invokevirtual 15, 3) := by decide +kernel
theorem dL_fails_35 : decode cL_fails 35 = .ok (.ldc 21, 2) := by decide +kernel
theorem dL_fails_37 : decode cL_fails 37 = .ok (.if_icmp .ne 174, 3) := by decide +kernel
theorem dL_fails_40 : decode cL_fails 40 = .ok (.aload_n 0, 1) := by decide +kernel
theorem dL_fails_41 : decode cL_fails 41 = .ok (.iconst 3, 1) := by decide +kernel
theorem dL_fails_42 : decode cL_fails 42 = .ok (.sipush 999, 3) := by decide +kernel
theorem dL_fails_45 : decode cL_fails 45 = .ok (.invokevirtual 15, 3) := by decide +kernel
theorem dL_fails_48 : decode cL_fails 48 = .ok (.ldc 21, 2) := by decide +kernel
theorem dL_fails_50 : decode cL_fails 50 = .ok (.if_icmp .ne 161, 3) := by decide +kernel
theorem dL_fails_53 : decode cL_fails 53 = .ok (.aload_n 0, 1) := by decide +kernel
theorem dL_fails_54 : decode cL_fails 54 = .ok (.bipush 6, 2) := by decide +kernel
theorem dL_fails_56 : decode cL_fails 56 = .ok (.sipush 10000, 3) := by decide +kernel
theorem dL_fails_59 : decode cL_fails 59 = .ok (.invokevirtual 15, 3) := by decide +kernel
theorem dL_fails_62 : decode cL_fails 62 = .ok (.ldc 21, 2) := by decide +kernel
theorem dL_fails_64 : decode cL_fails 64 = .ok (.if_icmp .ne 147, 3) := by decide +kernel
theorem dL_fails_67 : decode cL_fails 67 = .ok (.aload_n 0, 1) := by decide +kernel
theorem dL_fails_68 : decode cL_fails 68 = .ok (.bipush 7, 2) := by decide +kernel
theorem dL_fails_70 : decode cL_fails 70 = .ok (.iconst 0, 1) := by decide +kernel
theorem dL_fails_71 : decode cL_fails 71 = .ok (.invokevirtual 15, 3) := by decide +kernel
theorem dL_fails_74 : decode cL_fails 74 = .ok (.ldc 21, 2) := by decide +kernel
theorem dL_fails_76 : decode cL_fails 76 = .ok (.if_icmp .ne 135, 3) := by decide +kernel
theorem dL_fails_79 : decode cL_fails 79 = .ok (.aload_n 0, 1) := by decide +kernel
theorem dL_fails_80 : decode cL_fails 80 = .ok (.bipush 8, 2) := by decide +kernel
theorem dL_fails_82 : decode cL_fails 82 = .ok (.invokevirtual 22, 3) := by decide +kernel
theorem dL_fails_85 : decode cL_fails 85 = .ok (.ldc 21, 2) := by decide +kernel
theorem dL_fails_87 : decode cL_fails 87 = .ok (.if_icmp .ne 124, 3) := by decide +kernel
theorem dL_fails_90 : decode cL_fails 90 = .ok (.aload_n 0, 1) := by decide +kernel
theorem dL_fails_91 : decode cL_fails 91 = .ok (.ldc 26, 2) := by decide +kernel
theorem dL_fails_93 : decode cL_fails 93 = .ok (.invokevirtual 27, 3) := by decide +kernel
theorem dL_fails_96 : decode cL_fails 96 = .ok (.ldc 21, 2) := by decide +kernel
theorem dL_fails_98 : decode cL_fails 98 = .ok (.if_icmp .ne 113, 3) := by decide +kernel
theorem dL_fails_101 : decode cL_fails 101 = .ok (.aload_n 0, 1) := by decide +kernel
theorem dL_fails_102 : decode cL_fails 102 = .ok (.iconst 0, 1) := by decide +kernel
theorem dL_fails_103 : decode cL_fails 103 = .ok (.invokevirtual 30, 3) := by decide +kernel
theorem dL_fails_106 : decode cL_fails 106 = .ok (.ldc 21, 2) := by decide +kernel
theorem dL_fails_108 : decode cL_fails 108 = .ok (.if_icmp .ne 103, 3) := by decide +kernel
theorem dL_fails_111 : decode cL_fails 111 = .ok (.aload_n 0, 1) := by decide +kernel
theorem dL_fails_112 : decode cL_fails 112 = .ok (.bipush 101, 2) := by decide +kernel
theorem dL_fails_114 : decode cL_fails 114 = .ok (.invokevirtual 30, 3) := by decide +kernel
theorem dL_fails_117 : decode cL_fails 117 = .ok (.ldc 21, 2) := by decide +kernel
theorem dL_fails_119 : decode cL_fails 119 = .ok (.if_icmp .ne 92, 3) := by decide +kernel
theorem dL_fails_122 : decode cL_fails 122 = .ok (.aload_n 0, 1) := by decide +kernel
theorem dL_fails_123 : decode cL_fails 123 = .ok (.bipush 11, 2) := by decide +kernel
theorem dL_fails_125 : decode cL_fails 125 = .ok (.invokevirtual 33, 3) := by decide +kernel
theorem dL_fails_128 : decode cL_fails 128 = .ok (.ldc 21, 2) := by decide +kernel
theorem dL_fails_130 : decode cL_fails 130 = .ok (.if_icmp .ne 81, 3) := by decide +kernel
theorem dL_fails_133 : decode cL_fails 133 = .ok (.aload_n 0, 1) := by decide +kernel
theorem dL_fails_134 : decode cL_fails 134 = .ok (.iconst 4, 1) := by decide +kernel
theorem dL_fails_135 : decode cL_fails 135 = .ok (.iconst 1, 1) := by decide +kernel
theorem dL_fails_136 : decode cL_fails 136 = .ok (.iconst 1, 1) := by decide +kernel
theorem dL_fails_137 : decode cL_fails 137 = .ok (.invokevirtual 36, 3) := by decide +kernel
theorem dL_fails_140 : decode cL_fails 140 = .ok (.ldc 21, 2) := by decide +kernel
theorem dL_fails_142 : decode cL_fails 142 = .ok (.if_icmp .ne 69, 3) := by decide +kernel
theorem dL_fails_145 : decode cL_fails 145 = .ok (.aload_n 0, 1) := by decide +kernel
theorem dL_fails_146 : decode cL_fails 146 = .ok (.iconst 0, 1) := by decide +kernel
theorem dL_fails_147 : decode cL_fails 147 = .ok (.iconst 0, 1) := by decide +kernel
theorem dL_fails_148 : decode cL_fails 148 = .ok (.iconst 1, 1) := by decide +kernel
theorem dL_fails_149 : decode cL_fails 149 = .ok (.invokevirtual 36, 3) := by decide +kernel
theorem dL_fails_152 : decode cL_fails 152 = .ok (.ldc 21, 2) := by decide +kernel
theorem dL_fails_154 : decode cL_fails 154 = .ok (.if_icmp .ne 57, 3) := by decide +kernel
theorem dL_fails_157 : decode cL_fails 157 = .ok (.aload_n 0, 1) := by decide +kernel
theorem dL_fails_158 : decode cL_fails 158 = .ok (.iconst 0, 1) := by decide +kernel
theorem dL_fails_159 : decode cL_fails 159 = .ok (.iconst 1, 1) := by decide +kernel
theorem dL_fails_160 : decode cL_fails 160 = .ok (.ldc 26, 2) := by decide +kernel
theorem dL_fails_162 : decode cL_fails 162 = .ok (.invokevirtual 36, 3) := by decide +kernel
theorem dL_fails_165 : decode cL_fails 165 = .ok (.ldc 21, 2) := by decide +kernel
theorem dL_fails_167 : decode cL_fails 167 = .ok (.if_icmp .ne 44, 3) := by decide +kernel
theorem dL_fails_170 : decode cL_fails 170 = .ok (.aload_n 0, 1) := by decide +kernel
theorem dL_fails_171 : decode cL_fails 171 = .ok (.iconst 0, 1) := by decide +kernel
theorem dL_fails_172 : decode cL_fails 172 = .ok (.bipush 6, 2) := by decide +kernel
theorem dL_fails_174 : decode cL_fails 174 = .ok (.invokevirtual 40, 3) := by decide +kernel
theorem dL_fails_177 : decode cL_fails 177 = .ok (.ldc 21, 2) := by decide +kernel
theorem dL_fails_179 : decode cL_fails 179 = .ok (.if_icmp .ne 32, 3) := by decide +kernel
theorem dL_fails_182 : decode cL_fails 182 = .ok (.aload_n 0, 1) := by decide +kernel
theorem dL_fails_183 : decode cL_fails 183 = .ok (.iconst 0, 1) := by decide +kernel
theorem dL_fails_184 : decode cL_fails 184 = .ok (.bipush 6, 2) := by decide +kernel
theorem dL_fails_186 : decode cL_fails 186 = .ok (.iconst 0, 1) := by decide +kernel
theorem dL_fails_187 : decode cL_fails 187 = .ok (.invokevirtual 43, 3) := by decide +kernel
theorem dL_fails_190 : decode cL_fails 190 = .ok (.ldc 21, 2) := by decide +kernel
theorem dL_fails_192 : decode cL_fails 192 = .ok (.if_icmp .ne 19, 3) := by decide +kernel
theorem dL_fails_195 : decode cL_fails 195 = .ok (.aload_n 0, 1) := by decide +kernel
theorem dL_fails_196 : decode cL_fails 196 = .ok (.iconst (-1), 1) := by decide +kernel
theorem dL_fails_197 : decode cL_fails 197 = .ok (.iconst 0, 1) := by decide +kernel
theorem dL_fails_198 : decode cL_fails 198 = .ok (.iconst 0, 1) := by decide +kernel
theorem dL_fails_199 : decode cL_fails 199 = .ok (.invokevirtual 43, 3) := by decide +kernel
theorem dL_fails_202 : decode cL_fails 202 = .ok (.ldc 21, 2) := by decide +kernel
theorem dL_fails_204 : decode cL_fails 204 = .ok (.if_icmp .ne 7, 3) := by decide +kernel
theorem dL_fails_207 : decode cL_fails 207 = .ok (.iconst 1, 1) := by decide +kernel
theorem dL_fails_208 : decode cL_fails 208 = .ok (.goto 4, 3) := by decide +kernel
theorem dL_fails_211 : decode cL_fails 211 = .ok (.iconst 0, 1) := by decide +kernel
theorem dL_fails_212 : decode cL_fails 212 = .ok (.istore 5, 2) := by decide +kernel
theorem dL_fails_214 : decode cL_fails 214 = .ok (.iload 5, 2) := by decide +kernel
theorem dL_fails_216 : decode cL_fails 216 = .ok (.ifCond .eq 156, 3) := by decide +kernel
theorem dL_fails_219 : decode cL_fails 219 = .ok (.aload_n 0, 1) := by decide +kernel
theorem dL_fails_220 : decode cL_fails 220 = .ok (.iconst 0, 1) := by decide +kernel
theorem dL_fails_221 : decode cL_fails 221 = .ok (.sipush 10001, 3) := by decide +kernel
theorem dL_fails_224 : decode cL_fails 224 = .ok (.invokevirtual 46, 3) := by decide +kernel
theorem dL_fails_227 : decode cL_fails 227 = .ok (.ldc 21, 2) := by decide +kernel
theorem dL_fails_229 : decode cL_fails 229 = .ok (.if_icmp .ne 143, 3) := by decide +kernel
theorem dL_fails_232 : decode cL_fails 232 = .ok (.aload_n 0, 1) := by decide +kernel
theorem dL_fails_233 : decode cL_fails 233 = .ok (.bipush 31, 2) := by decide +kernel
theorem dL_fails_235 : decode cL_fails 235 = .ok (.invokevirtual 49, 3) := by decide +kernel
theorem dL_fails_238 : decode cL_fails 238 = .ok (.ldc 21, 2) := by decide +kernel
theorem dL_fails_240 : decode cL_fails 240 = .ok (.if_icmp .ne 132, 3) := by decide +kernel
theorem dL_fails_243 : decode cL_fails 243 = .ok (.aload_n 0, 1) := by decide +kernel
theorem dL_fails_244 : decode cL_fails 244 = .ok (.iconst 0, 1) := by decide +kernel
theorem dL_fails_245 : decode cL_fails 245 = .ok (.iconst 1, 1) := by decide +kernel
theorem dL_fails_246 : decode cL_fails 246 = .ok (.iconst 1, 1) := by decide +kernel
theorem dL_fails_247 : decode cL_fails 247 = .ok (.iconst 0, 1) := by decide +kernel
theorem dL_fails_248 : decode cL_fails 248 = .ok (.invokevirtual 52, 3) := by decide +kernel
theorem dL_fails_251 : decode cL_fails 251 = .ok (.ldc 21, 2) := by decide +kernel
theorem dL_fails_253 : decode cL_fails 253 = .ok (.if_icmp .ne 119, 3) := by decide +kernel
theorem dL_fails_256 : decode cL_fails 256 = .ok (.aload_n 0, 1) := by decide +kernel
theorem dL_fails_257 : decode cL_fails 257 = .ok (.iconst 1, 1) := by decide +kernel
theorem dL_fails_258 : decode cL_fails 258 = .ok (.sipush 2001, 3) := by decide +kernel
theorem dL_fails_261 : decode cL_fails 261 = .ok (.iconst 1, 1) := by decide +kernel
theorem dL_fails_262 : decode cL_fails 262 = .ok (.iconst 0, 1) := by decide +kernel
theorem dL_fails_263 : decode cL_fails 263 = .ok (.invokevirtual 52, 3) := by decide +kernel
theorem dL_fails_266 : decode cL_fails 266 = .ok (.ldc 21, 2) := by decide +kernel
theorem dL_fails_268 : decode cL_fails 268 = .ok (.if_icmp .ne 104, 3) := by decide +kernel
theorem dL_fails_271 : decode cL_fails 271 = .ok (.aload_n 0, 1) := by decide +kernel
theorem dL_fails_272 : decode cL_fails 272 = .ok (.iconst 1, 1) := by decide +kernel
theorem dL_fails_273 : decode cL_fails 273 = .ok (.iconst 1, 1) := by decide +kernel
theorem dL_fails_274 : decode cL_fails 274 = .ok (.iconst 1, 1) := by decide +kernel
theorem dL_fails_275 : decode cL_fails 275 = .ok (.iconst 4, 1) := by decide +kernel
theorem dL_fails_276 : decode cL_fails 276 = .ok (.invokevirtual 52, 3) := by decide +kernel
theorem dL_fails_279 : decode cL_fails 279 = .ok (.ldc 21, 2) := by decide +kernel
theorem dL_fails_281 : decode cL_fails 281 = .ok (.if_icmp .ne 91, 3) := by decide +kernel
theorem dL_fails_284 : decode cL_fails 284 = .ok (.aload_n 0, 1) := by decide +kernel
theorem dL_fails_285 : decode cL_fails 285 = .ok (.iconst 0, 1) := by decide +kernel
theorem dL_fails_286 : decode cL_fails 286 = .ok (.iconst 1, 1) := by decide +kernel
theorem dL_fails_287 : decode cL_fails 287 = .ok (.iconst 1, 1) := by decide +kernel
theorem dL_fails_288 : decode cL_fails 288 = .ok (.iconst 1, 1) := by decide +kernel
theorem dL_fails_289 : decode cL_fails 289 = .ok (.iconst 0, 1) := by decide +kernel
theorem dL_fails_290 : decode cL_fails 290 = .ok (.invokevirtual 56, 3) := by decide +kernel
theorem dL_fails_293 : decode cL_fails 293 = .ok (.ldc 21, 2) := by decide +kernel
theorem dL_fails_295 : decode cL_fails 295 = .ok (.if_icmp .ne 77, 3) := by decide +kernel
theorem dL_fails_298 : decode cL_fails 298 = .ok (.aload_n 0, 1) := by decide +kernel
theorem dL_fails_299 : decode cL_fails 299 = .ok (.iconst 1, 1) := by decide +kernel
theorem dL_fails_300 : decode cL_fails 300 = .ok (.iconst 1, 1) := by decide +kernel
theorem dL_fails_301 : decode cL_fails 301 = .ok (.iconst 1, 1) := by decide +kernel
theorem dL_fails_302 : decode cL_fails 302 = .ok (.iconst 0, 1) := by decide +kernel
theorem dL_fails_303 : decode cL_fails 303 = .ok (.iconst 0, 1) := by decide +kernel
theorem dL_fails_304 : decode cL_fails 304 = .ok (.invokevirtual 56, 3) := by decide +kernel
theorem dL_fails_307 : decode cL_fails 307 = .ok (.ldc 21, 2) := by decide +kernel
theorem dL_fails_309 : decode cL_fails 309 = .ok (.if_icmp .ne 63, 3) := by decide +kernel
theorem dL_fails_312 : decode cL_fails 312 = .ok (.aload_n 0, 1) := by decide +kernel
theorem dL_fails_313 : decode cL_fails 313 = .ok (.iload_n 1, 1) := by decide +kernel
theorem dL_fails_314 : decode cL_fails 314 = .ok (.iconst 0, 1) := by decide +kernel
theorem dL_fails_315 : decode cL_fails 315 = .ok (.invokevirtual 60, 3) := by decide +kernel
theorem dL_fails_318 : decode cL_fails 318 = .ok (.ldc 21, 2) := by decide +kernel
theorem dL_fails_320 : decode cL_fails 320 = .ok (.if_icmp .ne 52, 3) := by decide +kernel
theorem dL_fails_323 : decode cL_fails 323 = .ok (.aload_n 0, 1) := by decide +kernel
theorem dL_fails_324 : decode cL_fails 324 = .ok (.iconst 0, 1) := by decide +kernel
theorem dL_fails_325 : decode cL_fails 325 = .ok (.bipush 11, 2) := by decide +kernel
theorem dL_fails_327 : decode cL_fails 327 = .ok (.invokevirtual 60, 3) := by decide +kernel
theorem dL_fails_330 : decode cL_fails 330 = .ok (.ldc 21, 2) := by decide +kernel
theorem dL_fails_332 : decode cL_fails 332 = .ok (.if_icmp .ne 40, 3) := by decide +kernel
theorem dL_fails_335 : decode cL_fails 335 = .ok (.aload_n 0, 1) := by decide +kernel
theorem dL_fails_336 : decode cL_fails 336 = .ok (.iload_n 1, 1) := by decide +kernel
theorem dL_fails_337 : decode cL_fails 337 = .ok (.iconst 0, 1) := by decide +kernel
theorem dL_fails_338 : decode cL_fails 338 = .ok (.invokevirtual 63, 3) := by decide +kernel
theorem dL_fails_341 : decode cL_fails 341 = .ok (.ldc 21, 2) := by decide +kernel
theorem dL_fails_343 : decode cL_fails 343 = .ok (.if_icmp .ne 29, 3) := by decide +kernel
theorem dL_fails_346 : decode cL_fails 346 = .ok (.aload_n 0, 1) := by decide +kernel
theorem dL_fails_347 : decode cL_fails 347 = .ok (.iconst 0, 1) := by decide +kernel
theorem dL_fails_348 : decode cL_fails 348 = .ok (.iconst (-1), 1) := by decide +kernel
theorem dL_fails_349 : decode cL_fails 349 = .ok (.invokevirtual 63, 3) := by decide +kernel
theorem dL_fails_352 : decode cL_fails 352 = .ok (.ldc 21, 2) := by decide +kernel
theorem dL_fails_354 : decode cL_fails 354 = .ok (.if_icmp .ne 18, 3) := by decide +kernel
theorem dL_fails_357 : decode cL_fails 357 = .ok (.aload_n 0, 1) := by decide +kernel
theorem dL_fails_358 : decode cL_fails 358 = .ok (.iload_n 1, 1) := by decide +kernel
theorem dL_fails_359 : decode cL_fails 359 = .ok (.invokevirtual 66, 3) := by decide +kernel
theorem dL_fails_362 : decode cL_fails 362 = .ok (.ldc 70, 2) := by decide +kernel
theorem dL_fails_364 : decode cL_fails 364 = .ok (.fcmp .l, 1) := by decide +kernel
theorem dL_fails_365 : decode cL_fails 365 = .ok (.ifCond .ne 7, 3) := by decide +kernel
theorem dL_fails_368 : decode cL_fails 368 = .ok (.iconst 1, 1) := by decide +kernel
theorem dL_fails_369 : decode cL_fails 369 = .ok (.goto 4, 3) := by decide +kernel
theorem dL_fails_372 : decode cL_fails 372 = .ok (.iconst 0, 1) := by decide +kernel
theorem dL_fails_373 : decode cL_fails 373 = .ok (.istore 5, 2) := by decide +kernel
theorem dL_fails_375 : decode cL_fails 375 = .ok (.iload 5, 2) := by decide +kernel
theorem dL_fails_377 : decode cL_fails 377 = .ok (.ifCond .eq 133, 3) := by decide +kernel
theorem dL_fails_380 : decode cL_fails 380 = .ok (.aload_n 0, 1) := by decide +kernel
theorem dL_fails_381 : decode cL_fails 381 = .ok (.iload_n 1, 1) := by decide +kernel
theorem dL_fails_382 : decode cL_fails 382 = .ok (.iconst 0, 1) := by decide +kernel
theorem dL_fails_383 : decode cL_fails 383 = .ok (.iconst 1, 1) := by decide +kernel
theorem dL_fails_384 : decode cL_fails 384 = .ok (.invokevirtual 71, 3) := by decide +kernel
theorem dL_fails_387 : decode cL_fails 387 = .ok (.ldc 21, 2) := by decide +kernel
theorem dL_fails_389 : decode cL_fails 389 = .ok (.if_icmp .ne 121, 3) := by decide +kernel
theorem dL_fails_392 : decode cL_fails 392 = .ok (.aload_n 0, 1) := by decide +kernel
theorem dL_fails_393 : decode cL_fails 393 = .ok (.iconst 0, 1) := by decide +kernel
theorem dL_fails_394 : decode cL_fails 394 = .ok (.iconst 4, 1) := by decide +kernel
theorem dL_fails_395 : decode cL_fails 395 = .ok (.iconst 1, 1) := by decide +kernel
theorem dL_fails_396 : decode cL_fails 396 = .ok (.invokevirtual 71, 3) := by decide +kernel
theorem dL_fails_399 : decode cL_fails 399 = .ok (.ldc 21, 2) := by decide +kernel
theorem dL_fails_401 : decode cL_fails 401 = .ok (.if_icmp .ne 109, 3) := by decide +kernel
theorem dL_fails_404 : decode cL_fails 404 = .ok (.aload_n 0, 1) := by decide +kernel
theorem dL_fails_405 : decode cL_fails 405 = .ok (.iconst 0, 1) := by decide +kernel
theorem dL_fails_406 : decode cL_fails 406 = .ok (.iconst 1, 1) := by decide +kernel
theorem dL_fails_407 : decode cL_fails 407 = .ok (.sipush 2001, 3) := by decide +kernel
theorem dL_fails_410 : decode cL_fails 410 = .ok (.invokevirtual 71, 3) := by decide +kernel
theorem dL_fails_413 : decode cL_fails 413 = .ok (.ldc 21, 2) := by decide +kernel
theorem dL_fails_415 : decode cL_fails 415 = .ok (.if_icmp .ne 95, 3) := by decide +kernel
theorem dL_fails_418 : decode cL_fails 418 = .ok (.aload_n 0, 1) := by decide +kernel
theorem dL_fails_419 : decode cL_fails 419 = .ok (.iload_n 2, 1) := by decide +kernel
theorem dL_fails_420 : decode cL_fails 420 = .ok (.iconst 1, 1) := by decide +kernel
theorem dL_fails_421 : decode cL_fails 421 = .ok (.invokevirtual 74, 3) := by decide +kernel
theorem dL_fails_424 : decode cL_fails 424 = .ok (.ldc 21, 2) := by decide +kernel
theorem dL_fails_426 : decode cL_fails 426 = .ok (.if_icmp .ne 84, 3) := by decide +kernel
theorem dL_fails_429 : decode cL_fails 429 = .ok (.aload_n 0, 1) := by decide +kernel
theorem dL_fails_430 : decode cL_fails 430 = .ok (.iload_n 2, 1) := by decide +kernel
theorem dL_fails_431 : decode cL_fails 431 = .ok (.iconst 0, 1) := by decide +kernel
theorem dL_fails_432 : decode cL_fails 432 = .ok (.invokevirtual 78, 3) := by decide +kernel
theorem dL_fails_435 : decode cL_fails 435 = .ok (.ldc 21, 2) := by decide +kernel
theorem dL_fails_437 : decode cL_fails 437 = .ok (.if_icmp .ne 73, 3) := by decide +kernel
theorem dL_fails_440 : decode cL_fails 440 = .ok (.aload_n 0, 1) := by decide +kernel
theorem dL_fails_441 : decode cL_fails 441 = .ok (.iconst 0, 1) := by decide +kernel
theorem dL_fails_442 : decode cL_fails 442 = .ok (.bipush 6, 2) := by decide +kernel
theorem dL_fails_444 : decode cL_fails 444 = .ok (.invokevirtual 78, 3) := by decide +kernel
theorem dL_fails_447 : decode cL_fails 447 = .ok (.ldc 21, 2) := by decide +kernel
theorem dL_fails_449 : decode cL_fails 449 = .ok (.if_icmp .ne 61, 3) := by decide +kernel
theorem dL_fails_452 : decode cL_fails 452 = .ok (.aload_n 0, 1) := by decide +kernel
theorem dL_fails_453 : decode cL_fails 453 = .ok (.iconst 5, 1) := by decide +kernel
theorem dL_fails_454 : decode cL_fails 454 = .ok (.invokevirtual 81, 3) := by decide +kernel
theorem dL_fails_457 : decode cL_fails 457 = .ok (.ldc2_w 85, 3) := by decide +kernel
theorem dL_fails_460 : decode cL_fails 460 = .ok (.lcmp, 1) := by decide +kernel
theorem dL_fails_461 : decode cL_fails 461 = .ok (.ifCond .ne 49, 3) := by decide +kernel
theorem dL_fails_464 : decode cL_fails 464 = .ok (.aload_n 0, 1) := by decide +kernel
theorem dL_fails_465 : decode cL_fails 465 = .ok (.iload_n 1, 1) := by decide +kernel
theorem dL_fails_466 : decode cL_fails 466 = .ok (.invokevirtual 87, 3) := by decide +kernel
theorem dL_fails_469 : decode cL_fails 469 = .ok (.ldc 21, 2) := by decide +kernel
theorem dL_fails_471 : decode cL_fails 471 = .ok (.if_icmp .ne 39, 3) := by decide +kernel
theorem dL_fails_474 : decode cL_fails 474 = .ok (.aload_n 0, 1) := by decide +kernel
theorem dL_fails_475 : decode cL_fails 475 = .ok (.iconst 0, 1) := by decide +kernel
theorem dL_fails_476 : decode cL_fails 476 = .ok (.iconst 0, 1) := by decide +kernel
theorem dL_fails_477 : decode cL_fails 477 = .ok (.invokevirtual 90, 3) := by decide +kernel
theorem dL_fails_480 : decode cL_fails 480 = .ok (.ldc 21, 2) := by decide +kernel
theorem dL_fails_482 : decode cL_fails 482 = .ok (.if_icmp .ne 28, 3) := by decide +kernel
theorem dL_fails_485 : decode cL_fails 485 = .ok (.aload_n 0, 1) := by decide +kernel
theorem dL_fails_486 : decode cL_fails 486 = .ok (.iconst 0, 1) := by decide +kernel
theorem dL_fails_487 : decode cL_fails 487 = .ok (.iconst 4, 1) := by decide +kernel
theorem dL_fails_488 : decode cL_fails 488 = .ok (.invokevirtual 90, 3) := by decide +kernel
theorem dL_fails_491 : decode cL_fails 491 = .ok (.ldc 21, 2) := by decide +kernel
theorem dL_fails_493 : decode cL_fails 493 = .ok (.if_icmp .ne 17, 3) := by decide +kernel
theorem dL_fails_496 : decode cL_fails 496 = .ok (.aload_n 0, 1) := by decide +kernel
theorem dL_fails_497 : decode cL_fails 497 = .ok (.iconst (-1), 1) := by decide +kernel
theorem dL_fails_498 : decode cL_fails 498 = .ok (.invokevirtual 93, 3) := by decide +kernel
theorem dL_fails_501 : decode cL_fails 501 = .ok (.ldc 21, 2) := by decide +kernel
theorem dL_fails_503 : decode cL_fails 503 = .ok (.if_icmp .ne 7, 3) := by decide +kernel
theorem dL_fails_506 : decode cL_fails 506 = .ok (.iconst 1, 1) := by decide +kernel
theorem dL_fails_507 : decode cL_fails 507 = .ok (.goto 4, 3) := by decide +kernel
theorem dL_fails_510 : decode cL_fails 510 = .ok (.iconst 0, 1) := by decide +kernel
theorem dL_fails_511 : decode cL_fails 511 = .ok (.istore 5, 2) := by decide +kernel
theorem dL_fails_513 : decode cL_fails 513 = .ok (.iload 5, 2) := by decide +kernel
theorem dL_fails_515 : decode cL_fails 515 = .ok (.ifCond .eq 16, 3) := by decide +kernel
theorem dL_fails_518 : decode cL_fails 518 = .ok (.aload_n 0, 1) := by decide +kernel
theorem dL_fails_519 : decode cL_fails 519 = .ok (.invokevirtual 9, 3) := by decide +kernel
theorem dL_fails_522 : decode cL_fails 522 = .ok (.lload_n 3, 1) := by decide +kernel
theorem dL_fails_523 : decode cL_fails 523 = .ok (.lcmp, 1) := by decide +kernel
theorem dL_fails_524 : decode cL_fails 524 = .ok (.ifCond .ne 7, 3) := by decide +kernel
theorem dL_fails_527 : decode cL_fails 527 = .ok (.iconst 1, 1) := by decide +kernel
theorem dL_fails_528 : decode cL_fails 528 = .ok (.goto 4, 3) := by decide +kernel
theorem dL_fails_531 : decode cL_fails 531 = .ok (.iconst 0, 1) := by decide +kernel
theorem dL_fails_532 : decode cL_fails 532 = .ok (.ireturn, 1) := by decide +kernel
theorem dL_size_0 : decode cL_size 0 = .ok (.iload_n 0, 1) := by decide +kernel
theorem dL_size_1 : decode cL_size 1 = .ok (.ifCond .ge 8, 3) := by decide +kernel
theorem dL_size_4 : decode cL_size 4 = .ok (.iload_n 0, 1) := by decide +kernel
theorem dL_size_5 : decode cL_size 5 = .ok (.ineg, 1) := by decide +kernel
theorem dL_size_6 : decode cL_size 6 = .ok (.goto 4, 3) := by decide +kernel
theorem dL_size_9 : decode cL_size 9 = .ok (.iload_n 0, 1) := by decide +kernel
theorem dL_size_10 : decode cL_size 10 = .ok (.ireturn, 1) := by decide +kernel
set_option maxRecDepth 20000 in
theorem ggL_scale_X6_scale_1 : GoodIn wsL_scale [.code yX6_scale cX6_scale 2 (some .int)] := goodIn_r _ [5] (by decide +kernel) (by decide +kernel)
set_option maxRecDepth 20000 in
theorem ggL_scale_X6_scale_2 : GoodIn wsL_scale wsX6_scale_r1 := goodIn_r _ [6, 7, 8, 9, 10, 4, 11, 12, 13, 14, 15, 16, 17, 18, 19, 20, 21, 22, 23, 24, 25, 26, 27, 28] (by decide +kernel) (by decide +kernel)
set_option maxRecDepth 20000 in
theorem ggL_scale_X6_scale_3 : GoodIn wsL_scale wsX6_scale_r2 := goodIn_r _ [29, 30, 31, 32, 33, 34, 35, 36, 37, 38, 39, 40, 41, 42, 43, 44, 45, 46, 47, 48, 49, 50, 51, 52] (by decide +kernel) (by decide +kernel)
set_option maxRecDepth 20000 in
theorem ggL_scale_X6_scale_4 : GoodIn wsL_scale wsX6_scale_r3 := goodIn_r _ [53, 54, 55, 56, 57, 58, 59, 60, 61, 62, 63, 64, 65, 66] (by decide +kernel) (by decide +kernel)
set_option maxRecDepth 20000 in
theorem ggL_scale_X6_scale_5 : GoodIn wsL_scale wsX60 := goodIn_r _ [80, 81, 82, 83, 84, 85, 86, 87] (by decide +kernel) (by decide +kernel)
set_option maxRecDepth 20000 in
theorem ggL_scale_X6_scale_6 : GoodIn wsL_scale wsX40 := goodIn_r _ [88, 89, 90, 91, 92, 93] (by decide +kernel) (by decide +kernel)
set_option maxRecDepth 20000 in
theorem ggL_scale_X6_scale_7 : GoodIn wsL_scale wsX30 := goodIn_r _ [94, 95, 96, 97, 98, 99, 100, 101, 102, 103, 104] (by decide +kernel) (by decide +kernel)
set_option maxRecDepth 20000 in
theorem ggL_scale_X6_scale : GoodIn wsL_scale wsX6_scale := goodIn_app (a := [.code yX6_scale cX6_scale 2 (some .int)]) ggL_scale_X6_scale_1 (goodIn_app (goodIn_app (goodIn_app (goodIn_app ggL_scale_X6_scale_2 (goodIn_app ggL_scale_X6_scale_3 ggL_scale_X6_scale_4)) ggL_scale_X6_scale_5) ggL_scale_X6_scale_6) ggL_scale_X6_scale_7)
set_option maxRecDepth 20000 in
theorem gL_scale_X6_scale : GoodIn wsL_scale (wsV RL 33 RX6 yX6_scale wsX6_scale) := goodIn_app (goodIn_of _ (by decide +kernel)) ggL_scale_X6_scale
set_option maxRecDepth 20000 in
theorem ggL_scale_X6_setting : GoodIn wsL_scale wsX6_setting := goodIn_r _ [70, 71, 6, 7, 8, 72, 73, 4, 74, 75, 28, 29, 15, 30, 31, 80, 81, 82, 83, 84, 85, 86, 87, 88, 89, 90, 91, 92, 93, 94, 95, 96, 97, 98, 99, 100, 101, 102, 103, 104] (by decide +kernel) (by decide +kernel)
set_option maxRecDepth 20000 in
theorem gL_scale_X6_setting : GoodIn wsL_scale (wsV RL 22 RX6 yX6_setting wsX6_setting) := goodIn_app (goodIn_of _ (by decide +kernel)) ggL_scale_X6_setting
set_option maxRecDepth 20000 in
theorem ggL_scale_L_size : GoodIn wsL_scale wsL_size := goodIn_r _ [79] (by decide +kernel) (by decide +kernel)
set_option maxRecDepth 20000 in
theorem gL_scale_L_size : GoodIn wsL_scale (va_wsS RL 96 yL_size wsL_size) := goodIn_app (goodIn_of _ (by decide +kernel)) ggL_scale_L_size
theorem dL_scale_0 : decode cL_scale 0 = .ok (.aload_n 0, 1) := by decide +kernel
theorem dL_scale_1 : decode cL_scale 1 = .ok (.iconst 1, 1) := by decide +kernel
theorem dL_scale_2 : decode cL_scale 2 = .ok (.invokevirtual 33, 3) := by decide +kernel
theorem dL_scale_5 : decode cL_scale 5 = .ok (.aload_n 0, 1) := by decide +kernel
theorem dL_scale_6 : decode cL_scale 6 = .ok (.iconst 4, 1) := by decide +kernel
theorem dL_scale_7 : decode cL_scale 7 = .ok (.invokevirtual 33, 3) := by decide +kernel
theorem dL_scale_10 : decode cL_scale 10 = .ok (.isub, 1) := by decide +kernel
theorem dL_scale_11 : decode cL_scale 11 = .ok (.istore_n 1, 1) := by decide +kernel
theorem dL_scale_12 : decode cL_scale 12 = .ok (.aload_n 0, 1) := by decide +kernel
theorem dL_scale_13 : decode cL_scale 13 = .ok (.iconst 2, 1) := by decide +kernel
theorem dL_scale_14 : decode cL_scale 14 = .ok (.invokevirtual 33, 3) := by decide +kernel
theorem dL_scale_17 : decode cL_scale 17 = .ok (.istore_n 2, 1) := by decide +kernel
theorem dL_scale_18 : decode cL_scale 18 = .ok (.aload_n 0, 1) := by decide +kernel
theorem dL_scale_19 : decode cL_scale 19 = .ok (.iconst 2, 1) := by decide +kernel
theorem dL_scale_20 : decode cL_scale 20 = .ok (.invokevirtual 22, 3) := by decide +kernel
theorem dL_scale_23 : decode cL_scale 23 = .ok (.istore_n 3, 1) := by decide +kernel
theorem dL_scale_24 : decode cL_scale 24 = .ok (.iload_n 2, 1) := by decide +kernel
theorem dL_scale_25 : decode cL_scale 25 = .ok (.iload_n 3, 1) := by decide +kernel
theorem dL_scale_26 : decode cL_scale 26 = .ok (.irem, 1) := by decide +kernel
theorem dL_scale_27 : decode cL_scale 27 = .ok (.ifCond .ne 85, 3) := by decide +kernel
theorem dL_scale_30 : decode cL_scale 30 = .ok (.iconst 2, 1) := by decide +kernel
theorem dL_scale_31 : decode cL_scale 31 = .ok (.iload_n 2, 1) := by decide +kernel
theorem dL_scale_32 : decode cL_scale 32 = .ok (.iload_n 1, 1) := by decide +kernel
theorem dL_scale_33 : decode cL_scale 33 = .ok (.isub, 1) := by decide +kernel
theorem dL_scale_34 : decode cL_scale 34 = .ok (.invokestatic 96, 3) := by decide +kernel
theorem dL_scale_37 : decode cL_scale 37 = .ok (.imul, 1) := by decide +kernel
theorem dL_scale_38 : decode cL_scale 38 = .ok (.iload_n 3, 1) := by decide +kernel
theorem dL_scale_39 : decode cL_scale 39 = .ok (.if_icmp .gt 73, 3) := by decide +kernel
theorem dL_scale_42 : decode cL_scale 42 = .ok (.iconst 2, 1) := by decide +kernel
theorem dL_scale_43 : decode cL_scale 43 = .ok (.iload_n 1, 1) := by decide +kernel
theorem dL_scale_44 : decode cL_scale 44 = .ok (.iload_n 2, 1) := by decide +kernel
theorem dL_scale_45 : decode cL_scale 45 = .ok (.isub, 1) := by decide +kernel
theorem dL_scale_46 : decode cL_scale 46 = .ok (.imul, 1) := by decide +kernel
theorem dL_scale_47 : decode cL_scale 47 = .ok (.iload_n 3, 1) := by decide +kernel
theorem dL_scale_48 : decode cL_scale 48 = .ok (.if_icmp .eq 64, 3) := by decide +kernel
theorem dL_scale_51 : decode cL_scale 51 = .ok (.aload_n 0, 1) := by decide +kernel
theorem dL_scale_52 : decode cL_scale 52 = .ok (.iconst 3, 1) := by decide +kernel
theorem dL_scale_53 : decode cL_scale 53 = .ok (.invokevirtual 33, 3) := by decide +kernel
theorem dL_scale_56 : decode cL_scale 56 = .ok (.iload_n 2, 1) := by decide +kernel
theorem dL_scale_57 : decode cL_scale 57 = .ok (.aload_n 0, 1) := by decide +kernel
theorem dL_scale_58 : decode cL_scale 58 = .ok (.iconst 5, 1) := by decide +kernel
theorem dL_scale_59 : decode cL_scale 59 = .ok (.invokevirtual 33, 3) := by decide +kernel
theorem dL_scale_62 : decode cL_scale 62 = .ok (.isub, 1) := by decide +kernel
theorem dL_scale_63 : decode cL_scale 63 = .ok (.if_icmp .ne 49, 3) := by decide +kernel
theorem dL_scale_66 : decode cL_scale 66 = .ok (.aload_n 0, 1) := by decide +kernel
theorem dL_scale_67 : decode cL_scale 67 = .ok (.bipush 8, 2) := by decide +kernel
theorem dL_scale_69 : decode cL_scale 69 = .ok (.invokevirtual 33, 3) := by decide +kernel
theorem dL_scale_72 : decode cL_scale 72 = .ok (.iload_n 1, 1) := by decide +kernel
theorem dL_scale_73 : decode cL_scale 73 = .ok (.aload_n 0, 1) := by decide +kernel
theorem dL_scale_74 : decode cL_scale 74 = .ok (.iconst 3, 1) := by decide +kernel
theorem dL_scale_75 : decode cL_scale 75 = .ok (.invokevirtual 22, 3) := by decide +kernel
theorem dL_scale_78 : decode cL_scale 78 = .ok (.if_icmp .le 7, 3) := by decide +kernel
theorem dL_scale_81 : decode cL_scale 81 = .ok (.iconst 1, 1) := by decide +kernel
theorem dL_scale_82 : decode cL_scale 82 = .ok (.goto 4, 3) := by decide +kernel
theorem dL_scale_85 : decode cL_scale 85 = .ok (.iconst 0, 1) := by decide +kernel
theorem dL_scale_86 : decode cL_scale 86 = .ok (.if_icmp .ne 26, 3) := by decide +kernel
theorem dL_scale_89 : decode cL_scale 89 = .ok (.aload_n 0, 1) := by decide +kernel
theorem dL_scale_90 : decode cL_scale 90 = .ok (.bipush 9, 2) := by decide +kernel
theorem dL_scale_92 : decode cL_scale 92 = .ok (.invokevirtual 33, 3) := by decide +kernel
theorem dL_scale_95 : decode cL_scale 95 = .ok (.ifCond .lt 17, 3) := by decide +kernel
theorem dL_scale_98 : decode cL_scale 98 = .ok (.aload_n 0, 1) := by decide +kernel
theorem dL_scale_99 : decode cL_scale 99 = .ok (.bipush 9, 2) := by decide +kernel
theorem dL_scale_101 : decode cL_scale 101 = .ok (.invokevirtual 33, 3) := by decide +kernel
theorem dL_scale_104 : decode cL_scale 104 = .ok (.iconst 3, 1) := by decide +kernel
theorem dL_scale_105 : decode cL_scale 105 = .ok (.if_icmp .ge 7, 3) := by decide +kernel
theorem dL_scale_108 : decode cL_scale 108 = .ok (.iconst 1, 1) := by decide +kernel
theorem dL_scale_109 : decode cL_scale 109 = .ok (.goto 4, 3) := by decide +kernel
theorem dL_scale_112 : decode cL_scale 112 = .ok (.iconst 0, 1) := by decide +kernel
theorem dL_scale_113 : decode cL_scale 113 = .ok (.ireturn, 1) := by decide +kernel
theorem dL_begun_0 : decode cL_begun 0 = .ok (.iload_n 0, 1) := by decide +kernel
theorem dL_begun_1 : decode cL_begun 1 = .ok (.bipush 9, 2) := by decide +kernel
theorem dL_begun_3 : decode cL_begun 3 = .ok (.iadd, 1) := by decide +kernel
theorem dL_begun_4 : decode cL_begun 4 = .ok (.bipush 10, 2) := by decide +kernel
theorem dL_begun_6 : decode cL_begun 6 = .ok (.idiv, 1) := by decide +kernel
theorem dL_begun_7 : decode cL_begun 7 = .ok (.ireturn, 1) := by decide +kernel
set_option maxRecDepth 20000 in
theorem ggL_parcel_X6_parcel_1 : GoodIn wsL_parcel [.code yX6_parcel cX6_parcel 3 (some .int)] := goodIn_r _ [6] (by decide +kernel) (by decide +kernel)
set_option maxRecDepth 20000 in
theorem ggL_parcel_X6_parcel_2 : GoodIn wsL_parcel wsX6_parcel_r1 := goodIn_r _ [7, 8, 9, 10, 11, 12, 13, 14, 15, 16, 17, 5, 18, 19, 20, 21, 22, 23, 24, 25, 26, 27, 28, 29] (by decide +kernel) (by decide +kernel)
set_option maxRecDepth 20000 in
theorem ggL_parcel_X6_parcel_3 : GoodIn wsL_parcel wsX6_parcel_r2 := goodIn_r _ [30, 31, 32] (by decide +kernel) (by decide +kernel)
set_option maxRecDepth 20000 in
theorem ggL_parcel_X6_parcel_4 : GoodIn wsL_parcel wsX60 := goodIn_r _ [49, 50, 51, 52, 53, 54, 55, 56] (by decide +kernel) (by decide +kernel)
set_option maxRecDepth 20000 in
theorem ggL_parcel_X6_parcel_5 : GoodIn wsL_parcel wsX40 := goodIn_r _ [57, 58, 59, 60, 61, 62] (by decide +kernel) (by decide +kernel)
set_option maxRecDepth 20000 in
theorem ggL_parcel_X6_parcel_6 : GoodIn wsL_parcel wsX50 := goodIn_r _ [63, 64, 65, 66] (by decide +kernel) (by decide +kernel)
set_option maxRecDepth 20000 in
theorem ggL_parcel_X6_parcel : GoodIn wsL_parcel wsX6_parcel := goodIn_app (a := [.code yX6_parcel cX6_parcel 3 (some .int)]) ggL_parcel_X6_parcel_1 (goodIn_app (goodIn_app (goodIn_app (goodIn_app ggL_parcel_X6_parcel_2 ggL_parcel_X6_parcel_3) ggL_parcel_X6_parcel_4) ggL_parcel_X6_parcel_5) ggL_parcel_X6_parcel_6)
set_option maxRecDepth 20000 in
theorem gL_parcel_X6_parcel : GoodIn wsL_parcel (wsV RL 60 RX6 yX6_parcel wsX6_parcel) := goodIn_app (goodIn_of _ (by decide +kernel)) ggL_parcel_X6_parcel
set_option maxRecDepth 20000 in
theorem ggL_parcel_X6_why : GoodIn wsL_parcel wsX6_why := goodIn_r _ [36, 7, 8, 9, 25, 10, 11, 12, 13, 14, 15, 26, 27, 28, 29, 30, 31, 32, 49, 50, 51, 52, 53, 54, 55, 56, 57, 58, 59, 60, 61, 62, 63, 64, 65, 66] (by decide +kernel) (by decide +kernel)
set_option maxRecDepth 20000 in
theorem gL_parcel_X6_why : GoodIn wsL_parcel (wsV RL 63 RX6 yX6_why wsX6_why) := goodIn_app (goodIn_of _ (by decide +kernel)) ggL_parcel_X6_why
set_option maxRecDepth 20000 in
theorem ggL_parcel_L_begun : GoodIn wsL_parcel wsL_begun := goodIn_r _ [40] (by decide +kernel) (by decide +kernel)
set_option maxRecDepth 20000 in
theorem gL_parcel_L_begun : GoodIn wsL_parcel (va_wsS RL 100 yL_begun wsL_begun) := goodIn_app (goodIn_of _ (by decide +kernel)) ggL_parcel_L_begun
set_option maxRecDepth 20000 in
theorem ggL_parcel_X6_density : GoodIn wsL_parcel wsX6_density := goodIn_r _ [44, 7, 8, 45, 10, 11, 12, 13, 14, 15, 46, 47, 5, 48, 26, 27, 28, 29, 30, 31, 32, 49, 50, 51, 52, 53, 54, 55, 56, 57, 58, 59, 60, 61, 62, 63, 64, 65, 66] (by decide +kernel) (by decide +kernel)
set_option maxRecDepth 20000 in
theorem gL_parcel_X6_density : GoodIn wsL_parcel (wsV RL 66 RX6 yX6_density wsX6_density) := goodIn_app (goodIn_of _ (by decide +kernel)) ggL_parcel_X6_density
theorem dL_parcel_0 : decode cL_parcel 0 = .ok (.aload_n 0, 1) := by decide +kernel
theorem dL_parcel_1 : decode cL_parcel 1 = .ok (.iload_n 1, 1) := by decide +kernel
theorem dL_parcel_2 : decode cL_parcel 2 = .ok (.iconst 1, 1) := by decide +kernel
theorem dL_parcel_3 : decode cL_parcel 3 = .ok (.invokevirtual 60, 3) := by decide +kernel
theorem dL_parcel_6 : decode cL_parcel 6 = .ok (.istore_n 2, 1) := by decide +kernel
theorem dL_parcel_7 : decode cL_parcel 7 = .ok (.aload_n 0, 1) := by decide +kernel
theorem dL_parcel_8 : decode cL_parcel 8 = .ok (.iload_n 1, 1) := by decide +kernel
theorem dL_parcel_9 : decode cL_parcel 9 = .ok (.iconst 2, 1) := by decide +kernel
theorem dL_parcel_10 : decode cL_parcel 10 = .ok (.invokevirtual 60, 3) := by decide +kernel
theorem dL_parcel_13 : decode cL_parcel 13 = .ok (.istore_n 3, 1) := by decide +kernel
theorem dL_parcel_14 : decode cL_parcel 14 = .ok (.aload_n 0, 1) := by decide +kernel
theorem dL_parcel_15 : decode cL_parcel 15 = .ok (.iload_n 1, 1) := by decide +kernel
theorem dL_parcel_16 : decode cL_parcel 16 = .ok (.iconst 3, 1) := by decide +kernel
theorem dL_parcel_17 : decode cL_parcel 17 = .ok (.invokevirtual 60, 3) := by decide +kernel
theorem dL_parcel_20 : decode cL_parcel 20 = .ok (.istore 4, 2) := by decide +kernel
theorem dL_parcel_22 : decode cL_parcel 22 = .ok (.aload_n 0, 1) := by decide +kernel
theorem dL_parcel_23 : decode cL_parcel 23 = .ok (.iload_n 1, 1) := by decide +kernel
theorem dL_parcel_24 : decode cL_parcel 24 = .ok (.iconst 0, 1) := by decide +kernel
theorem dL_parcel_25 : decode cL_parcel 25 = .ok (.invokevirtual 60, 3) := by decide +kernel
theorem dL_parcel_28 : decode cL_parcel 28 = .ok (.istore 5, 2) := by decide +kernel
theorem dL_parcel_30 : decode cL_parcel 30 = .ok (.aload_n 0, 1) := by decide +kernel
theorem dL_parcel_31 : decode cL_parcel 31 = .ok (.iload_n 1, 1) := by decide +kernel
theorem dL_parcel_32 : decode cL_parcel 32 = .ok (.iconst 5, 1) := by decide +kernel
theorem dL_parcel_33 : decode cL_parcel 33 = .ok (.invokevirtual 60, 3) := by decide +kernel
theorem dL_parcel_36 : decode cL_parcel 36 = .ok (.istore 6, 2) := by decide +kernel
theorem dL_parcel_38 : decode cL_parcel 38 = .ok (.iload 5, 2) := by decide +kernel
theorem dL_parcel_40 : decode cL_parcel 40 = .ok (.iload 6, 2) := by decide +kernel
theorem dL_parcel_42 : decode cL_parcel 42 = .ok (.if_icmp .le 8, 3) := by decide +kernel
theorem dL_parcel_45 : decode cL_parcel 45 = .ok (.iload 5, 2) := by decide +kernel
theorem dL_parcel_47 : decode cL_parcel 47 = .ok (.goto 5, 3) := by decide +kernel
theorem dL_parcel_50 : decode cL_parcel 50 = .ok (.iload 6, 2) := by decide +kernel
theorem dL_parcel_52 : decode cL_parcel 52 = .ok (.istore 7, 2) := by decide +kernel
theorem dL_parcel_54 : decode cL_parcel 54 = .ok (.iload_n 2, 1) := by decide +kernel
theorem dL_parcel_55 : decode cL_parcel 55 = .ok (.iload_n 3, 1) := by decide +kernel
theorem dL_parcel_56 : decode cL_parcel 56 = .ok (.if_icmp .le 18, 3) := by decide +kernel
theorem dL_parcel_59 : decode cL_parcel 59 = .ok (.iload_n 2, 1) := by decide +kernel
theorem dL_parcel_60 : decode cL_parcel 60 = .ok (.iload 4, 2) := by decide +kernel
theorem dL_parcel_62 : decode cL_parcel 62 = .ok (.if_icmp .le 7, 3) := by decide +kernel
theorem dL_parcel_65 : decode cL_parcel 65 = .ok (.iload_n 2, 1) := by decide +kernel
theorem dL_parcel_66 : decode cL_parcel 66 = .ok (.goto 20, 3) := by decide +kernel
theorem dL_parcel_69 : decode cL_parcel 69 = .ok (.iload 4, 2) := by decide +kernel
theorem dL_parcel_71 : decode cL_parcel 71 = .ok (.goto 15, 3) := by decide +kernel
theorem dL_parcel_74 : decode cL_parcel 74 = .ok (.iload_n 3, 1) := by decide +kernel
theorem dL_parcel_75 : decode cL_parcel 75 = .ok (.iload 4, 2) := by decide +kernel
theorem dL_parcel_77 : decode cL_parcel 77 = .ok (.if_icmp .le 7, 3) := by decide +kernel
theorem dL_parcel_80 : decode cL_parcel 80 = .ok (.iload_n 3, 1) := by decide +kernel
theorem dL_parcel_81 : decode cL_parcel 81 = .ok (.goto 5, 3) := by decide +kernel
theorem dL_parcel_84 : decode cL_parcel 84 = .ok (.iload 4, 2) := by decide +kernel
theorem dL_parcel_86 : decode cL_parcel 86 = .ok (.istore 8, 2) := by decide +kernel
theorem dL_parcel_88 : decode cL_parcel 88 = .ok (.aload_n 0, 1) := by decide +kernel
theorem dL_parcel_89 : decode cL_parcel 89 = .ok (.iload_n 1, 1) := by decide +kernel
theorem dL_parcel_90 : decode cL_parcel 90 = .ok (.bipush 9, 2) := by decide +kernel
theorem dL_parcel_92 : decode cL_parcel 92 = .ok (.invokevirtual 60, 3) := by decide +kernel
theorem dL_parcel_95 : decode cL_parcel 95 = .ok (.iconst 2, 1) := by decide +kernel
theorem dL_parcel_96 : decode cL_parcel 96 = .ok (.iload_n 2, 1) := by decide +kernel
theorem dL_parcel_97 : decode cL_parcel 97 = .ok (.iload_n 3, 1) := by decide +kernel
theorem dL_parcel_98 : decode cL_parcel 98 = .ok (.iadd, 1) := by decide +kernel
theorem dL_parcel_99 : decode cL_parcel 99 = .ok (.iload 4, 2) := by decide +kernel
theorem dL_parcel_101 : decode cL_parcel 101 = .ok (.iadd, 1) := by decide +kernel
theorem dL_parcel_102 : decode cL_parcel 102 = .ok (.imul, 1) := by decide +kernel
theorem dL_parcel_103 : decode cL_parcel 103 = .ok (.iload 8, 2) := by decide +kernel
theorem dL_parcel_105 : decode cL_parcel 105 = .ok (.isub, 1) := by decide +kernel
theorem dL_parcel_106 : decode cL_parcel 106 = .ok (.if_icmp .ne 57, 3) := by decide +kernel
theorem dL_parcel_109 : decode cL_parcel 109 = .ok (.aload_n 0, 1) := by decide +kernel
theorem dL_parcel_110 : decode cL_parcel 110 = .ok (.iload_n 1, 1) := by decide +kernel
theorem dL_parcel_111 : decode cL_parcel 111 = .ok (.bipush 6, 2) := by decide +kernel
theorem dL_parcel_113 : decode cL_parcel 113 = .ok (.invokevirtual 60, 3) := by decide +kernel
theorem dL_parcel_116 : decode cL_parcel 116 = .ok (.iload 7, 2) := by decide +kernel
theorem dL_parcel_118 : decode cL_parcel 118 = .ok (.if_icmp .lt 45, 3) := by decide +kernel
theorem dL_parcel_121 : decode cL_parcel 121 = .ok (.aload_n 0, 1) := by decide +kernel
theorem dL_parcel_122 : decode cL_parcel 122 = .ok (.iload_n 1, 1) := by decide +kernel
theorem dL_parcel_123 : decode cL_parcel 123 = .ok (.bipush 8, 2) := by decide +kernel
theorem dL_parcel_125 : decode cL_parcel 125 = .ok (.invokevirtual 60, 3) := by decide +kernel
theorem dL_parcel_128 : decode cL_parcel 128 = .ok (.ifCond .lt 35, 3) := by decide +kernel
theorem dL_parcel_131 : decode cL_parcel 131 = .ok (.aload_n 0, 1) := by decide +kernel
theorem dL_parcel_132 : decode cL_parcel 132 = .ok (.iload_n 1, 1) := by decide +kernel
theorem dL_parcel_133 : decode cL_parcel 133 = .ok (.iconst 0, 1) := by decide +kernel
theorem dL_parcel_134 : decode cL_parcel 134 = .ok (.invokevirtual 63, 3) := by decide +kernel
theorem dL_parcel_137 : decode cL_parcel 137 = .ok (.iload 5, 2) := by decide +kernel
theorem dL_parcel_139 : decode cL_parcel 139 = .ok (.iload 6, 2) := by decide +kernel
theorem dL_parcel_141 : decode cL_parcel 141 = .ok (.if_icmp .le 7, 3) := by decide +kernel
theorem dL_parcel_144 : decode cL_parcel 144 = .ok (.iconst 1, 1) := by decide +kernel
theorem dL_parcel_145 : decode cL_parcel 145 = .ok (.goto 15, 3) := by decide +kernel
theorem dL_parcel_148 : decode cL_parcel 148 = .ok (.iload 5, 2) := by decide +kernel
theorem dL_parcel_150 : decode cL_parcel 150 = .ok (.iload 6, 2) := by decide +kernel
theorem dL_parcel_152 : decode cL_parcel 152 = .ok (.if_icmp .ge 7, 3) := by decide +kernel
theorem dL_parcel_155 : decode cL_parcel 155 = .ok (.iconst 2, 1) := by decide +kernel
theorem dL_parcel_156 : decode cL_parcel 156 = .ok (.goto 4, 3) := by decide +kernel
theorem dL_parcel_159 : decode cL_parcel 159 = .ok (.iconst 3, 1) := by decide +kernel
theorem dL_parcel_160 : decode cL_parcel 160 = .ok (.if_icmp .eq 5, 3) := by decide +kernel
theorem dL_parcel_163 : decode cL_parcel 163 = .ok (.iconst 0, 1) := by decide +kernel
theorem dL_parcel_164 : decode cL_parcel 164 = .ok (.ireturn, 1) := by decide +kernel
theorem dL_parcel_165 : decode cL_parcel 165 = .ok (.aload_n 0, 1) := by decide +kernel
theorem dL_parcel_166 : decode cL_parcel 166 = .ok (.iload_n 1, 1) := by decide +kernel
theorem dL_parcel_167 : decode cL_parcel 167 = .ok (.iconst 1, 1) := by decide +kernel
theorem dL_parcel_168 : decode cL_parcel 168 = .ok (.invokevirtual 63, 3) := by decide +kernel
theorem dL_parcel_171 : decode cL_parcel 171 = .ok (.istore 9, 2) := by decide +kernel
theorem dL_parcel_173 : decode cL_parcel 173 = .ok (.bipush 29, 2) := by decide +kernel
theorem dL_parcel_175 : decode cL_parcel 175 = .ok (.istore 10, 2) := by decide +kernel
theorem dL_parcel_177 : decode cL_parcel 177 = .ok (.iconst 2, 1) := by decide +kernel
theorem dL_parcel_178 : decode cL_parcel 178 = .ok (.istore 11, 2) := by decide +kernel
theorem dL_parcel_180 : decode cL_parcel 180 = .ok (.aload_n 0, 1) := by decide +kernel
theorem dL_parcel_181 : decode cL_parcel 181 = .ok (.iload_n 1, 1) := by decide +kernel
theorem dL_parcel_182 : decode cL_parcel 182 = .ok (.iload 11, 2) := by decide +kernel
theorem dL_parcel_184 : decode cL_parcel 184 = .ok (.invokevirtual 63, 3) := by decide +kernel
theorem dL_parcel_187 : decode cL_parcel 187 = .ok (.ldc 99, 2) := by decide +kernel
theorem dL_parcel_189 : decode cL_parcel 189 = .ok (.if_icmp .eq 44, 3) := by decide +kernel
theorem dL_parcel_192 : decode cL_parcel 192 = .ok (.aload_n 0, 1) := by decide +kernel
theorem dL_parcel_193 : decode cL_parcel 193 = .ok (.iload_n 1, 1) := by decide +kernel
theorem dL_parcel_194 : decode cL_parcel 194 = .ok (.iload 11, 2) := by decide +kernel
theorem dL_parcel_196 : decode cL_parcel 196 = .ok (.invokevirtual 63, 3) := by decide +kernel
theorem dL_parcel_199 : decode cL_parcel 199 = .ok (.iload 10, 2) := by decide +kernel
theorem dL_parcel_201 : decode cL_parcel 201 = .ok (.if_icmp .le 15, 3) := by decide +kernel
theorem dL_parcel_204 : decode cL_parcel 204 = .ok (.aload_n 0, 1) := by decide +kernel
theorem dL_parcel_205 : decode cL_parcel 205 = .ok (.iload_n 1, 1) := by decide +kernel
theorem dL_parcel_206 : decode cL_parcel 206 = .ok (.iload 11, 2) := by decide +kernel
theorem dL_parcel_208 : decode cL_parcel 208 = .ok (.invokevirtual 63, 3) := by decide +kernel
theorem dL_parcel_211 : decode cL_parcel 211 = .ok (.bipush 37, 2) := by decide +kernel
theorem dL_parcel_213 : decode cL_parcel 213 = .ok (.if_icmp .le 5, 3) := by decide +kernel
theorem dL_parcel_216 : decode cL_parcel 216 = .ok (.iconst 0, 1) := by decide +kernel
theorem dL_parcel_217 : decode cL_parcel 217 = .ok (.ireturn, 1) := by decide +kernel
theorem dL_parcel_218 : decode cL_parcel 218 = .ok (.aload_n 0, 1) := by decide +kernel
theorem dL_parcel_219 : decode cL_parcel 219 = .ok (.iload_n 1, 1) := by decide +kernel
theorem dL_parcel_220 : decode cL_parcel 220 = .ok (.iload 11, 2) := by decide +kernel
theorem dL_parcel_222 : decode cL_parcel 222 = .ok (.invokevirtual 63, 3) := by decide +kernel
theorem dL_parcel_225 : decode cL_parcel 225 = .ok (.istore 10, 2) := by decide +kernel
theorem dL_parcel_227 : decode cL_parcel 227 = .ok (.iinc 11 1, 3) := by decide +kernel
theorem dL_parcel_230 : decode cL_parcel 230 = .ok (.goto (-50), 3) := by decide +kernel
theorem dL_parcel_233 : decode cL_parcel 233 = .ok (.iload 5, 2) := by decide +kernel
theorem dL_parcel_235 : decode cL_parcel 235 = .ok (.i2f, 1) := by decide +kernel
theorem dL_parcel_236 : decode cL_parcel 236 = .ok (.iload_n 2, 1) := by decide +kernel
theorem dL_parcel_237 : decode cL_parcel 237 = .ok (.invokestatic 100, 3) := by decide +kernel
theorem dL_parcel_240 : decode cL_parcel 240 = .ok (.iload_n 3, 1) := by decide +kernel
theorem dL_parcel_241 : decode cL_parcel 241 = .ok (.invokestatic 100, 3) := by decide +kernel
theorem dL_parcel_244 : decode cL_parcel 244 = .ok (.imul, 1) := by decide +kernel
theorem dL_parcel_245 : decode cL_parcel 245 = .ok (.iload 4, 2) := by decide +kernel
theorem dL_parcel_247 : decode cL_parcel 247 = .ok (.invokestatic 100, 3) := by decide +kernel
theorem dL_parcel_250 : decode cL_parcel 250 = .ok (.imul, 1) := by decide +kernel
theorem dL_parcel_251 : decode cL_parcel 251 = .ok (.i2f, 1) := by decide +kernel
theorem dL_parcel_252 : decode cL_parcel 252 = .ok (.fdiv, 1) := by decide +kernel
theorem dL_parcel_253 : decode cL_parcel 253 = .ok (.fstore 12, 2) := by decide +kernel
theorem dL_parcel_255 : decode cL_parcel 255 = .ok (.iload 9, 2) := by decide +kernel
theorem dL_parcel_257 : decode cL_parcel 257 = .ok (.bipush 20, 2) := by decide +kernel
theorem dL_parcel_259 : decode cL_parcel 259 = .ok (.if_icmp .eq 17, 3) := by decide +kernel
theorem dL_parcel_262 : decode cL_parcel 262 = .ok (.iload 9, 2) := by decide +kernel
theorem dL_parcel_264 : decode cL_parcel 264 = .ok (.bipush 10, 2) := by decide +kernel
theorem dL_parcel_266 : decode cL_parcel 266 = .ok (.if_icmp .lt 48, 3) := by decide +kernel
theorem dL_parcel_269 : decode cL_parcel 269 = .ok (.iload 9, 2) := by decide +kernel
theorem dL_parcel_271 : decode cL_parcel 271 = .ok (.bipush 16, 2) := by decide +kernel
theorem dL_parcel_273 : decode cL_parcel 273 = .ok (.if_icmp .ge 41, 3) := by decide +kernel
theorem dL_parcel_276 : decode cL_parcel 276 = .ok (.iload 11, 2) := by decide +kernel
theorem dL_parcel_278 : decode cL_parcel 278 = .ok (.iconst 2, 1) := by decide +kernel
theorem dL_parcel_279 : decode cL_parcel 279 = .ok (.if_icmp .gt 20, 3) := by decide +kernel
theorem dL_parcel_282 : decode cL_parcel 282 = .ok (.aload_n 0, 1) := by decide +kernel
theorem dL_parcel_283 : decode cL_parcel 283 = .ok (.iload_n 1, 1) := by decide +kernel
theorem dL_parcel_284 : decode cL_parcel 284 = .ok (.bipush 8, 2) := by decide +kernel
theorem dL_parcel_286 : decode cL_parcel 286 = .ok (.invokevirtual 60, 3) := by decide +kernel
theorem dL_parcel_289 : decode cL_parcel 289 = .ok (.aload_n 0, 1) := by decide +kernel
theorem dL_parcel_290 : decode cL_parcel 290 = .ok (.iload_n 1, 1) := by decide +kernel
theorem dL_parcel_291 : decode cL_parcel 291 = .ok (.bipush 7, 2) := by decide +kernel
theorem dL_parcel_293 : decode cL_parcel 293 = .ok (.invokevirtual 60, 3) := by decide +kernel
theorem dL_parcel_296 : decode cL_parcel 296 = .ok (.if_icmp .ne 18, 3) := by decide +kernel
theorem dL_parcel_299 : decode cL_parcel 299 = .ok (.aload_n 0, 1) := by decide +kernel
theorem dL_parcel_300 : decode cL_parcel 300 = .ok (.iload_n 1, 1) := by decide +kernel
theorem dL_parcel_301 : decode cL_parcel 301 = .ok (.invokevirtual 66, 3) := by decide +kernel
theorem dL_parcel_304 : decode cL_parcel 304 = .ok (.fload 12, 2) := by decide +kernel
theorem dL_parcel_306 : decode cL_parcel 306 = .ok (.fcmp .l, 1) := by decide +kernel
theorem dL_parcel_307 : decode cL_parcel 307 = .ok (.ifCond .ne 7, 3) := by decide +kernel
theorem dL_parcel_310 : decode cL_parcel 310 = .ok (.iconst 1, 1) := by decide +kernel
theorem dL_parcel_311 : decode cL_parcel 311 = .ok (.goto 4, 3) := by decide +kernel
theorem dL_parcel_314 : decode cL_parcel 314 = .ok (.iconst 0, 1) := by decide +kernel
theorem dL_parcel_315 : decode cL_parcel 315 = .ok (.ireturn, 1) := by decide +kernel
set_option maxRecDepth 20000 in
theorem ggL_sums_X6_parcel_1 : GoodIn wsL_sums [.code yX6_parcel cX6_parcel 3 (some .int)] := goodIn_r _ [6] (by decide +kernel) (by decide +kernel)
set_option maxRecDepth 20000 in
theorem ggL_sums_X6_parcel_2 : GoodIn wsL_sums wsX6_parcel_r1 := goodIn_r _ [7, 8, 9, 10, 11, 12, 13, 14, 15, 16, 17, 5, 18, 19, 20, 21, 22, 23, 24, 25, 26, 27, 28, 29] (by decide +kernel) (by decide +kernel)
set_option maxRecDepth 20000 in
theorem ggL_sums_X6_parcel_3 : GoodIn wsL_sums wsX6_parcel_r2 := goodIn_r _ [30, 31, 32] (by decide +kernel) (by decide +kernel)
set_option maxRecDepth 20000 in
theorem ggL_sums_X6_parcel_4 : GoodIn wsL_sums wsX60 := goodIn_r _ [70, 71, 72, 73, 74, 75, 76, 77] (by decide +kernel) (by decide +kernel)
set_option maxRecDepth 20000 in
theorem ggL_sums_X6_parcel_5 : GoodIn wsL_sums wsX40 := goodIn_r _ [78, 79, 80, 81, 82, 83] (by decide +kernel) (by decide +kernel)
set_option maxRecDepth 20000 in
theorem ggL_sums_X6_parcel_6 : GoodIn wsL_sums wsX50 := goodIn_r _ [84, 85, 86, 87] (by decide +kernel) (by decide +kernel)
set_option maxRecDepth 20000 in
theorem ggL_sums_X6_parcel : GoodIn wsL_sums wsX6_parcel := goodIn_app (a := [.code yX6_parcel cX6_parcel 3 (some .int)]) ggL_sums_X6_parcel_1 (goodIn_app (goodIn_app (goodIn_app (goodIn_app ggL_sums_X6_parcel_2 ggL_sums_X6_parcel_3) ggL_sums_X6_parcel_4) ggL_sums_X6_parcel_5) ggL_sums_X6_parcel_6)
set_option maxRecDepth 20000 in
theorem gL_sums_X6_parcel : GoodIn wsL_sums (wsV RL 60 RX6 yX6_parcel wsX6_parcel) := goodIn_app (goodIn_of _ (by decide +kernel)) ggL_sums_X6_parcel
set_option maxRecDepth 20000 in
theorem ggL_sums_X6_why : GoodIn wsL_sums wsX6_why := goodIn_r _ [36, 7, 8, 9, 25, 10, 11, 12, 13, 14, 15, 26, 27, 28, 29, 30, 31, 32, 70, 71, 72, 73, 74, 75, 76, 77, 78, 79, 80, 81, 82, 83, 84, 85, 86, 87] (by decide +kernel) (by decide +kernel)
set_option maxRecDepth 20000 in
theorem gL_sums_X6_why : GoodIn wsL_sums (wsV RL 63 RX6 yX6_why wsX6_why) := goodIn_app (goodIn_of _ (by decide +kernel)) ggL_sums_X6_why
set_option maxRecDepth 20000 in
theorem ggL_sums_X6_note : GoodIn wsL_sums wsX6_note := goodIn_r _ [40, 7, 23, 9, 10, 11, 12, 13, 14, 15, 16, 17, 5, 18, 26, 27, 28, 29, 30, 31, 32, 70, 71, 72, 73, 74, 75, 76, 77, 78, 79, 80, 81, 82, 83, 84, 85, 86, 87] (by decide +kernel) (by decide +kernel)
set_option maxRecDepth 20000 in
theorem gL_sums_X6_note : GoodIn wsL_sums (wsV RL 78 RX6 yX6_note wsX6_note) := goodIn_app (goodIn_of _ (by decide +kernel)) ggL_sums_X6_note
set_option maxRecDepth 20000 in
theorem ggL_sums_L_parcel_1 : GoodIn wsL_sums [.code yL_parcel cL_parcel 13 (some .boolean)] := goodIn_r _ [44] (by decide +kernel) (by decide +kernel)
set_option maxRecDepth 20000 in
theorem ggL_sums_L_parcel_2 : GoodIn wsL_sums wsL_parcel_r1 := goodIn_r _ [1, 2, 3, 4, 5, 6, 7, 8, 9, 10, 11, 12, 13, 14, 15, 16, 17, 18, 19, 20, 21, 22, 23, 24] (by decide +kernel) (by decide +kernel)
set_option maxRecDepth 20000 in
theorem ggL_sums_L_parcel_3 : GoodIn wsL_sums wsL_parcel_r2 := goodIn_r _ [25, 26, 27, 28, 29, 30, 31, 32, 33, 34, 35, 36, 45, 46, 43, 47, 48, 49, 50, 51, 52, 53, 54, 55] (by decide +kernel) (by decide +kernel)
set_option maxRecDepth 20000 in
theorem ggL_sums_L_parcel_4 : GoodIn wsL_sums wsX60 := goodIn_r _ [70, 71, 72, 73, 74, 75, 76, 77] (by decide +kernel) (by decide +kernel)
set_option maxRecDepth 20000 in
theorem ggL_sums_L_parcel_5 : GoodIn wsL_sums wsX40 := goodIn_r _ [78, 79, 80, 81, 82, 83] (by decide +kernel) (by decide +kernel)
set_option maxRecDepth 20000 in
theorem ggL_sums_L_parcel_6 : GoodIn wsL_sums wsX50 := goodIn_r _ [84, 85, 86, 87] (by decide +kernel) (by decide +kernel)
set_option maxRecDepth 20000 in
theorem ggL_sums_L_parcel : GoodIn wsL_sums wsL_parcel := goodIn_app (a := [.code yL_parcel cL_parcel 13 (some .boolean)]) ggL_sums_L_parcel_1 (goodIn_app (goodIn_app (goodIn_app (goodIn_app ggL_sums_L_parcel_2 ggL_sums_L_parcel_3) ggL_sums_L_parcel_4) ggL_sums_L_parcel_5) ggL_sums_L_parcel_6)
set_option maxRecDepth 20000 in
theorem gL_sums_L_parcel : GoodIn wsL_sums (va_wsS RL 103 yL_parcel wsL_parcel) := goodIn_app (goodIn_of _ (by decide +kernel)) ggL_sums_L_parcel
set_option maxRecDepth 20000 in
theorem ggL_sums_X6_sum : GoodIn wsL_sums wsX6_sum := goodIn_r _ [59, 7, 8, 23, 60, 61, 62, 63, 13, 64, 15, 65, 27, 28, 29, 30, 31, 32, 66, 67, 68, 69, 70, 71, 72, 73, 74, 75, 76, 77, 78, 79, 80, 81, 82, 83, 84, 85, 86, 87] (by decide +kernel) (by decide +kernel)
set_option maxRecDepth 20000 in
theorem gL_sums_X6_sum : GoodIn wsL_sums (wsV RL 81 RX6 yX6_sum wsX6_sum) := goodIn_app (goodIn_of _ (by decide +kernel)) ggL_sums_X6_sum
theorem dL_sums_0 : decode cL_sums 0 = .ok (.lconst 0, 1) := by decide +kernel
theorem dL_sums_1 : decode cL_sums 1 = .ok (.lstore_n 3, 1) := by decide +kernel
theorem dL_sums_2 : decode cL_sums 2 = .ok (.lconst 0, 1) := by decide +kernel
theorem dL_sums_3 : decode cL_sums 3 = .ok (.lstore 5, 2) := by decide +kernel
theorem dL_sums_5 : decode cL_sums 5 = .ok (.lconst 0, 1) := by decide +kernel
theorem dL_sums_6 : decode cL_sums 6 = .ok (.lstore 7, 2) := by decide +kernel
theorem dL_sums_8 : decode cL_sums 8 = .ok (.lconst 0, 1) := by decide +kernel
theorem dL_sums_9 : decode cL_sums 9 = .ok (.lstore 9, 2) := by decide +kernel
theorem dL_sums_11 : decode cL_sums 11 = .ok (.lconst 0, 1) := by decide +kernel
theorem dL_sums_12 : decode cL_sums 12 = .ok (.lstore 11, 2) := by decide +kernel
theorem dL_sums_14 : decode cL_sums 14 = .ok (.iconst 0, 1) := by decide +kernel
theorem dL_sums_15 : decode cL_sums 15 = .ok (.istore 13, 2) := by decide +kernel
theorem dL_sums_17 : decode cL_sums 17 = .ok (.iload 13, 2) := by decide +kernel
theorem dL_sums_19 : decode cL_sums 19 = .ok (.iload_n 1, 1) := by decide +kernel
theorem dL_sums_20 : decode cL_sums 20 = .ok (.if_icmp .ge 119, 3) := by decide +kernel
theorem dL_sums_23 : decode cL_sums 23 = .ok (.lload_n 3, 1) := by decide +kernel
theorem dL_sums_24 : decode cL_sums 24 = .ok (.aload_n 0, 1) := by decide +kernel
theorem dL_sums_25 : decode cL_sums 25 = .ok (.iload 13, 2) := by decide +kernel
theorem dL_sums_27 : decode cL_sums 27 = .ok (.bipush 8, 2) := by decide +kernel
theorem dL_sums_29 : decode cL_sums 29 = .ok (.invokevirtual 60, 3) := by decide +kernel
theorem dL_sums_32 : decode cL_sums 32 = .ok (.i2l, 1) := by decide +kernel
theorem dL_sums_33 : decode cL_sums 33 = .ok (.ladd, 1) := by decide +kernel
theorem dL_sums_34 : decode cL_sums 34 = .ok (.lstore_n 3, 1) := by decide +kernel
theorem dL_sums_35 : decode cL_sums 35 = .ok (.lload 5, 2) := by decide +kernel
theorem dL_sums_37 : decode cL_sums 37 = .ok (.aload_n 0, 1) := by decide +kernel
theorem dL_sums_38 : decode cL_sums 38 = .ok (.iload 13, 2) := by decide +kernel
theorem dL_sums_40 : decode cL_sums 40 = .ok (.iconst 0, 1) := by decide +kernel
theorem dL_sums_41 : decode cL_sums 41 = .ok (.invokevirtual 60, 3) := by decide +kernel
theorem dL_sums_44 : decode cL_sums 44 = .ok (.i2l, 1) := by decide +kernel
theorem dL_sums_45 : decode cL_sums 45 = .ok (.ladd, 1) := by decide +kernel
theorem dL_sums_46 : decode cL_sums 46 = .ok (.lstore 5, 2) := by decide +kernel
theorem dL_sums_48 : decode cL_sums 48 = .ok (.lload 7, 2) := by decide +kernel
theorem dL_sums_50 : decode cL_sums 50 = .ok (.aload_n 0, 1) := by decide +kernel
theorem dL_sums_51 : decode cL_sums 51 = .ok (.iload 13, 2) := by decide +kernel
theorem dL_sums_53 : decode cL_sums 53 = .ok (.bipush 6, 2) := by decide +kernel
theorem dL_sums_55 : decode cL_sums 55 = .ok (.invokevirtual 60, 3) := by decide +kernel
theorem dL_sums_58 : decode cL_sums 58 = .ok (.i2l, 1) := by decide +kernel
theorem dL_sums_59 : decode cL_sums 59 = .ok (.ladd, 1) := by decide +kernel
theorem dL_sums_60 : decode cL_sums 60 = .ok (.lstore 7, 2) := by decide +kernel
theorem dL_sums_62 : decode cL_sums 62 = .ok (.lload 9, 2) := by decide +kernel
theorem dL_sums_64 : decode cL_sums 64 = .ok (.aload_n 0, 1) := by decide +kernel
theorem dL_sums_65 : decode cL_sums 65 = .ok (.iload 13, 2) := by decide +kernel
theorem dL_sums_67 : decode cL_sums 67 = .ok (.iconst 0, 1) := by decide +kernel
theorem dL_sums_68 : decode cL_sums 68 = .ok (.invokevirtual 63, 3) := by decide +kernel
theorem dL_sums_71 : decode cL_sums 71 = .ok (.iconst 2, 1) := by decide +kernel
theorem dL_sums_72 : decode cL_sums 72 = .ok (.if_icmp .ne 7, 3) := by decide +kernel
theorem dL_sums_75 : decode cL_sums 75 = .ok (.lconst 1, 1) := by decide +kernel
theorem dL_sums_76 : decode cL_sums 76 = .ok (.goto 4, 3) := by decide +kernel
theorem dL_sums_79 : decode cL_sums 79 = .ok (.lconst 0, 1) := by decide +kernel
theorem dL_sums_80 : decode cL_sums 80 = .ok (.ladd, 1) := by decide +kernel
theorem dL_sums_81 : decode cL_sums 81 = .ok (.lstore 9, 2) := by decide +kernel
theorem dL_sums_83 : decode cL_sums 83 = .ok (.aload_n 0, 1) := by decide +kernel
theorem dL_sums_84 : decode cL_sums 84 = .ok (.iload 13, 2) := by decide +kernel
theorem dL_sums_86 : decode cL_sums 86 = .ok (.bipush 10, 2) := by decide +kernel
theorem dL_sums_88 : decode cL_sums 88 = .ok (.invokevirtual 60, 3) := by decide +kernel
theorem dL_sums_91 : decode cL_sums 91 = .ok (.istore 14, 2) := by decide +kernel
theorem dL_sums_93 : decode cL_sums 93 = .ok (.iload 14, 2) := by decide +kernel
theorem dL_sums_95 : decode cL_sums 95 = .ok (.ldc 99, 2) := by decide +kernel
theorem dL_sums_97 : decode cL_sums 97 = .ok (.if_icmp .eq 25, 3) := by decide +kernel
theorem dL_sums_100 : decode cL_sums 100 = .ok (.aload_n 0, 1) := by decide +kernel
theorem dL_sums_101 : decode cL_sums 101 = .ok (.iload 14, 2) := by decide +kernel
theorem dL_sums_103 : decode cL_sums 103 = .ok (.iconst 0, 1) := by decide +kernel
theorem dL_sums_104 : decode cL_sums 104 = .ok (.invokevirtual 78, 3) := by decide +kernel
theorem dL_sums_107 : decode cL_sums 107 = .ok (.iload 13, 2) := by decide +kernel
theorem dL_sums_109 : decode cL_sums 109 = .ok (.if_icmp .ne 22, 3) := by decide +kernel
theorem dL_sums_112 : decode cL_sums 112 = .ok (.aload_n 0, 1) := by decide +kernel
theorem dL_sums_113 : decode cL_sums 113 = .ok (.iload 14, 2) := by decide +kernel
theorem dL_sums_115 : decode cL_sums 115 = .ok (.iconst 4, 1) := by decide +kernel
theorem dL_sums_116 : decode cL_sums 116 = .ok (.invokevirtual 78, 3) := by decide +kernel
theorem dL_sums_119 : decode cL_sums 119 = .ok (.ifCond .ne 12, 3) := by decide +kernel
theorem dL_sums_122 : decode cL_sums 122 = .ok (.aload_n 0, 1) := by decide +kernel
theorem dL_sums_123 : decode cL_sums 123 = .ok (.iload 13, 2) := by decide +kernel
theorem dL_sums_125 : decode cL_sums 125 = .ok (.invokestatic 103, 3) := by decide +kernel
theorem dL_sums_128 : decode cL_sums 128 = .ok (.ifCond .ne 5, 3) := by decide +kernel
theorem dL_sums_131 : decode cL_sums 131 = .ok (.iconst 0, 1) := by decide +kernel
theorem dL_sums_132 : decode cL_sums 132 = .ok (.ireturn, 1) := by decide +kernel
theorem dL_sums_133 : decode cL_sums 133 = .ok (.iinc 13 1, 3) := by decide +kernel
theorem dL_sums_136 : decode cL_sums 136 = .ok (.goto (-119), 3) := by decide +kernel
theorem dL_sums_139 : decode cL_sums 139 = .ok (.iconst 0, 1) := by decide +kernel
theorem dL_sums_140 : decode cL_sums 140 = .ok (.istore 13, 2) := by decide +kernel
theorem dL_sums_142 : decode cL_sums 142 = .ok (.iload 13, 2) := by decide +kernel
theorem dL_sums_144 : decode cL_sums 144 = .ok (.iload_n 2, 1) := by decide +kernel
theorem dL_sums_145 : decode cL_sums 145 = .ok (.if_icmp .ge 76, 3) := by decide +kernel
theorem dL_sums_148 : decode cL_sums 148 = .ok (.lload 11, 2) := by decide +kernel
theorem dL_sums_150 : decode cL_sums 150 = .ok (.aload_n 0, 1) := by decide +kernel
theorem dL_sums_151 : decode cL_sums 151 = .ok (.iload 13, 2) := by decide +kernel
theorem dL_sums_153 : decode cL_sums 153 = .ok (.iconst 5, 1) := by decide +kernel
theorem dL_sums_154 : decode cL_sums 154 = .ok (.invokevirtual 78, 3) := by decide +kernel
theorem dL_sums_157 : decode cL_sums 157 = .ok (.i2l, 1) := by decide +kernel
theorem dL_sums_158 : decode cL_sums 158 = .ok (.ladd, 1) := by decide +kernel
theorem dL_sums_159 : decode cL_sums 159 = .ok (.lstore 11, 2) := by decide +kernel
theorem dL_sums_161 : decode cL_sums 161 = .ok (.aload_n 0, 1) := by decide +kernel
theorem dL_sums_162 : decode cL_sums 162 = .ok (.iload 13, 2) := by decide +kernel
theorem dL_sums_164 : decode cL_sums 164 = .ok (.iconst 4, 1) := by decide +kernel
theorem dL_sums_165 : decode cL_sums 165 = .ok (.invokevirtual 78, 3) := by decide +kernel
theorem dL_sums_168 : decode cL_sums 168 = .ok (.ifCond .ne 24, 3) := by decide +kernel
theorem dL_sums_171 : decode cL_sums 171 = .ok (.aload_n 0, 1) := by decide +kernel
theorem dL_sums_172 : decode cL_sums 172 = .ok (.aload_n 0, 1) := by decide +kernel
theorem dL_sums_173 : decode cL_sums 173 = .ok (.iload 13, 2) := by decide +kernel
theorem dL_sums_175 : decode cL_sums 175 = .ok (.iconst 0, 1) := by decide +kernel
theorem dL_sums_176 : decode cL_sums 176 = .ok (.invokevirtual 78, 3) := by decide +kernel
theorem dL_sums_179 : decode cL_sums 179 = .ok (.bipush 10, 2) := by decide +kernel
theorem dL_sums_181 : decode cL_sums 181 = .ok (.invokevirtual 60, 3) := by decide +kernel
theorem dL_sums_184 : decode cL_sums 184 = .ok (.iload 13, 2) := by decide +kernel
theorem dL_sums_186 : decode cL_sums 186 = .ok (.if_icmp .eq 29, 3) := by decide +kernel
theorem dL_sums_189 : decode cL_sums 189 = .ok (.goto 24, 3) := by decide +kernel
theorem dL_sums_192 : decode cL_sums 192 = .ok (.aload_n 0, 1) := by decide +kernel
theorem dL_sums_193 : decode cL_sums 193 = .ok (.iload 13, 2) := by decide +kernel
theorem dL_sums_195 : decode cL_sums 195 = .ok (.iconst 4, 1) := by decide +kernel
theorem dL_sums_196 : decode cL_sums 196 = .ok (.invokevirtual 78, 3) := by decide +kernel
theorem dL_sums_199 : decode cL_sums 199 = .ok (.iconst 2, 1) := by decide +kernel
theorem dL_sums_200 : decode cL_sums 200 = .ok (.if_icmp .ne 15, 3) := by decide +kernel
theorem dL_sums_203 : decode cL_sums 203 = .ok (.aload_n 0, 1) := by decide +kernel
theorem dL_sums_204 : decode cL_sums 204 = .ok (.iload 13, 2) := by decide +kernel
theorem dL_sums_206 : decode cL_sums 206 = .ok (.iconst 5, 1) := by decide +kernel
theorem dL_sums_207 : decode cL_sums 207 = .ok (.invokevirtual 78, 3) := by decide +kernel
theorem dL_sums_210 : decode cL_sums 210 = .ok (.ifCond .eq 5, 3) := by decide +kernel
theorem dL_sums_213 : decode cL_sums 213 = .ok (.iconst 0, 1) := by decide +kernel
theorem dL_sums_214 : decode cL_sums 214 = .ok (.ireturn, 1) := by decide +kernel
theorem dL_sums_215 : decode cL_sums 215 = .ok (.iinc 13 1, 3) := by decide +kernel
theorem dL_sums_218 : decode cL_sums 218 = .ok (.goto (-76), 3) := by decide +kernel
theorem dL_sums_221 : decode cL_sums 221 = .ok (.aload_n 0, 1) := by decide +kernel
theorem dL_sums_222 : decode cL_sums 222 = .ok (.iconst 0, 1) := by decide +kernel
theorem dL_sums_223 : decode cL_sums 223 = .ok (.invokevirtual 81, 3) := by decide +kernel
theorem dL_sums_226 : decode cL_sums 226 = .ok (.lload_n 3, 1) := by decide +kernel
theorem dL_sums_227 : decode cL_sums 227 = .ok (.lcmp, 1) := by decide +kernel
theorem dL_sums_228 : decode cL_sums 228 = .ok (.ifCond .ne 51, 3) := by decide +kernel
theorem dL_sums_231 : decode cL_sums 231 = .ok (.aload_n 0, 1) := by decide +kernel
theorem dL_sums_232 : decode cL_sums 232 = .ok (.iconst 1, 1) := by decide +kernel
theorem dL_sums_233 : decode cL_sums 233 = .ok (.invokevirtual 81, 3) := by decide +kernel
theorem dL_sums_236 : decode cL_sums 236 = .ok (.lload 11, 2) := by decide +kernel
theorem dL_sums_238 : decode cL_sums 238 = .ok (.lcmp, 1) := by decide +kernel
theorem dL_sums_239 : decode cL_sums 239 = .ok (.ifCond .ne 40, 3) := by decide +kernel
theorem dL_sums_242 : decode cL_sums 242 = .ok (.aload_n 0, 1) := by decide +kernel
theorem dL_sums_243 : decode cL_sums 243 = .ok (.iconst 2, 1) := by decide +kernel
theorem dL_sums_244 : decode cL_sums 244 = .ok (.invokevirtual 81, 3) := by decide +kernel
theorem dL_sums_247 : decode cL_sums 247 = .ok (.lload 5, 2) := by decide +kernel
theorem dL_sums_249 : decode cL_sums 249 = .ok (.lcmp, 1) := by decide +kernel
theorem dL_sums_250 : decode cL_sums 250 = .ok (.ifCond .ne 29, 3) := by decide +kernel
theorem dL_sums_253 : decode cL_sums 253 = .ok (.aload_n 0, 1) := by decide +kernel
theorem dL_sums_254 : decode cL_sums 254 = .ok (.iconst 3, 1) := by decide +kernel
theorem dL_sums_255 : decode cL_sums 255 = .ok (.invokevirtual 81, 3) := by decide +kernel
theorem dL_sums_258 : decode cL_sums 258 = .ok (.lload 7, 2) := by decide +kernel
theorem dL_sums_260 : decode cL_sums 260 = .ok (.lcmp, 1) := by decide +kernel
theorem dL_sums_261 : decode cL_sums 261 = .ok (.ifCond .ne 18, 3) := by decide +kernel
theorem dL_sums_264 : decode cL_sums 264 = .ok (.aload_n 0, 1) := by decide +kernel
theorem dL_sums_265 : decode cL_sums 265 = .ok (.iconst 4, 1) := by decide +kernel
theorem dL_sums_266 : decode cL_sums 266 = .ok (.invokevirtual 81, 3) := by decide +kernel
theorem dL_sums_269 : decode cL_sums 269 = .ok (.lload 9, 2) := by decide +kernel
theorem dL_sums_271 : decode cL_sums 271 = .ok (.lcmp, 1) := by decide +kernel
theorem dL_sums_272 : decode cL_sums 272 = .ok (.ifCond .ne 7, 3) := by decide +kernel
theorem dL_sums_275 : decode cL_sums 275 = .ok (.iconst 1, 1) := by decide +kernel
theorem dL_sums_276 : decode cL_sums 276 = .ok (.goto 4, 3) := by decide +kernel
theorem dL_sums_279 : decode cL_sums 279 = .ok (.iconst 0, 1) := by decide +kernel
theorem dL_sums_280 : decode cL_sums 280 = .ok (.ireturn, 1) := by decide +kernel
set_option maxRecDepth 20000 in
theorem ggL_cheaper_X6_parcel_1 : GoodIn wsL_cheaper [.code yX6_parcel cX6_parcel 3 (some .int)] := goodIn_r _ [8] (by decide +kernel) (by decide +kernel)
set_option maxRecDepth 20000 in
theorem ggL_cheaper_X6_parcel_2 : GoodIn wsL_cheaper wsX6_parcel_r1 := goodIn_r _ [9, 10, 11, 12, 13, 14, 15, 16, 17, 18, 19, 7, 20, 21, 22, 23, 24, 25, 26, 27, 28, 29, 30, 31] (by decide +kernel) (by decide +kernel)
set_option maxRecDepth 20000 in
theorem ggL_cheaper_X6_parcel_3 : GoodIn wsL_cheaper wsX6_parcel_r2 := goodIn_r _ [32, 33, 34] (by decide +kernel) (by decide +kernel)
set_option maxRecDepth 20000 in
theorem ggL_cheaper_X6_parcel_4 : GoodIn wsL_cheaper wsX60 := goodIn_r _ [215, 216, 217, 218, 219, 220, 221, 222] (by decide +kernel) (by decide +kernel)
set_option maxRecDepth 20000 in
theorem ggL_cheaper_X6_parcel_5 : GoodIn wsL_cheaper wsX40 := goodIn_r _ [223, 224, 225, 226, 227, 228] (by decide +kernel) (by decide +kernel)
set_option maxRecDepth 20000 in
theorem ggL_cheaper_X6_parcel_6 : GoodIn wsL_cheaper wsX50 := goodIn_r _ [229, 230, 231, 232] (by decide +kernel) (by decide +kernel)
set_option maxRecDepth 20000 in
theorem ggL_cheaper_X6_parcel : GoodIn wsL_cheaper wsX6_parcel := goodIn_app (a := [.code yX6_parcel cX6_parcel 3 (some .int)]) ggL_cheaper_X6_parcel_1 (goodIn_app (goodIn_app (goodIn_app (goodIn_app ggL_cheaper_X6_parcel_2 ggL_cheaper_X6_parcel_3) ggL_cheaper_X6_parcel_4) ggL_cheaper_X6_parcel_5) ggL_cheaper_X6_parcel_6)
set_option maxRecDepth 20000 in
theorem gL_cheaper_X6_parcel : GoodIn wsL_cheaper (wsV RL 60 RX6 yX6_parcel wsX6_parcel) := goodIn_app (goodIn_of _ (by decide +kernel)) ggL_cheaper_X6_parcel
set_option maxRecDepth 20000 in
theorem ggL_cheaper_X6_quote_1 : GoodIn wsL_cheaper [.code yX6_quote cX6_quote 6 (some .int)] := goodIn_r _ [38] (by decide +kernel) (by decide +kernel)
set_option maxRecDepth 20000 in
theorem ggL_cheaper_X6_quote_2 : GoodIn wsL_cheaper wsX6_quote_r1 := goodIn_r _ [39, 11, 40, 41, 18, 19, 7, 20, 42, 43, 44, 45, 46, 47, 48, 49, 50, 51, 52, 53, 54, 9, 55, 56] (by decide +kernel) (by decide +kernel)
set_option maxRecDepth 20000 in
theorem ggL_cheaper_X6_quote_3 : GoodIn wsL_cheaper wsX6_quote_r2 := goodIn_r _ [57, 58, 59, 60, 61, 62, 63, 64, 65, 66, 67, 68, 69, 15, 70, 32, 33, 34, 71, 72, 73, 74, 75, 76] (by decide +kernel) (by decide +kernel)
set_option maxRecDepth 20000 in
theorem ggL_cheaper_X6_quote_4 : GoodIn wsL_cheaper wsX6_quote_r3 := goodIn_r _ [77, 78, 79, 80, 81, 82, 83, 84, 85, 86, 87, 88, 29, 30, 31, 89, 90, 28, 91, 92, 93, 94, 95, 96] (by decide +kernel) (by decide +kernel)
set_option maxRecDepth 20000 in
theorem ggL_cheaper_X6_quote_5 : GoodIn wsL_cheaper wsX6_quote_r4 := goodIn_r _ [97, 98, 99, 100, 101, 102, 103, 104, 105, 106, 107, 108, 109, 110, 111, 112, 113, 114, 115, 116, 117, 118, 119, 120] (by decide +kernel) (by decide +kernel)
set_option maxRecDepth 20000 in
theorem ggL_cheaper_X6_quote_6 : GoodIn wsL_cheaper wsX6_quote_r5 := goodIn_r _ [121, 122, 123, 124, 125, 126, 127, 128, 129, 130, 131, 132, 133, 134, 135, 136, 137, 138, 139, 140, 141, 142, 143, 144] (by decide +kernel) (by decide +kernel)
set_option maxRecDepth 20000 in
theorem ggL_cheaper_X6_quote_7 : GoodIn wsL_cheaper wsX6_quote_r6 := goodIn_r _ [145, 146, 147, 148, 149, 150, 151, 152, 153, 154, 155, 156, 157, 158, 159, 160, 161, 162, 163, 164, 165, 166, 167, 168] (by decide +kernel) (by decide +kernel)
set_option maxRecDepth 20000 in
theorem ggL_cheaper_X6_quote_8 : GoodIn wsL_cheaper wsX6_quote_r7 := goodIn_r _ [169, 170, 171, 172, 173, 174, 175, 176, 177, 178] (by decide +kernel) (by decide +kernel)
set_option maxRecDepth 20000 in
theorem ggL_cheaper_X6_quote_9 : GoodIn wsL_cheaper wsX60 := goodIn_r _ [215, 216, 217, 218, 219, 220, 221, 222] (by decide +kernel) (by decide +kernel)
set_option maxRecDepth 20000 in
theorem ggL_cheaper_X6_quote_10 : GoodIn wsL_cheaper wsX40 := goodIn_r _ [223, 224, 225, 226, 227, 228] (by decide +kernel) (by decide +kernel)
set_option maxRecDepth 20000 in
theorem ggL_cheaper_X6_quote_11 : GoodIn wsL_cheaper wsX00 := goodIn_r _ [233, 234, 235, 236] (by decide +kernel) (by decide +kernel)
set_option maxRecDepth 20000 in
theorem ggL_cheaper_X6_quote_12 : GoodIn wsL_cheaper wsX50 := goodIn_r _ [229, 230, 231, 232] (by decide +kernel) (by decide +kernel)
set_option maxRecDepth 20000 in
theorem ggL_cheaper_X6_quote_13 : GoodIn wsL_cheaper wsX30 := goodIn_r _ [237, 238, 239, 240, 241, 242, 243, 244, 245, 246, 247] (by decide +kernel) (by decide +kernel)
set_option maxRecDepth 20000 in
theorem ggL_cheaper_X6_quote_14 : GoodIn wsL_cheaper wsX20 := goodIn_r _ [248] (by decide +kernel) (by decide +kernel)
set_option maxRecDepth 20000 in
theorem ggL_cheaper_X6_quote : GoodIn wsL_cheaper wsX6_quote := goodIn_app (a := [.code yX6_quote cX6_quote 6 (some .int)]) ggL_cheaper_X6_quote_1 (goodIn_app (goodIn_app (goodIn_app (goodIn_app (goodIn_app (goodIn_app (goodIn_app ggL_cheaper_X6_quote_2 (goodIn_app ggL_cheaper_X6_quote_3 (goodIn_app ggL_cheaper_X6_quote_4 (goodIn_app ggL_cheaper_X6_quote_5 (goodIn_app ggL_cheaper_X6_quote_6 (goodIn_app ggL_cheaper_X6_quote_7 ggL_cheaper_X6_quote_8)))))) ggL_cheaper_X6_quote_9) ggL_cheaper_X6_quote_10) ggL_cheaper_X6_quote_11) ggL_cheaper_X6_quote_12) ggL_cheaper_X6_quote_13) ggL_cheaper_X6_quote_14)
set_option maxRecDepth 20000 in
theorem gL_cheaper_X6_quote : GoodIn wsL_cheaper (wsV RL 56 RX6 yX6_quote wsX6_quote) := goodIn_app (goodIn_of _ (by decide +kernel)) ggL_cheaper_X6_quote
set_option maxRecDepth 20000 in
theorem ggL_cheaper_X6_lighter_1 : GoodIn wsL_cheaper [.code yX6_lighter cX6_lighter 6 (some .int)] := goodIn_r _ [182] (by decide +kernel) (by decide +kernel)
set_option maxRecDepth 20000 in
theorem ggL_cheaper_X6_lighter_2 : GoodIn wsL_cheaper wsX6_lighter_r1 := goodIn_r _ [9, 10, 11, 40, 41, 39, 27, 12, 13, 14, 15, 16, 17, 28, 29, 30, 31, 32, 33, 34, 51, 52, 53, 7] (by decide +kernel) (by decide +kernel)
set_option maxRecDepth 20000 in
theorem ggL_cheaper_X6_lighter_3 : GoodIn wsL_cheaper wsX6_lighter_r2 := goodIn_r _ [54, 55, 56, 57, 58, 59, 60, 61, 62, 63, 183, 184, 185, 186, 187, 188, 68, 69, 70, 71, 72, 73, 74, 75] (by decide +kernel) (by decide +kernel)
set_option maxRecDepth 20000 in
theorem ggL_cheaper_X6_lighter_4 : GoodIn wsL_cheaper wsX6_lighter_r3 := goodIn_r _ [76, 77, 78, 79, 80, 81, 82, 83, 84, 85, 86, 87, 88, 89, 90, 91, 92, 93, 94, 95, 96, 97, 98, 99] (by decide +kernel) (by decide +kernel)
set_option maxRecDepth 20000 in
theorem ggL_cheaper_X6_lighter_5 : GoodIn wsL_cheaper wsX6_lighter_r4 := goodIn_r _ [100, 101, 102, 103, 104, 105, 106, 107, 67, 108, 109, 110, 111, 112, 113, 114, 115, 116, 117, 118, 119, 120, 121, 122] (by decide +kernel) (by decide +kernel)
set_option maxRecDepth 20000 in
theorem ggL_cheaper_X6_lighter_6 : GoodIn wsL_cheaper wsX6_lighter_r5 := goodIn_r _ [123, 124, 125, 126, 127, 128, 129, 130, 131, 132, 133, 134, 135, 136, 137, 138, 139, 140, 141, 142, 143, 144, 145, 146] (by decide +kernel) (by decide +kernel)
set_option maxRecDepth 20000 in
theorem ggL_cheaper_X6_lighter_7 : GoodIn wsL_cheaper wsX6_lighter_r6 := goodIn_r _ [147, 148, 149, 150, 151, 152, 153, 154, 155, 156, 157, 158, 159, 160, 161, 162, 163, 164, 165, 166, 167, 168, 169, 170] (by decide +kernel) (by decide +kernel)
set_option maxRecDepth 20000 in
theorem ggL_cheaper_X6_lighter_8 : GoodIn wsL_cheaper wsX6_lighter_r7 := goodIn_r _ [171, 172, 173, 174, 175, 176, 177, 178, 189, 190, 191, 192, 193, 194, 195, 196, 197, 198, 199, 200, 201, 202, 203, 204] (by decide +kernel) (by decide +kernel)
set_option maxRecDepth 20000 in
theorem ggL_cheaper_X6_lighter_9 : GoodIn wsL_cheaper wsX6_lighter_r8 := goodIn_r _ [205, 206] (by decide +kernel) (by decide +kernel)
set_option maxRecDepth 20000 in
theorem ggL_cheaper_X6_lighter_10 : GoodIn wsL_cheaper wsX60 := goodIn_r _ [215, 216, 217, 218, 219, 220, 221, 222] (by decide +kernel) (by decide +kernel)
set_option maxRecDepth 20000 in
theorem ggL_cheaper_X6_lighter_11 : GoodIn wsL_cheaper wsX40 := goodIn_r _ [223, 224, 225, 226, 227, 228] (by decide +kernel) (by decide +kernel)
set_option maxRecDepth 20000 in
theorem ggL_cheaper_X6_lighter_12 : GoodIn wsL_cheaper wsX50 := goodIn_r _ [229, 230, 231, 232] (by decide +kernel) (by decide +kernel)
set_option maxRecDepth 20000 in
theorem ggL_cheaper_X6_lighter_13 : GoodIn wsL_cheaper wsX00 := goodIn_r _ [233, 234, 235, 236] (by decide +kernel) (by decide +kernel)
set_option maxRecDepth 20000 in
theorem ggL_cheaper_X6_lighter_14 : GoodIn wsL_cheaper wsX30 := goodIn_r _ [237, 238, 239, 240, 241, 242, 243, 244, 245, 246, 247] (by decide +kernel) (by decide +kernel)
set_option maxRecDepth 20000 in
theorem ggL_cheaper_X6_lighter_15 : GoodIn wsL_cheaper wsX20 := goodIn_r _ [248] (by decide +kernel) (by decide +kernel)
set_option maxRecDepth 20000 in
theorem ggL_cheaper_X6_lighter : GoodIn wsL_cheaper wsX6_lighter := goodIn_app (a := [.code yX6_lighter cX6_lighter 6 (some .int)]) ggL_cheaper_X6_lighter_1 (goodIn_app (goodIn_app (goodIn_app (goodIn_app (goodIn_app (goodIn_app (goodIn_app ggL_cheaper_X6_lighter_2 (goodIn_app ggL_cheaper_X6_lighter_3 (goodIn_app ggL_cheaper_X6_lighter_4 (goodIn_app ggL_cheaper_X6_lighter_5 (goodIn_app ggL_cheaper_X6_lighter_6 (goodIn_app ggL_cheaper_X6_lighter_7 (goodIn_app ggL_cheaper_X6_lighter_8 ggL_cheaper_X6_lighter_9))))))) ggL_cheaper_X6_lighter_10) ggL_cheaper_X6_lighter_11) ggL_cheaper_X6_lighter_12) ggL_cheaper_X6_lighter_13) ggL_cheaper_X6_lighter_14) ggL_cheaper_X6_lighter_15)
set_option maxRecDepth 20000 in
theorem gL_cheaper_X6_lighter : GoodIn wsL_cheaper (wsV RL 87 RX6 yX6_lighter wsX6_lighter) := goodIn_app (goodIn_of _ (by decide +kernel)) ggL_cheaper_X6_lighter
set_option maxRecDepth 20000 in
theorem ggL_cheaper_X6_shorter_1 : GoodIn wsL_cheaper [.code yX6_shorter cX6_shorter 6 (some .int)] := goodIn_r _ [210] (by decide +kernel) (by decide +kernel)
set_option maxRecDepth 20000 in
theorem ggL_cheaper_X6_shorter_2 : GoodIn wsL_cheaper wsX6_shorter_r1 := goodIn_r _ [9, 10, 11, 40, 41, 27, 12, 13, 14, 15, 16, 17, 18, 19, 7, 20, 28, 29, 30, 31, 32, 33, 34, 51] (by decide +kernel) (by decide +kernel)
set_option maxRecDepth 20000 in
theorem ggL_cheaper_X6_shorter_3 : GoodIn wsL_cheaper wsX6_shorter_r2 := goodIn_r _ [52, 53, 54, 55, 56, 57, 58, 59, 60, 61, 62, 63, 183, 184, 185, 186, 187, 188, 68, 69, 70, 71, 72, 73] (by decide +kernel) (by decide +kernel)
set_option maxRecDepth 20000 in
theorem ggL_cheaper_X6_shorter_4 : GoodIn wsL_cheaper wsX6_shorter_r3 := goodIn_r _ [74, 75, 76, 77, 78, 79, 80, 81, 82, 83, 84, 85, 86, 87, 88, 89, 90, 91, 92, 93, 94, 95, 96, 97] (by decide +kernel) (by decide +kernel)
set_option maxRecDepth 20000 in
theorem ggL_cheaper_X6_shorter_5 : GoodIn wsL_cheaper wsX6_shorter_r4 := goodIn_r _ [98, 99, 100, 101, 102, 103, 104, 105, 106, 107, 67, 108, 109, 110, 111, 112, 113, 114, 115, 116, 117, 118, 119, 120] (by decide +kernel) (by decide +kernel)
set_option maxRecDepth 20000 in
theorem ggL_cheaper_X6_shorter_6 : GoodIn wsL_cheaper wsX6_shorter_r5 := goodIn_r _ [121, 122, 123, 124, 125, 126, 127, 128, 129, 130, 131, 132, 133, 134, 135, 136, 137, 138, 139, 140, 141, 142, 143, 144] (by decide +kernel) (by decide +kernel)
set_option maxRecDepth 20000 in
theorem ggL_cheaper_X6_shorter_7 : GoodIn wsL_cheaper wsX6_shorter_r6 := goodIn_r _ [145, 146, 147, 148, 149, 150, 151, 152, 153, 154, 155, 156, 157, 158, 159, 160, 161, 162, 163, 164, 165, 166, 167, 168] (by decide +kernel) (by decide +kernel)
set_option maxRecDepth 20000 in
theorem ggL_cheaper_X6_shorter_8 : GoodIn wsL_cheaper wsX6_shorter_r7 := goodIn_r _ [169, 170, 171, 172, 173, 174, 175, 176, 177, 178] (by decide +kernel) (by decide +kernel)
set_option maxRecDepth 20000 in
theorem ggL_cheaper_X6_shorter_9 : GoodIn wsL_cheaper wsX60 := goodIn_r _ [215, 216, 217, 218, 219, 220, 221, 222] (by decide +kernel) (by decide +kernel)
set_option maxRecDepth 20000 in
theorem ggL_cheaper_X6_shorter_10 : GoodIn wsL_cheaper wsX40 := goodIn_r _ [223, 224, 225, 226, 227, 228] (by decide +kernel) (by decide +kernel)
set_option maxRecDepth 20000 in
theorem ggL_cheaper_X6_shorter_11 : GoodIn wsL_cheaper wsX50 := goodIn_r _ [229, 230, 231, 232] (by decide +kernel) (by decide +kernel)
set_option maxRecDepth 20000 in
theorem ggL_cheaper_X6_shorter_12 : GoodIn wsL_cheaper wsX00 := goodIn_r _ [233, 234, 235, 236] (by decide +kernel) (by decide +kernel)
set_option maxRecDepth 20000 in
theorem ggL_cheaper_X6_shorter_13 : GoodIn wsL_cheaper wsX30 := goodIn_r _ [237, 238, 239, 240, 241, 242, 243, 244, 245, 246, 247] (by decide +kernel) (by decide +kernel)
set_option maxRecDepth 20000 in
theorem ggL_cheaper_X6_shorter_14 : GoodIn wsL_cheaper wsX20 := goodIn_r _ [248] (by decide +kernel) (by decide +kernel)
set_option maxRecDepth 20000 in
theorem ggL_cheaper_X6_shorter : GoodIn wsL_cheaper wsX6_shorter := goodIn_app (a := [.code yX6_shorter cX6_shorter 6 (some .int)]) ggL_cheaper_X6_shorter_1 (goodIn_app (goodIn_app (goodIn_app (goodIn_app (goodIn_app (goodIn_app (goodIn_app ggL_cheaper_X6_shorter_2 (goodIn_app ggL_cheaper_X6_shorter_3 (goodIn_app ggL_cheaper_X6_shorter_4 (goodIn_app ggL_cheaper_X6_shorter_5 (goodIn_app ggL_cheaper_X6_shorter_6 (goodIn_app ggL_cheaper_X6_shorter_7 ggL_cheaper_X6_shorter_8)))))) ggL_cheaper_X6_shorter_9) ggL_cheaper_X6_shorter_10) ggL_cheaper_X6_shorter_11) ggL_cheaper_X6_shorter_12) ggL_cheaper_X6_shorter_13) ggL_cheaper_X6_shorter_14)
set_option maxRecDepth 20000 in
theorem gL_cheaper_X6_shorter : GoodIn wsL_cheaper (wsV RL 90 RX6 yX6_shorter wsX6_shorter) := goodIn_app (goodIn_of _ (by decide +kernel)) ggL_cheaper_X6_shorter
set_option maxRecDepth 20000 in
theorem ggL_cheaper_X6_cheapest_1 : GoodIn wsL_cheaper [.code yX6_cheapest cX6_cheapest 6 (some .int)] := goodIn_r _ [214] (by decide +kernel) (by decide +kernel)
set_option maxRecDepth 20000 in
theorem ggL_cheaper_X6_cheapest_2 : GoodIn wsL_cheaper wsX6_cheapest_r1 := goodIn_r _ [9, 10, 11, 41, 27, 12, 13, 14, 15, 16, 17, 183, 184, 185, 186, 33, 187, 29, 30, 31, 32, 34, 188, 68] (by decide +kernel) (by decide +kernel)
set_option maxRecDepth 20000 in
theorem ggL_cheaper_X6_cheapest_3 : GoodIn wsL_cheaper wsX6_cheapest_r2 := goodIn_r _ [69, 70, 51, 52, 53, 7, 54, 55, 56, 57, 58, 59, 60, 61, 62, 63, 67, 71, 72, 73, 74, 75, 76, 77] (by decide +kernel) (by decide +kernel)
set_option maxRecDepth 20000 in
theorem ggL_cheaper_X6_cheapest_4 : GoodIn wsL_cheaper wsX6_cheapest_r3 := goodIn_r _ [78, 79, 80, 81, 82, 83, 84, 85, 86, 87, 88, 89, 90, 28, 91, 92, 93, 94, 95, 96, 97, 98, 99, 100] (by decide +kernel) (by decide +kernel)
set_option maxRecDepth 20000 in
theorem ggL_cheaper_X6_cheapest_5 : GoodIn wsL_cheaper wsX6_cheapest_r4 := goodIn_r _ [101, 102, 103, 104, 105, 106, 107, 108, 109, 110, 111, 112, 113, 114, 115, 116, 117, 118, 119, 120, 121, 122, 123, 124] (by decide +kernel) (by decide +kernel)
set_option maxRecDepth 20000 in
theorem ggL_cheaper_X6_cheapest_6 : GoodIn wsL_cheaper wsX6_cheapest_r5 := goodIn_r _ [125, 126, 127, 128, 129, 130, 131, 132, 133, 134, 135, 136, 137, 138, 139, 140, 141, 142, 143, 144, 145, 146, 147, 148] (by decide +kernel) (by decide +kernel)
set_option maxRecDepth 20000 in
theorem ggL_cheaper_X6_cheapest_7 : GoodIn wsL_cheaper wsX6_cheapest_r6 := goodIn_r _ [149, 150, 151, 152, 153, 154, 155, 156, 157, 158, 159, 160, 161, 162, 163, 164, 165, 166, 167, 168, 169, 170, 171, 172] (by decide +kernel) (by decide +kernel)
set_option maxRecDepth 20000 in
theorem ggL_cheaper_X6_cheapest_8 : GoodIn wsL_cheaper wsX6_cheapest_r7 := goodIn_r _ [173, 174, 175, 176, 177, 178] (by decide +kernel) (by decide +kernel)
set_option maxRecDepth 20000 in
theorem ggL_cheaper_X6_cheapest_9 : GoodIn wsL_cheaper wsX60 := goodIn_r _ [215, 216, 217, 218, 219, 220, 221, 222] (by decide +kernel) (by decide +kernel)
set_option maxRecDepth 20000 in
theorem ggL_cheaper_X6_cheapest_10 : GoodIn wsL_cheaper wsX40 := goodIn_r _ [223, 224, 225, 226, 227, 228] (by decide +kernel) (by decide +kernel)
set_option maxRecDepth 20000 in
theorem ggL_cheaper_X6_cheapest_11 : GoodIn wsL_cheaper wsX50 := goodIn_r _ [229, 230, 231, 232] (by decide +kernel) (by decide +kernel)
set_option maxRecDepth 20000 in
theorem ggL_cheaper_X6_cheapest_12 : GoodIn wsL_cheaper wsX00 := goodIn_r _ [233, 234, 235, 236] (by decide +kernel) (by decide +kernel)
set_option maxRecDepth 20000 in
theorem ggL_cheaper_X6_cheapest_13 : GoodIn wsL_cheaper wsX30 := goodIn_r _ [237, 238, 239, 240, 241, 242, 243, 244, 245, 246, 247] (by decide +kernel) (by decide +kernel)
set_option maxRecDepth 20000 in
theorem ggL_cheaper_X6_cheapest_14 : GoodIn wsL_cheaper wsX20 := goodIn_r _ [248] (by decide +kernel) (by decide +kernel)
set_option maxRecDepth 20000 in
theorem ggL_cheaper_X6_cheapest : GoodIn wsL_cheaper wsX6_cheapest := goodIn_app (a := [.code yX6_cheapest cX6_cheapest 6 (some .int)]) ggL_cheaper_X6_cheapest_1 (goodIn_app (goodIn_app (goodIn_app (goodIn_app (goodIn_app (goodIn_app (goodIn_app ggL_cheaper_X6_cheapest_2 (goodIn_app ggL_cheaper_X6_cheapest_3 (goodIn_app ggL_cheaper_X6_cheapest_4 (goodIn_app ggL_cheaper_X6_cheapest_5 (goodIn_app ggL_cheaper_X6_cheapest_6 (goodIn_app ggL_cheaper_X6_cheapest_7 ggL_cheaper_X6_cheapest_8)))))) ggL_cheaper_X6_cheapest_9) ggL_cheaper_X6_cheapest_10) ggL_cheaper_X6_cheapest_11) ggL_cheaper_X6_cheapest_12) ggL_cheaper_X6_cheapest_13) ggL_cheaper_X6_cheapest_14)
set_option maxRecDepth 20000 in
theorem gL_cheaper_X6_cheapest : GoodIn wsL_cheaper (wsV RL 93 RX6 yX6_cheapest wsX6_cheapest) := goodIn_app (goodIn_of _ (by decide +kernel)) ggL_cheaper_X6_cheapest
theorem dL_cheaper_0 : decode cL_cheaper 0 = .ok (.aload_n 0, 1) := by decide +kernel
theorem dL_cheaper_1 : decode cL_cheaper 1 = .ok (.iload_n 1, 1) := by decide +kernel
theorem dL_cheaper_2 : decode cL_cheaper 2 = .ok (.iconst 0, 1) := by decide +kernel
theorem dL_cheaper_3 : decode cL_cheaper 3 = .ok (.invokevirtual 60, 3) := by decide +kernel
theorem dL_cheaper_6 : decode cL_cheaper 6 = .ok (.istore_n 2, 1) := by decide +kernel
theorem dL_cheaper_7 : decode cL_cheaper 7 = .ok (.aload_n 0, 1) := by decide +kernel
theorem dL_cheaper_8 : decode cL_cheaper 8 = .ok (.iload_n 1, 1) := by decide +kernel
theorem dL_cheaper_9 : decode cL_cheaper 9 = .ok (.iconst 1, 1) := by decide +kernel
theorem dL_cheaper_10 : decode cL_cheaper 10 = .ok (.invokevirtual 60, 3) := by decide +kernel
theorem dL_cheaper_13 : decode cL_cheaper 13 = .ok (.istore_n 3, 1) := by decide +kernel
theorem dL_cheaper_14 : decode cL_cheaper 14 = .ok (.aload_n 0, 1) := by decide +kernel
theorem dL_cheaper_15 : decode cL_cheaper 15 = .ok (.iload_n 1, 1) := by decide +kernel
theorem dL_cheaper_16 : decode cL_cheaper 16 = .ok (.iconst 2, 1) := by decide +kernel
theorem dL_cheaper_17 : decode cL_cheaper 17 = .ok (.invokevirtual 60, 3) := by decide +kernel
theorem dL_cheaper_20 : decode cL_cheaper 20 = .ok (.istore 4, 2) := by decide +kernel
theorem dL_cheaper_22 : decode cL_cheaper 22 = .ok (.aload_n 0, 1) := by decide +kernel
theorem dL_cheaper_23 : decode cL_cheaper 23 = .ok (.iload_n 1, 1) := by decide +kernel
theorem dL_cheaper_24 : decode cL_cheaper 24 = .ok (.iconst 3, 1) := by decide +kernel
theorem dL_cheaper_25 : decode cL_cheaper 25 = .ok (.invokevirtual 60, 3) := by decide +kernel
theorem dL_cheaper_28 : decode cL_cheaper 28 = .ok (.istore 5, 2) := by decide +kernel
theorem dL_cheaper_30 : decode cL_cheaper 30 = .ok (.aload_n 0, 1) := by decide +kernel
theorem dL_cheaper_31 : decode cL_cheaper 31 = .ok (.iload_n 1, 1) := by decide +kernel
theorem dL_cheaper_32 : decode cL_cheaper 32 = .ok (.iconst 4, 1) := by decide +kernel
theorem dL_cheaper_33 : decode cL_cheaper 33 = .ok (.invokevirtual 60, 3) := by decide +kernel
theorem dL_cheaper_36 : decode cL_cheaper 36 = .ok (.istore 6, 2) := by decide +kernel
theorem dL_cheaper_38 : decode cL_cheaper 38 = .ok (.iload_n 2, 1) := by decide +kernel
theorem dL_cheaper_39 : decode cL_cheaper 39 = .ok (.ldc 106, 2) := by decide +kernel
theorem dL_cheaper_41 : decode cL_cheaper 41 = .ok (.if_icmp .le 5, 3) := by decide +kernel
theorem dL_cheaper_44 : decode cL_cheaper 44 = .ok (.iconst 1, 1) := by decide +kernel
theorem dL_cheaper_45 : decode cL_cheaper 45 = .ok (.ireturn, 1) := by decide +kernel
theorem dL_cheaper_46 : decode cL_cheaper 46 = .ok (.aload_n 0, 1) := by decide +kernel
theorem dL_cheaper_47 : decode cL_cheaper 47 = .ok (.iload_n 2, 1) := by decide +kernel
theorem dL_cheaper_48 : decode cL_cheaper 48 = .ok (.iload_n 3, 1) := by decide +kernel
theorem dL_cheaper_49 : decode cL_cheaper 49 = .ok (.iload 4, 2) := by decide +kernel
theorem dL_cheaper_51 : decode cL_cheaper 51 = .ok (.iload 5, 2) := by decide +kernel
theorem dL_cheaper_53 : decode cL_cheaper 53 = .ok (.iload 6, 2) := by decide +kernel
theorem dL_cheaper_55 : decode cL_cheaper 55 = .ok (.invokevirtual 56, 3) := by decide +kernel
theorem dL_cheaper_58 : decode cL_cheaper 58 = .ok (.istore 7, 2) := by decide +kernel
theorem dL_cheaper_60 : decode cL_cheaper 60 = .ok (.aload_n 0, 1) := by decide +kernel
theorem dL_cheaper_61 : decode cL_cheaper 61 = .ok (.iload_n 1, 1) := by decide +kernel
theorem dL_cheaper_62 : decode cL_cheaper 62 = .ok (.invokevirtual 87, 3) := by decide +kernel
theorem dL_cheaper_65 : decode cL_cheaper 65 = .ok (.istore 8, 2) := by decide +kernel
theorem dL_cheaper_67 : decode cL_cheaper 67 = .ok (.aload_n 0, 1) := by decide +kernel
theorem dL_cheaper_68 : decode cL_cheaper 68 = .ok (.iload_n 1, 1) := by decide +kernel
theorem dL_cheaper_69 : decode cL_cheaper 69 = .ok (.iconst 2, 1) := by decide +kernel
theorem dL_cheaper_70 : decode cL_cheaper 70 = .ok (.invokevirtual 90, 3) := by decide +kernel
theorem dL_cheaper_73 : decode cL_cheaper 73 = .ok (.istore 9, 2) := by decide +kernel
theorem dL_cheaper_75 : decode cL_cheaper 75 = .ok (.aload_n 0, 1) := by decide +kernel
theorem dL_cheaper_76 : decode cL_cheaper 76 = .ok (.iload_n 1, 1) := by decide +kernel
theorem dL_cheaper_77 : decode cL_cheaper 77 = .ok (.invokevirtual 93, 3) := by decide +kernel
theorem dL_cheaper_80 : decode cL_cheaper 80 = .ok (.istore 10, 2) := by decide +kernel
theorem dL_cheaper_82 : decode cL_cheaper 82 = .ok (.iload 7, 2) := by decide +kernel
theorem dL_cheaper_84 : decode cL_cheaper 84 = .ok (.ldc 107, 2) := by decide +kernel
theorem dL_cheaper_86 : decode cL_cheaper 86 = .ok (.if_icmp .ne 30, 3) := by decide +kernel
theorem dL_cheaper_89 : decode cL_cheaper 89 = .ok (.iload 8, 2) := by decide +kernel
theorem dL_cheaper_91 : decode cL_cheaper 91 = .ok (.ldc 107, 2) := by decide +kernel
theorem dL_cheaper_93 : decode cL_cheaper 93 = .ok (.if_icmp .ne 21, 3) := by decide +kernel
theorem dL_cheaper_96 : decode cL_cheaper 96 = .ok (.iload 9, 2) := by decide +kernel
theorem dL_cheaper_98 : decode cL_cheaper 98 = .ok (.ldc 107, 2) := by decide +kernel
theorem dL_cheaper_100 : decode cL_cheaper 100 = .ok (.if_icmp .ne 14, 3) := by decide +kernel
theorem dL_cheaper_103 : decode cL_cheaper 103 = .ok (.iload 10, 2) := by decide +kernel
theorem dL_cheaper_105 : decode cL_cheaper 105 = .ok (.iload 6, 2) := by decide +kernel
theorem dL_cheaper_107 : decode cL_cheaper 107 = .ok (.if_icmp .eq 7, 3) := by decide +kernel
theorem dL_cheaper_110 : decode cL_cheaper 110 = .ok (.iconst 1, 1) := by decide +kernel
theorem dL_cheaper_111 : decode cL_cheaper 111 = .ok (.goto 4, 3) := by decide +kernel
theorem dL_cheaper_114 : decode cL_cheaper 114 = .ok (.iconst 0, 1) := by decide +kernel
theorem dL_cheaper_115 : decode cL_cheaper 115 = .ok (.ireturn, 1) := by decide +kernel
theorem dL_cheaper_116 : decode cL_cheaper 116 = .ok (.iload 8, 2) := by decide +kernel
theorem dL_cheaper_118 : decode cL_cheaper 118 = .ok (.ldc 99, 2) := by decide +kernel
theorem dL_cheaper_120 : decode cL_cheaper 120 = .ok (.if_icmp .eq 56, 3) := by decide +kernel
theorem dL_cheaper_123 : decode cL_cheaper 123 = .ok (.iload 8, 2) := by decide +kernel
theorem dL_cheaper_125 : decode cL_cheaper 125 = .ok (.ifCond .le 55, 3) := by decide +kernel
theorem dL_cheaper_128 : decode cL_cheaper 128 = .ok (.iload 8, 2) := by decide +kernel
theorem dL_cheaper_130 : decode cL_cheaper 130 = .ok (.iload_n 2, 1) := by decide +kernel
theorem dL_cheaper_131 : decode cL_cheaper 131 = .ok (.if_icmp .ge 49, 3) := by decide +kernel
theorem dL_cheaper_134 : decode cL_cheaper 134 = .ok (.aload_n 0, 1) := by decide +kernel
theorem dL_cheaper_135 : decode cL_cheaper 135 = .ok (.iload_n 2, 1) := by decide +kernel
theorem dL_cheaper_136 : decode cL_cheaper 136 = .ok (.iload 8, 2) := by decide +kernel
theorem dL_cheaper_138 : decode cL_cheaper 138 = .ok (.isub, 1) := by decide +kernel
theorem dL_cheaper_139 : decode cL_cheaper 139 = .ok (.iload_n 3, 1) := by decide +kernel
theorem dL_cheaper_140 : decode cL_cheaper 140 = .ok (.iload 4, 2) := by decide +kernel
theorem dL_cheaper_142 : decode cL_cheaper 142 = .ok (.iload 5, 2) := by decide +kernel
theorem dL_cheaper_144 : decode cL_cheaper 144 = .ok (.iload 6, 2) := by decide +kernel
theorem dL_cheaper_146 : decode cL_cheaper 146 = .ok (.invokevirtual 56, 3) := by decide +kernel
theorem dL_cheaper_149 : decode cL_cheaper 149 = .ok (.iload 7, 2) := by decide +kernel
theorem dL_cheaper_151 : decode cL_cheaper 151 = .ok (.if_icmp .ge 29, 3) := by decide +kernel
theorem dL_cheaper_154 : decode cL_cheaper 154 = .ok (.aload_n 0, 1) := by decide +kernel
theorem dL_cheaper_155 : decode cL_cheaper 155 = .ok (.iload_n 2, 1) := by decide +kernel
theorem dL_cheaper_156 : decode cL_cheaper 156 = .ok (.iload 8, 2) := by decide +kernel
theorem dL_cheaper_158 : decode cL_cheaper 158 = .ok (.isub, 1) := by decide +kernel
theorem dL_cheaper_159 : decode cL_cheaper 159 = .ok (.iconst 1, 1) := by decide +kernel
theorem dL_cheaper_160 : decode cL_cheaper 160 = .ok (.iadd, 1) := by decide +kernel
theorem dL_cheaper_161 : decode cL_cheaper 161 = .ok (.iload_n 3, 1) := by decide +kernel
theorem dL_cheaper_162 : decode cL_cheaper 162 = .ok (.iload 4, 2) := by decide +kernel
theorem dL_cheaper_164 : decode cL_cheaper 164 = .ok (.iload 5, 2) := by decide +kernel
theorem dL_cheaper_166 : decode cL_cheaper 166 = .ok (.iload 6, 2) := by decide +kernel
theorem dL_cheaper_168 : decode cL_cheaper 168 = .ok (.invokevirtual 56, 3) := by decide +kernel
theorem dL_cheaper_171 : decode cL_cheaper 171 = .ok (.iload 7, 2) := by decide +kernel
theorem dL_cheaper_173 : decode cL_cheaper 173 = .ok (.if_icmp .lt 7, 3) := by decide +kernel
theorem dL_cheaper_176 : decode cL_cheaper 176 = .ok (.iconst 1, 1) := by decide +kernel
theorem dL_cheaper_177 : decode cL_cheaper 177 = .ok (.goto 4, 3) := by decide +kernel
theorem dL_cheaper_180 : decode cL_cheaper 180 = .ok (.iconst 0, 1) := by decide +kernel
theorem dL_cheaper_181 : decode cL_cheaper 181 = .ok (.istore 11, 2) := by decide +kernel
theorem dL_cheaper_183 : decode cL_cheaper 183 = .ok (.iload 11, 2) := by decide +kernel
theorem dL_cheaper_185 : decode cL_cheaper 185 = .ok (.ifCond .eq 68, 3) := by decide +kernel
theorem dL_cheaper_188 : decode cL_cheaper 188 = .ok (.iload 9, 2) := by decide +kernel
theorem dL_cheaper_190 : decode cL_cheaper 190 = .ok (.ldc 99, 2) := by decide +kernel
theorem dL_cheaper_192 : decode cL_cheaper 192 = .ok (.if_icmp .eq 57, 3) := by decide +kernel
theorem dL_cheaper_195 : decode cL_cheaper 195 = .ok (.iload 9, 2) := by decide +kernel
theorem dL_cheaper_197 : decode cL_cheaper 197 = .ok (.ifCond .le 56, 3) := by decide +kernel
theorem dL_cheaper_200 : decode cL_cheaper 200 = .ok (.iload 9, 2) := by decide +kernel
theorem dL_cheaper_202 : decode cL_cheaper 202 = .ok (.iload 4, 2) := by decide +kernel
theorem dL_cheaper_204 : decode cL_cheaper 204 = .ok (.if_icmp .ge 49, 3) := by decide +kernel
theorem dL_cheaper_207 : decode cL_cheaper 207 = .ok (.aload_n 0, 1) := by decide +kernel
theorem dL_cheaper_208 : decode cL_cheaper 208 = .ok (.iload_n 2, 1) := by decide +kernel
theorem dL_cheaper_209 : decode cL_cheaper 209 = .ok (.iload_n 3, 1) := by decide +kernel
theorem dL_cheaper_210 : decode cL_cheaper 210 = .ok (.iload 4, 2) := by decide +kernel
theorem dL_cheaper_212 : decode cL_cheaper 212 = .ok (.iload 9, 2) := by decide +kernel
theorem dL_cheaper_214 : decode cL_cheaper 214 = .ok (.isub, 1) := by decide +kernel
theorem dL_cheaper_215 : decode cL_cheaper 215 = .ok (.iload 5, 2) := by decide +kernel
theorem dL_cheaper_217 : decode cL_cheaper 217 = .ok (.iload 6, 2) := by decide +kernel
theorem dL_cheaper_219 : decode cL_cheaper 219 = .ok (.invokevirtual 56, 3) := by decide +kernel
theorem dL_cheaper_222 : decode cL_cheaper 222 = .ok (.iload 7, 2) := by decide +kernel
theorem dL_cheaper_224 : decode cL_cheaper 224 = .ok (.if_icmp .ge 29, 3) := by decide +kernel
theorem dL_cheaper_227 : decode cL_cheaper 227 = .ok (.aload_n 0, 1) := by decide +kernel
theorem dL_cheaper_228 : decode cL_cheaper 228 = .ok (.iload_n 2, 1) := by decide +kernel
theorem dL_cheaper_229 : decode cL_cheaper 229 = .ok (.iload_n 3, 1) := by decide +kernel
theorem dL_cheaper_230 : decode cL_cheaper 230 = .ok (.iload 4, 2) := by decide +kernel
theorem dL_cheaper_232 : decode cL_cheaper 232 = .ok (.iload 9, 2) := by decide +kernel
theorem dL_cheaper_234 : decode cL_cheaper 234 = .ok (.isub, 1) := by decide +kernel
theorem dL_cheaper_235 : decode cL_cheaper 235 = .ok (.iconst 1, 1) := by decide +kernel
theorem dL_cheaper_236 : decode cL_cheaper 236 = .ok (.iadd, 1) := by decide +kernel
theorem dL_cheaper_237 : decode cL_cheaper 237 = .ok (.iload 5, 2) := by decide +kernel
theorem dL_cheaper_239 : decode cL_cheaper 239 = .ok (.iload 6, 2) := by decide +kernel
theorem dL_cheaper_241 : decode cL_cheaper 241 = .ok (.invokevirtual 56, 3) := by decide +kernel
theorem dL_cheaper_244 : decode cL_cheaper 244 = .ok (.iload 7, 2) := by decide +kernel
theorem dL_cheaper_246 : decode cL_cheaper 246 = .ok (.if_icmp .lt 7, 3) := by decide +kernel
theorem dL_cheaper_249 : decode cL_cheaper 249 = .ok (.iconst 1, 1) := by decide +kernel
theorem dL_cheaper_250 : decode cL_cheaper 250 = .ok (.goto 4, 3) := by decide +kernel
theorem dL_cheaper_253 : decode cL_cheaper 253 = .ok (.iconst 0, 1) := by decide +kernel
theorem dL_cheaper_254 : decode cL_cheaper 254 = .ok (.istore 11, 2) := by decide +kernel
theorem dL_cheaper_256 : decode cL_cheaper 256 = .ok (.iload 11, 2) := by decide +kernel
theorem dL_cheaper_258 : decode cL_cheaper 258 = .ok (.ifCond .eq 59, 3) := by decide +kernel
theorem dL_cheaper_261 : decode cL_cheaper 261 = .ok (.iload 10, 2) := by decide +kernel
theorem dL_cheaper_263 : decode cL_cheaper 263 = .ok (.ifCond .lt 54, 3) := by decide +kernel
theorem dL_cheaper_266 : decode cL_cheaper 266 = .ok (.iload 10, 2) := by decide +kernel
theorem dL_cheaper_268 : decode cL_cheaper 268 = .ok (.iconst 4, 1) := by decide +kernel
theorem dL_cheaper_269 : decode cL_cheaper 269 = .ok (.if_icmp .ge 48, 3) := by decide +kernel
theorem dL_cheaper_272 : decode cL_cheaper 272 = .ok (.aload_n 0, 1) := by decide +kernel
theorem dL_cheaper_273 : decode cL_cheaper 273 = .ok (.iload_n 2, 1) := by decide +kernel
theorem dL_cheaper_274 : decode cL_cheaper 274 = .ok (.iload_n 3, 1) := by decide +kernel
theorem dL_cheaper_275 : decode cL_cheaper 275 = .ok (.iload 4, 2) := by decide +kernel
theorem dL_cheaper_277 : decode cL_cheaper 277 = .ok (.iload 5, 2) := by decide +kernel
theorem dL_cheaper_279 : decode cL_cheaper 279 = .ok (.iload 10, 2) := by decide +kernel
theorem dL_cheaper_281 : decode cL_cheaper 281 = .ok (.invokevirtual 56, 3) := by decide +kernel
theorem dL_cheaper_284 : decode cL_cheaper 284 = .ok (.iload 7, 2) := by decide +kernel
theorem dL_cheaper_286 : decode cL_cheaper 286 = .ok (.if_icmp .gt 31, 3) := by decide +kernel
theorem dL_cheaper_289 : decode cL_cheaper 289 = .ok (.iload 8, 2) := by decide +kernel
theorem dL_cheaper_291 : decode cL_cheaper 291 = .ok (.ldc 99, 2) := by decide +kernel
theorem dL_cheaper_293 : decode cL_cheaper 293 = .ok (.if_icmp .ne 20, 3) := by decide +kernel
theorem dL_cheaper_296 : decode cL_cheaper 296 = .ok (.aload_n 0, 1) := by decide +kernel
theorem dL_cheaper_297 : decode cL_cheaper 297 = .ok (.iconst 1, 1) := by decide +kernel
theorem dL_cheaper_298 : decode cL_cheaper 298 = .ok (.iload_n 3, 1) := by decide +kernel
theorem dL_cheaper_299 : decode cL_cheaper 299 = .ok (.iload 4, 2) := by decide +kernel
theorem dL_cheaper_301 : decode cL_cheaper 301 = .ok (.iload 5, 2) := by decide +kernel
theorem dL_cheaper_303 : decode cL_cheaper 303 = .ok (.iload 6, 2) := by decide +kernel
theorem dL_cheaper_305 : decode cL_cheaper 305 = .ok (.invokevirtual 56, 3) := by decide +kernel
theorem dL_cheaper_308 : decode cL_cheaper 308 = .ok (.iload 7, 2) := by decide +kernel
theorem dL_cheaper_310 : decode cL_cheaper 310 = .ok (.if_icmp .lt 7, 3) := by decide +kernel
theorem dL_cheaper_313 : decode cL_cheaper 313 = .ok (.iconst 1, 1) := by decide +kernel
theorem dL_cheaper_314 : decode cL_cheaper 314 = .ok (.goto 4, 3) := by decide +kernel
theorem dL_cheaper_317 : decode cL_cheaper 317 = .ok (.iconst 0, 1) := by decide +kernel
theorem dL_cheaper_318 : decode cL_cheaper 318 = .ok (.ireturn, 1) := by decide +kernel
set_option maxRecDepth 20000 in
theorem ggL_rule_L_up : GoodIn wsL_rule wsL_up := goodIn_r _ [4, 5] (by decide +kernel) (by decide +kernel)
set_option maxRecDepth 20000 in
theorem gL_rule_L_up : GoodIn wsL_rule (va_wsS RL 108 yL_up wsL_up) := goodIn_app (goodIn_of _ (by decide +kernel)) ggL_rule_L_up
set_option maxRecDepth 20000 in
theorem ggL_rule_X6_type : GoodIn wsL_rule wsX6_type := goodIn_r _ [10, 11, 12, 13, 14, 15, 16, 9, 17, 295, 296, 297, 298, 299, 300, 301, 302] (by decide +kernel) (by decide +kernel)
set_option maxRecDepth 20000 in
theorem gL_rule_X6_type : GoodIn wsL_rule (wsV RL 49 RX6 yX6_type wsX6_type) := goodIn_app (goodIn_of _ (by decide +kernel)) ggL_rule_X6_type
set_option maxRecDepth 20000 in
theorem ggL_rule_X6_rule_1 : GoodIn wsL_rule [.code yX6_rule cX6_rule 2 (some .int)] := goodIn_r _ [21] (by decide +kernel) (by decide +kernel)
set_option maxRecDepth 20000 in
theorem ggL_rule_X6_rule_2 : GoodIn wsL_rule wsX6_rule_r1 := goodIn_r _ [12, 22, 23, 24, 14, 25, 26, 27, 9, 28, 13, 29, 30, 31, 32, 33, 34, 35, 36, 37, 38, 39, 40, 41] (by decide +kernel) (by decide +kernel)
set_option maxRecDepth 20000 in
theorem ggL_rule_X6_rule_3 : GoodIn wsL_rule wsX6_rule_r2 := goodIn_r _ [42, 43, 44, 45, 46, 47, 48, 49, 50, 51, 52, 53, 54, 55, 56, 57, 58, 59, 60, 61, 62, 63, 64, 65] (by decide +kernel) (by decide +kernel)
set_option maxRecDepth 20000 in
theorem ggL_rule_X6_rule_4 : GoodIn wsL_rule wsX6_rule_r3 := goodIn_r _ [66, 67, 68, 69, 70, 71, 72, 73, 74, 75, 76, 77, 78, 79, 80, 81, 82, 83, 84, 85, 86, 87, 88, 89] (by decide +kernel) (by decide +kernel)
set_option maxRecDepth 20000 in
theorem ggL_rule_X6_rule_5 : GoodIn wsL_rule wsX6_rule_r4 := goodIn_r _ [90, 91, 92, 93, 94, 95, 96, 97, 98, 99, 100, 101, 102, 103, 104, 105, 106, 107, 108, 109, 110, 111, 112, 113] (by decide +kernel) (by decide +kernel)
set_option maxRecDepth 20000 in
theorem ggL_rule_X6_rule_6 : GoodIn wsL_rule wsX6_rule_r5 := goodIn_r _ [114, 115, 116, 117, 118, 119, 120, 121, 122, 123, 124, 125, 126, 127, 128, 129, 130, 131, 132, 133, 134, 135, 136, 137] (by decide +kernel) (by decide +kernel)
set_option maxRecDepth 20000 in
theorem ggL_rule_X6_rule_7 : GoodIn wsL_rule wsX6_rule_r6 := goodIn_r _ [138, 139, 140, 141, 142, 143, 144, 145, 146, 147, 148, 149, 150, 151, 152, 153, 154, 155, 156, 157, 158, 159, 160, 161] (by decide +kernel) (by decide +kernel)
set_option maxRecDepth 20000 in
theorem ggL_rule_X6_rule_8 : GoodIn wsL_rule wsX6_rule_r7 := goodIn_r _ [162, 163, 164, 165, 166, 167, 168, 169, 170, 171, 172, 173, 174, 175, 176, 177, 178, 179, 180, 181, 182, 183, 184, 185] (by decide +kernel) (by decide +kernel)
set_option maxRecDepth 20000 in
theorem ggL_rule_X6_rule_9 : GoodIn wsL_rule wsX6_rule_r8 := goodIn_r _ [186, 187, 188, 189, 190, 191, 192, 193, 194, 195, 196, 197, 198, 199, 200, 201, 202, 203, 204, 205, 206, 207, 208, 209] (by decide +kernel) (by decide +kernel)
set_option maxRecDepth 20000 in
theorem ggL_rule_X6_rule_10 : GoodIn wsL_rule wsX6_rule_r9 := goodIn_r _ [210, 211, 212, 213, 214, 215, 216, 217, 218, 219, 220, 221, 222, 223, 224, 225, 226, 227, 228, 229, 230, 231, 232, 233] (by decide +kernel) (by decide +kernel)
set_option maxRecDepth 20000 in
theorem ggL_rule_X6_rule_11 : GoodIn wsL_rule wsX6_rule_r10 := goodIn_r _ [234, 235, 236, 237, 238, 239, 240, 241, 242, 243, 244, 245, 246, 247, 248, 249, 250, 251, 252, 253, 254, 255, 256, 257] (by decide +kernel) (by decide +kernel)
set_option maxRecDepth 20000 in
theorem ggL_rule_X6_rule_12 : GoodIn wsL_rule wsX6_rule_r11 := goodIn_r _ [258, 259, 260, 261, 262, 263, 264, 265, 266, 267, 268, 269, 270, 271, 272, 273, 274, 275, 276, 277, 278, 279, 280, 281] (by decide +kernel) (by decide +kernel)
set_option maxRecDepth 20000 in
theorem ggL_rule_X6_rule_13 : GoodIn wsL_rule wsX6_rule_r12 := goodIn_r _ [282, 283, 284, 285, 286, 287, 288, 289, 290, 291, 292, 293, 294] (by decide +kernel) (by decide +kernel)
set_option maxRecDepth 20000 in
theorem ggL_rule_X6_rule_14 : GoodIn wsL_rule wsX60 := goodIn_r _ [295, 296, 297, 298, 299, 300, 301, 302] (by decide +kernel) (by decide +kernel)
set_option maxRecDepth 20000 in
theorem ggL_rule_X6_rule_15 : GoodIn wsL_rule wsX40 := goodIn_r _ [303, 304, 305, 306, 307, 308] (by decide +kernel) (by decide +kernel)
set_option maxRecDepth 20000 in
theorem ggL_rule_X6_rule_16 : GoodIn wsL_rule wsX10 := goodIn_r _ [309, 310, 311, 312, 313, 314, 315, 316, 317] (by decide +kernel) (by decide +kernel)
set_option maxRecDepth 20000 in
theorem ggL_rule_X6_rule_17 : GoodIn wsL_rule wsX20 := goodIn_r _ [318] (by decide +kernel) (by decide +kernel)
set_option maxRecDepth 20000 in
theorem ggL_rule_X6_rule_18 : GoodIn wsL_rule wsX50 := goodIn_r _ [319, 320, 321, 322] (by decide +kernel) (by decide +kernel)
set_option maxRecDepth 20000 in
theorem ggL_rule_X6_rule_19 : GoodIn wsL_rule wsX30 := goodIn_r _ [323, 324, 325, 326, 327, 328, 329, 330, 331, 332, 333] (by decide +kernel) (by decide +kernel)
set_option maxRecDepth 20000 in
theorem ggL_rule_X6_rule_20 : GoodIn wsL_rule wsX00 := goodIn_r _ [334, 335, 336, 337] (by decide +kernel) (by decide +kernel)
set_option maxRecDepth 20000 in
theorem ggL_rule_X6_rule : GoodIn wsL_rule wsX6_rule := goodIn_app (a := [.code yX6_rule cX6_rule 2 (some .int)]) ggL_rule_X6_rule_1 (goodIn_app (goodIn_app (goodIn_app (goodIn_app (goodIn_app (goodIn_app (goodIn_app (goodIn_app ggL_rule_X6_rule_2 (goodIn_app ggL_rule_X6_rule_3 (goodIn_app ggL_rule_X6_rule_4 (goodIn_app ggL_rule_X6_rule_5 (goodIn_app ggL_rule_X6_rule_6 (goodIn_app ggL_rule_X6_rule_7 (goodIn_app ggL_rule_X6_rule_8 (goodIn_app ggL_rule_X6_rule_9 (goodIn_app ggL_rule_X6_rule_10 (goodIn_app ggL_rule_X6_rule_11 (goodIn_app ggL_rule_X6_rule_12 ggL_rule_X6_rule_13))))))))))) ggL_rule_X6_rule_14) ggL_rule_X6_rule_15) ggL_rule_X6_rule_16) ggL_rule_X6_rule_17) ggL_rule_X6_rule_18) ggL_rule_X6_rule_19) ggL_rule_X6_rule_20)
set_option maxRecDepth 20000 in
theorem gL_rule_X6_rule : GoodIn wsL_rule (wsV RL 111 RX6 yX6_rule wsX6_rule) := goodIn_app (goodIn_of _ (by decide +kernel)) ggL_rule_X6_rule
