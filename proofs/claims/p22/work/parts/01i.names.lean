theorem dL_deals_0 : decode cL_deals 0 = .ok (.iload_n 1, 1) := by decide +kernel
theorem dL_deals_1 : decode cL_deals 1 = .ok (.iconst 4, 1) := by decide +kernel
theorem dL_deals_2 : decode cL_deals 2 = .ok (.if_icmp .ge 514, 3) := by decide +kernel
theorem dL_deals_5 : decode cL_deals 5 = .ok (.iload_n 2, 1) := by decide +kernel
theorem dL_deals_6 : decode cL_deals 6 = .ok (.iconst 2, 1) := by decide +kernel
theorem dL_deals_7 : decode cL_deals 7 = .ok (.invokestatic 99, 3) := by decide +kernel
theorem dL_deals_10 : decode cL_deals 10 = .ok (.istore 12, 2) := by decide +kernel
theorem dL_deals_12 : decode cL_deals 12 = .ok (.iload_n 2, 1) := by decide +kernel
theorem dL_deals_13 : decode cL_deals 13 = .ok (.iconst 1, 1) := by decide +kernel
theorem dL_deals_14 : decode cL_deals 14 = .ok (.ishr, 1) := by decide +kernel
theorem dL_deals_15 : decode cL_deals 15 = .ok (.iconst 2, 1) := by decide +kernel
theorem dL_deals_16 : decode cL_deals 16 = .ok (.invokestatic 99, 3) := by decide +kernel
theorem dL_deals_19 : decode cL_deals 19 = .ok (.istore 13, 2) := by decide +kernel
theorem dL_deals_21 : decode cL_deals 21 = .ok (.iload_n 2, 1) := by decide +kernel
theorem dL_deals_22 : decode cL_deals 22 = .ok (.bipush 24, 2) := by decide +kernel
theorem dL_deals_24 : decode cL_deals 24 = .ok (.iand, 1) := by decide +kernel
theorem dL_deals_25 : decode cL_deals 25 = .ok (.ifCond .le 7, 3) := by decide +kernel
theorem dL_deals_28 : decode cL_deals 28 = .ok (.iconst 1, 1) := by decide +kernel
theorem dL_deals_29 : decode cL_deals 29 = .ok (.goto 4, 3) := by decide +kernel
theorem dL_deals_32 : decode cL_deals 32 = .ok (.iconst 0, 1) := by decide +kernel
theorem dL_deals_33 : decode cL_deals 33 = .ok (.istore 14, 2) := by decide +kernel
theorem dL_deals_35 : decode cL_deals 35 = .ok (.iload_n 3, 1) := by decide +kernel
theorem dL_deals_36 : decode cL_deals 36 = .ok (.bipush 6, 2) := by decide +kernel
theorem dL_deals_38 : decode cL_deals 38 = .ok (.iand, 1) := by decide +kernel
theorem dL_deals_39 : decode cL_deals 39 = .ok (.ifCond .ne 16, 3) := by decide +kernel
theorem dL_deals_42 : decode cL_deals 42 = .ok (.iconst 1, 1) := by decide +kernel
theorem dL_deals_43 : decode cL_deals 43 = .ok (.iload_n 3, 1) := by decide +kernel
theorem dL_deals_44 : decode cL_deals 44 = .ok (.iconst 3, 1) := by decide +kernel
theorem dL_deals_45 : decode cL_deals 45 = .ok (.ishr, 1) := by decide +kernel
theorem dL_deals_46 : decode cL_deals 46 = .ok (.ldc 120, 2) := by decide +kernel
theorem dL_deals_48 : decode cL_deals 48 = .ok (.invokestatic 99, 3) := by decide +kernel
theorem dL_deals_51 : decode cL_deals 51 = .ok (.iadd, 1) := by decide +kernel
theorem dL_deals_52 : decode cL_deals 52 = .ok (.goto 14, 3) := by decide +kernel
theorem dL_deals_55 : decode cL_deals 55 = .ok (.iconst 1, 1) := by decide +kernel
theorem dL_deals_56 : decode cL_deals 56 = .ok (.iload_n 3, 1) := by decide +kernel
theorem dL_deals_57 : decode cL_deals 57 = .ok (.iconst 3, 1) := by decide +kernel
theorem dL_deals_58 : decode cL_deals 58 = .ok (.ishr, 1) := by decide +kernel
theorem dL_deals_59 : decode cL_deals 59 = .ok (.sipush 20000, 3) := by decide +kernel
theorem dL_deals_62 : decode cL_deals 62 = .ok (.invokestatic 99, 3) := by decide +kernel
theorem dL_deals_65 : decode cL_deals 65 = .ok (.iadd, 1) := by decide +kernel
theorem dL_deals_66 : decode cL_deals 66 = .ok (.istore 15, 2) := by decide +kernel
theorem dL_deals_68 : decode cL_deals 68 = .ok (.iload_n 2, 1) := by decide +kernel
theorem dL_deals_69 : decode cL_deals 69 = .ok (.bipush 96, 2) := by decide +kernel
theorem dL_deals_71 : decode cL_deals 71 = .ok (.iand, 1) := by decide +kernel
theorem dL_deals_72 : decode cL_deals 72 = .ok (.ifCond .ne 16, 3) := by decide +kernel
theorem dL_deals_75 : decode cL_deals 75 = .ok (.iload_n 2, 1) := by decide +kernel
theorem dL_deals_76 : decode cL_deals 76 = .ok (.bipush 7, 2) := by decide +kernel
theorem dL_deals_78 : decode cL_deals 78 = .ok (.ishr, 1) := by decide +kernel
theorem dL_deals_79 : decode cL_deals 79 = .ok (.sipush 401, 3) := by decide +kernel
theorem dL_deals_82 : decode cL_deals 82 = .ok (.invokestatic 99, 3) := by decide +kernel
theorem dL_deals_85 : decode cL_deals 85 = .ok (.goto 12, 3) := by decide +kernel
theorem dL_deals_88 : decode cL_deals 88 = .ok (.iload_n 2, 1) := by decide +kernel
theorem dL_deals_89 : decode cL_deals 89 = .ok (.bipush 7, 2) := by decide +kernel
theorem dL_deals_91 : decode cL_deals 91 = .ok (.ishr, 1) := by decide +kernel
theorem dL_deals_92 : decode cL_deals 92 = .ok (.bipush 20, 2) := by decide +kernel
theorem dL_deals_94 : decode cL_deals 94 = .ok (.invokestatic 99, 3) := by decide +kernel
theorem dL_deals_97 : decode cL_deals 97 = .ok (.istore 16, 2) := by decide +kernel
theorem dL_deals_99 : decode cL_deals 99 = .ok (.iload_n 2, 1) := by decide +kernel
theorem dL_deals_100 : decode cL_deals 100 = .ok (.sipush 24576, 3) := by decide +kernel
theorem dL_deals_103 : decode cL_deals 103 = .ok (.iand, 1) := by decide +kernel
theorem dL_deals_104 : decode cL_deals 104 = .ok (.ifCond .ne 8, 3) := by decide +kernel
theorem dL_deals_107 : decode cL_deals 107 = .ok (.iload 16, 2) := by decide +kernel
theorem dL_deals_109 : decode cL_deals 109 = .ok (.goto 15, 3) := by decide +kernel
theorem dL_deals_112 : decode cL_deals 112 = .ok (.iload 16, 2) := by decide +kernel
theorem dL_deals_114 : decode cL_deals 114 = .ok (.iload_n 2, 1) := by decide +kernel
theorem dL_deals_115 : decode cL_deals 115 = .ok (.bipush 15, 2) := by decide +kernel
theorem dL_deals_117 : decode cL_deals 117 = .ok (.ishr, 1) := by decide +kernel
theorem dL_deals_118 : decode cL_deals 118 = .ok (.bipush 25, 2) := by decide +kernel
theorem dL_deals_120 : decode cL_deals 120 = .ok (.invokestatic 99, 3) := by decide +kernel
theorem dL_deals_123 : decode cL_deals 123 = .ok (.iadd, 1) := by decide +kernel
theorem dL_deals_124 : decode cL_deals 124 = .ok (.istore 17, 2) := by decide +kernel
theorem dL_deals_126 : decode cL_deals 126 = .ok (.iload 17, 2) := by decide +kernel
theorem dL_deals_128 : decode cL_deals 128 = .ok (.sipush 400, 3) := by decide +kernel
theorem dL_deals_131 : decode cL_deals 131 = .ok (.if_icmp .le 9, 3) := by decide +kernel
theorem dL_deals_134 : decode cL_deals 134 = .ok (.sipush 400, 3) := by decide +kernel
theorem dL_deals_137 : decode cL_deals 137 = .ok (.goto 5, 3) := by decide +kernel
theorem dL_deals_140 : decode cL_deals 140 = .ok (.iload 17, 2) := by decide +kernel
theorem dL_deals_142 : decode cL_deals 142 = .ok (.istore 17, 2) := by decide +kernel
theorem dL_deals_144 : decode cL_deals 144 = .ok (.aload_n 0, 1) := by decide +kernel
theorem dL_deals_145 : decode cL_deals 145 = .ok (.iconst 5, 1) := by decide +kernel
theorem dL_deals_146 : decode cL_deals 146 = .ok (.iconst 0, 1) := by decide +kernel
theorem dL_deals_147 : decode cL_deals 147 = .ok (.iload 14, 2) := by decide +kernel
theorem dL_deals_149 : decode cL_deals 149 = .ok (.iconst 0, 1) := by decide +kernel
theorem dL_deals_150 : decode cL_deals 150 = .ok (.iconst 0, 1) := by decide +kernel
theorem dL_deals_151 : decode cL_deals 151 = .ok (.iconst 0, 1) := by decide +kernel
theorem dL_deals_152 : decode cL_deals 152 = .ok (.invokestatic 121, 3) := by decide +kernel
theorem dL_deals_155 : decode cL_deals 155 = .ok (.ldc 16, 2) := by decide +kernel
theorem dL_deals_157 : decode cL_deals 157 = .ok (.if_icmp .ne 148, 3) := by decide +kernel
theorem dL_deals_160 : decode cL_deals 160 = .ok (.aload_n 0, 1) := by decide +kernel
theorem dL_deals_161 : decode cL_deals 161 = .ok (.iconst 0, 1) := by decide +kernel
theorem dL_deals_162 : decode cL_deals 162 = .ok (.iconst 4, 1) := by decide +kernel
theorem dL_deals_163 : decode cL_deals 163 = .ok (.iload 14, 2) := by decide +kernel
theorem dL_deals_165 : decode cL_deals 165 = .ok (.iconst 0, 1) := by decide +kernel
theorem dL_deals_166 : decode cL_deals 166 = .ok (.iconst 0, 1) := by decide +kernel
theorem dL_deals_167 : decode cL_deals 167 = .ok (.iconst 0, 1) := by decide +kernel
theorem dL_deals_168 : decode cL_deals 168 = .ok (.invokestatic 121, 3) := by decide +kernel
theorem dL_deals_171 : decode cL_deals 171 = .ok (.ldc 16, 2) := by decide +kernel
theorem dL_deals_173 : decode cL_deals 173 = .ok (.if_icmp .ne 132, 3) := by decide +kernel
theorem dL_deals_176 : decode cL_deals 176 = .ok (.aload_n 0, 1) := by decide +kernel
theorem dL_deals_177 : decode cL_deals 177 = .ok (.iload 12, 2) := by decide +kernel
theorem dL_deals_179 : decode cL_deals 179 = .ok (.iload 13, 2) := by decide +kernel
theorem dL_deals_181 : decode cL_deals 181 = .ok (.iload 14, 2) := by decide +kernel
theorem dL_deals_183 : decode cL_deals 183 = .ok (.iconst 0, 1) := by decide +kernel
theorem dL_deals_184 : decode cL_deals 184 = .ok (.iload 16, 2) := by decide +kernel
theorem dL_deals_186 : decode cL_deals 186 = .ok (.iload 17, 2) := by decide +kernel
theorem dL_deals_188 : decode cL_deals 188 = .ok (.invokestatic 121, 3) := by decide +kernel
theorem dL_deals_191 : decode cL_deals 191 = .ok (.ldc 19, 2) := by decide +kernel
theorem dL_deals_193 : decode cL_deals 193 = .ok (.if_icmp .ne 112, 3) := by decide +kernel
theorem dL_deals_196 : decode cL_deals 196 = .ok (.aload_n 0, 1) := by decide +kernel
theorem dL_deals_197 : decode cL_deals 197 = .ok (.iload 12, 2) := by decide +kernel
theorem dL_deals_199 : decode cL_deals 199 = .ok (.iload 13, 2) := by decide +kernel
theorem dL_deals_201 : decode cL_deals 201 = .ok (.iload 14, 2) := by decide +kernel
theorem dL_deals_203 : decode cL_deals 203 = .ok (.ldc 124, 2) := by decide +kernel
theorem dL_deals_205 : decode cL_deals 205 = .ok (.iload 16, 2) := by decide +kernel
theorem dL_deals_207 : decode cL_deals 207 = .ok (.iload 17, 2) := by decide +kernel
theorem dL_deals_209 : decode cL_deals 209 = .ok (.invokestatic 121, 3) := by decide +kernel
theorem dL_deals_212 : decode cL_deals 212 = .ok (.ldc 19, 2) := by decide +kernel
theorem dL_deals_214 : decode cL_deals 214 = .ok (.if_icmp .ne 91, 3) := by decide +kernel
theorem dL_deals_217 : decode cL_deals 217 = .ok (.aload_n 0, 1) := by decide +kernel
theorem dL_deals_218 : decode cL_deals 218 = .ok (.iload 12, 2) := by decide +kernel
theorem dL_deals_220 : decode cL_deals 220 = .ok (.iload 13, 2) := by decide +kernel
theorem dL_deals_222 : decode cL_deals 222 = .ok (.iload 14, 2) := by decide +kernel
theorem dL_deals_224 : decode cL_deals 224 = .ok (.iload 15, 2) := by decide +kernel
theorem dL_deals_226 : decode cL_deals 226 = .ok (.sipush 401, 3) := by decide +kernel
theorem dL_deals_229 : decode cL_deals 229 = .ok (.sipush 401, 3) := by decide +kernel
theorem dL_deals_232 : decode cL_deals 232 = .ok (.invokestatic 121, 3) := by decide +kernel
theorem dL_deals_235 : decode cL_deals 235 = .ok (.ldc 19, 2) := by decide +kernel
theorem dL_deals_237 : decode cL_deals 237 = .ok (.if_icmp .ne 68, 3) := by decide +kernel
theorem dL_deals_240 : decode cL_deals 240 = .ok (.aload_n 0, 1) := by decide +kernel
theorem dL_deals_241 : decode cL_deals 241 = .ok (.iload 12, 2) := by decide +kernel
theorem dL_deals_243 : decode cL_deals 243 = .ok (.iload 13, 2) := by decide +kernel
theorem dL_deals_245 : decode cL_deals 245 = .ok (.iload 14, 2) := by decide +kernel
theorem dL_deals_247 : decode cL_deals 247 = .ok (.iload 15, 2) := by decide +kernel
theorem dL_deals_249 : decode cL_deals 249 = .ok (.iload 16, 2) := by decide +kernel
theorem dL_deals_251 : decode cL_deals 251 = .ok (.iload 16, 2) := by decide +kernel
theorem dL_deals_253 : decode cL_deals 253 = .ok (.iconst 1, 1) := by decide +kernel
theorem dL_deals_254 : decode cL_deals 254 = .ok (.isub, 1) := by decide +kernel
theorem dL_deals_255 : decode cL_deals 255 = .ok (.invokestatic 121, 3) := by decide +kernel
theorem dL_deals_258 : decode cL_deals 258 = .ok (.ldc 19, 2) := by decide +kernel
theorem dL_deals_260 : decode cL_deals 260 = .ok (.if_icmp .ne 45, 3) := by decide +kernel
theorem dL_deals_263 : decode cL_deals 263 = .ok (.aload_n 0, 1) := by decide +kernel
theorem dL_deals_264 : decode cL_deals 264 = .ok (.iload 12, 2) := by decide +kernel
theorem dL_deals_266 : decode cL_deals 266 = .ok (.iload 13, 2) := by decide +kernel
theorem dL_deals_268 : decode cL_deals 268 = .ok (.iload 14, 2) := by decide +kernel
theorem dL_deals_270 : decode cL_deals 270 = .ok (.iload 15, 2) := by decide +kernel
theorem dL_deals_272 : decode cL_deals 272 = .ok (.iconst (-1), 1) := by decide +kernel
theorem dL_deals_273 : decode cL_deals 273 = .ok (.iload 17, 2) := by decide +kernel
theorem dL_deals_275 : decode cL_deals 275 = .ok (.invokestatic 121, 3) := by decide +kernel
theorem dL_deals_278 : decode cL_deals 278 = .ok (.ldc 19, 2) := by decide +kernel
theorem dL_deals_280 : decode cL_deals 280 = .ok (.if_icmp .ne 25, 3) := by decide +kernel
theorem dL_deals_283 : decode cL_deals 283 = .ok (.aload_n 0, 1) := by decide +kernel
theorem dL_deals_284 : decode cL_deals 284 = .ok (.iload 12, 2) := by decide +kernel
theorem dL_deals_286 : decode cL_deals 286 = .ok (.iload 13, 2) := by decide +kernel
theorem dL_deals_288 : decode cL_deals 288 = .ok (.iload 14, 2) := by decide +kernel
theorem dL_deals_290 : decode cL_deals 290 = .ok (.iload 15, 2) := by decide +kernel
theorem dL_deals_292 : decode cL_deals 292 = .ok (.iload 16, 2) := by decide +kernel
theorem dL_deals_294 : decode cL_deals 294 = .ok (.sipush 401, 3) := by decide +kernel
theorem dL_deals_297 : decode cL_deals 297 = .ok (.invokestatic 121, 3) := by decide +kernel
theorem dL_deals_300 : decode cL_deals 300 = .ok (.ldc 19, 2) := by decide +kernel
theorem dL_deals_302 : decode cL_deals 302 = .ok (.if_icmp .eq 5, 3) := by decide +kernel
theorem dL_deals_305 : decode cL_deals 305 = .ok (.iconst 0, 1) := by decide +kernel
theorem dL_deals_306 : decode cL_deals 306 = .ok (.ireturn, 1) := by decide +kernel
theorem dL_deals_307 : decode cL_deals 307 = .ok (.aload 11, 2) := by decide +kernel
theorem dL_deals_309 : decode cL_deals 309 = .ok (.iconst 1, 1) := by decide +kernel
theorem dL_deals_310 : decode cL_deals 310 = .ok (.iaload, 1) := by decide +kernel
theorem dL_deals_311 : decode cL_deals 311 = .ok (.bipush 20, 2) := by decide +kernel
theorem dL_deals_313 : decode cL_deals 313 = .ok (.if_icmp .ne 30, 3) := by decide +kernel
theorem dL_deals_316 : decode cL_deals 316 = .ok (.aload_n 0, 1) := by decide +kernel
theorem dL_deals_317 : decode cL_deals 317 = .ok (.iload 12, 2) := by decide +kernel
theorem dL_deals_319 : decode cL_deals 319 = .ok (.iload 13, 2) := by decide +kernel
theorem dL_deals_321 : decode cL_deals 321 = .ok (.iload 14, 2) := by decide +kernel
theorem dL_deals_323 : decode cL_deals 323 = .ok (.iload 15, 2) := by decide +kernel
theorem dL_deals_325 : decode cL_deals 325 = .ok (.iload 16, 2) := by decide +kernel
theorem dL_deals_327 : decode cL_deals 327 = .ok (.iload 17, 2) := by decide +kernel
theorem dL_deals_329 : decode cL_deals 329 = .ok (.invokestatic 121, 3) := by decide +kernel
theorem dL_deals_332 : decode cL_deals 332 = .ok (.ldc 29, 2) := by decide +kernel
theorem dL_deals_334 : decode cL_deals 334 = .ok (.if_icmp .ne 7, 3) := by decide +kernel
theorem dL_deals_337 : decode cL_deals 337 = .ok (.iconst 1, 1) := by decide +kernel
theorem dL_deals_338 : decode cL_deals 338 = .ok (.goto 4, 3) := by decide +kernel
theorem dL_deals_341 : decode cL_deals 341 = .ok (.iconst 0, 1) := by decide +kernel
theorem dL_deals_342 : decode cL_deals 342 = .ok (.ireturn, 1) := by decide +kernel
theorem dL_deals_343 : decode cL_deals 343 = .ok (.aload 11, 2) := by decide +kernel
theorem dL_deals_345 : decode cL_deals 345 = .ok (.iconst 1, 1) := by decide +kernel
theorem dL_deals_346 : decode cL_deals 346 = .ok (.iaload, 1) := by decide +kernel
theorem dL_deals_347 : decode cL_deals 347 = .ok (.istore 18, 2) := by decide +kernel
theorem dL_deals_349 : decode cL_deals 349 = .ok (.aload 4, 2) := by decide +kernel
theorem dL_deals_351 : decode cL_deals 351 = .ok (.iload 18, 2) := by decide +kernel
theorem dL_deals_353 : decode cL_deals 353 = .ok (.iload 12, 2) := by decide +kernel
theorem dL_deals_355 : decode cL_deals 355 = .ok (.iconst 2, 1) := by decide +kernel
theorem dL_deals_356 : decode cL_deals 356 = .ok (.iload 13, 2) := by decide +kernel
theorem dL_deals_358 : decode cL_deals 358 = .ok (.imul, 1) := by decide +kernel
theorem dL_deals_359 : decode cL_deals 359 = .ok (.iadd, 1) := by decide +kernel
theorem dL_deals_360 : decode cL_deals 360 = .ok (.iload 14, 2) := by decide +kernel
theorem dL_deals_362 : decode cL_deals 362 = .ok (.ifCond .eq 7, 3) := by decide +kernel
theorem dL_deals_365 : decode cL_deals 365 = .ok (.iconst 0, 1) := by decide +kernel
theorem dL_deals_366 : decode cL_deals 366 = .ok (.goto 4, 3) := by decide +kernel
theorem dL_deals_369 : decode cL_deals 369 = .ok (.iconst 4, 1) := by decide +kernel
theorem dL_deals_370 : decode cL_deals 370 = .ok (.iadd, 1) := by decide +kernel
theorem dL_deals_371 : decode cL_deals 371 = .ok (.iastore, 1) := by decide +kernel
theorem dL_deals_372 : decode cL_deals 372 = .ok (.aload 5, 2) := by decide +kernel
theorem dL_deals_374 : decode cL_deals 374 = .ok (.iload 18, 2) := by decide +kernel
theorem dL_deals_376 : decode cL_deals 376 = .ok (.iload 15, 2) := by decide +kernel
theorem dL_deals_378 : decode cL_deals 378 = .ok (.iastore, 1) := by decide +kernel
theorem dL_deals_379 : decode cL_deals 379 = .ok (.aload 6, 2) := by decide +kernel
theorem dL_deals_381 : decode cL_deals 381 = .ok (.iload 18, 2) := by decide +kernel
theorem dL_deals_383 : decode cL_deals 383 = .ok (.aload 11, 2) := by decide +kernel
theorem dL_deals_385 : decode cL_deals 385 = .ok (.iconst 0, 1) := by decide +kernel
theorem dL_deals_386 : decode cL_deals 386 = .ok (.iaload, 1) := by decide +kernel
theorem dL_deals_387 : decode cL_deals 387 = .ok (.iload 16, 2) := by decide +kernel
theorem dL_deals_389 : decode cL_deals 389 = .ok (.iadd, 1) := by decide +kernel
theorem dL_deals_390 : decode cL_deals 390 = .ok (.iastore, 1) := by decide +kernel
theorem dL_deals_391 : decode cL_deals 391 = .ok (.aload 7, 2) := by decide +kernel
theorem dL_deals_393 : decode cL_deals 393 = .ok (.iload 18, 2) := by decide +kernel
theorem dL_deals_395 : decode cL_deals 395 = .ok (.aload 11, 2) := by decide +kernel
theorem dL_deals_397 : decode cL_deals 397 = .ok (.iconst 0, 1) := by decide +kernel
theorem dL_deals_398 : decode cL_deals 398 = .ok (.iaload, 1) := by decide +kernel
theorem dL_deals_399 : decode cL_deals 399 = .ok (.iload 17, 2) := by decide +kernel
theorem dL_deals_401 : decode cL_deals 401 = .ok (.iadd, 1) := by decide +kernel
theorem dL_deals_402 : decode cL_deals 402 = .ok (.iastore, 1) := by decide +kernel
theorem dL_deals_403 : decode cL_deals 403 = .ok (.aload 8, 2) := by decide +kernel
theorem dL_deals_405 : decode cL_deals 405 = .ok (.iload 18, 2) := by decide +kernel
theorem dL_deals_407 : decode cL_deals 407 = .ok (.aload 9, 2) := by decide +kernel
theorem dL_deals_409 : decode cL_deals 409 = .ok (.iload 13, 2) := by decide +kernel
theorem dL_deals_411 : decode cL_deals 411 = .ok (.iload 17, 2) := by decide +kernel
theorem dL_deals_413 : decode cL_deals 413 = .ok (.invokestatic 83, 3) := by decide +kernel
theorem dL_deals_416 : decode cL_deals 416 = .ok (.iastore, 1) := by decide +kernel
theorem dL_deals_417 : decode cL_deals 417 = .ok (.aload 11, 2) := by decide +kernel
theorem dL_deals_419 : decode cL_deals 419 = .ok (.iconst 1, 1) := by decide +kernel
theorem dL_deals_420 : decode cL_deals 420 = .ok (.dup2, 1) := by decide +kernel
theorem dL_deals_421 : decode cL_deals 421 = .ok (.iaload, 1) := by decide +kernel
theorem dL_deals_422 : decode cL_deals 422 = .ok (.iconst 1, 1) := by decide +kernel
theorem dL_deals_423 : decode cL_deals 423 = .ok (.iadd, 1) := by decide +kernel
theorem dL_deals_424 : decode cL_deals 424 = .ok (.iastore, 1) := by decide +kernel
theorem dL_deals_425 : decode cL_deals 425 = .ok (.aload 4, 2) := by decide +kernel
theorem dL_deals_427 : decode cL_deals 427 = .ok (.aload 5, 2) := by decide +kernel
theorem dL_deals_429 : decode cL_deals 429 = .ok (.aload 7, 2) := by decide +kernel
theorem dL_deals_431 : decode cL_deals 431 = .ok (.aload 8, 2) := by decide +kernel
theorem dL_deals_433 : decode cL_deals 433 = .ok (.aload 9, 2) := by decide +kernel
theorem dL_deals_435 : decode cL_deals 435 = .ok (.aload 11, 2) := by decide +kernel
theorem dL_deals_437 : decode cL_deals 437 = .ok (.iload 12, 2) := by decide +kernel
theorem dL_deals_439 : decode cL_deals 439 = .ok (.invokestatic 125, 3) := by decide +kernel
theorem dL_deals_442 : decode cL_deals 442 = .ok (.aload 9, 2) := by decide +kernel
theorem dL_deals_444 : decode cL_deals 444 = .ok (.iconst 4, 1) := by decide +kernel
theorem dL_deals_445 : decode cL_deals 445 = .ok (.iload 12, 2) := by decide +kernel
theorem dL_deals_447 : decode cL_deals 447 = .ok (.iadd, 1) := by decide +kernel
theorem dL_deals_448 : decode cL_deals 448 = .ok (.iaload, 1) := by decide +kernel
theorem dL_deals_449 : decode cL_deals 449 = .ok (.i2l, 1) := by decide +kernel
theorem dL_deals_450 : decode cL_deals 450 = .ok (.lcmp, 1) := by decide +kernel
theorem dL_deals_451 : decode cL_deals 451 = .ok (.ifCond .le 38, 3) := by decide +kernel
theorem dL_deals_454 : decode cL_deals 454 = .ok (.aload 11, 2) := by decide +kernel
theorem dL_deals_456 : decode cL_deals 456 = .ok (.iconst 1, 1) := by decide +kernel
theorem dL_deals_457 : decode cL_deals 457 = .ok (.dup2, 1) := by decide +kernel
theorem dL_deals_458 : decode cL_deals 458 = .ok (.iaload, 1) := by decide +kernel
theorem dL_deals_459 : decode cL_deals 459 = .ok (.iconst 1, 1) := by decide +kernel
theorem dL_deals_460 : decode cL_deals 460 = .ok (.isub, 1) := by decide +kernel
theorem dL_deals_461 : decode cL_deals 461 = .ok (.iastore, 1) := by decide +kernel
theorem dL_deals_462 : decode cL_deals 462 = .ok (.aload_n 0, 1) := by decide +kernel
theorem dL_deals_463 : decode cL_deals 463 = .ok (.iload 12, 2) := by decide +kernel
theorem dL_deals_465 : decode cL_deals 465 = .ok (.iload 13, 2) := by decide +kernel
theorem dL_deals_467 : decode cL_deals 467 = .ok (.iload 14, 2) := by decide +kernel
theorem dL_deals_469 : decode cL_deals 469 = .ok (.iload 15, 2) := by decide +kernel
theorem dL_deals_471 : decode cL_deals 471 = .ok (.iload 16, 2) := by decide +kernel
theorem dL_deals_473 : decode cL_deals 473 = .ok (.iload 17, 2) := by decide +kernel
theorem dL_deals_475 : decode cL_deals 475 = .ok (.invokestatic 121, 3) := by decide +kernel
theorem dL_deals_478 : decode cL_deals 478 = .ok (.ldc 29, 2) := by decide +kernel
theorem dL_deals_480 : decode cL_deals 480 = .ok (.if_icmp .ne 7, 3) := by decide +kernel
theorem dL_deals_483 : decode cL_deals 483 = .ok (.iconst 1, 1) := by decide +kernel
theorem dL_deals_484 : decode cL_deals 484 = .ok (.goto 4, 3) := by decide +kernel
theorem dL_deals_487 : decode cL_deals 487 = .ok (.iconst 0, 1) := by decide +kernel
theorem dL_deals_488 : decode cL_deals 488 = .ok (.ireturn, 1) := by decide +kernel
theorem dL_deals_489 : decode cL_deals 489 = .ok (.aload_n 0, 1) := by decide +kernel
theorem dL_deals_490 : decode cL_deals 490 = .ok (.iload 12, 2) := by decide +kernel
theorem dL_deals_492 : decode cL_deals 492 = .ok (.iload 13, 2) := by decide +kernel
theorem dL_deals_494 : decode cL_deals 494 = .ok (.iload 14, 2) := by decide +kernel
theorem dL_deals_496 : decode cL_deals 496 = .ok (.iload 15, 2) := by decide +kernel
theorem dL_deals_498 : decode cL_deals 498 = .ok (.iload 16, 2) := by decide +kernel
theorem dL_deals_500 : decode cL_deals 500 = .ok (.iload 17, 2) := by decide +kernel
theorem dL_deals_502 : decode cL_deals 502 = .ok (.invokestatic 121, 3) := by decide +kernel
theorem dL_deals_505 : decode cL_deals 505 = .ok (.iload 18, 2) := by decide +kernel
theorem dL_deals_507 : decode cL_deals 507 = .ok (.if_icmp .ne 7, 3) := by decide +kernel
theorem dL_deals_510 : decode cL_deals 510 = .ok (.iconst 1, 1) := by decide +kernel
theorem dL_deals_511 : decode cL_deals 511 = .ok (.goto 4, 3) := by decide +kernel
theorem dL_deals_514 : decode cL_deals 514 = .ok (.iconst 0, 1) := by decide +kernel
theorem dL_deals_515 : decode cL_deals 515 = .ok (.ireturn, 1) := by decide +kernel
theorem dL_deals_516 : decode cL_deals 516 = .ok (.iload_n 2, 1) := by decide +kernel
theorem dL_deals_517 : decode cL_deals 517 = .ok (.aload 11, 2) := by decide +kernel
theorem dL_deals_519 : decode cL_deals 519 = .ok (.iconst 1, 1) := by decide +kernel
theorem dL_deals_520 : decode cL_deals 520 = .ok (.iaload, 1) := by decide +kernel
theorem dL_deals_521 : decode cL_deals 521 = .ok (.iconst 1, 1) := by decide +kernel
theorem dL_deals_522 : decode cL_deals 522 = .ok (.iadd, 1) := by decide +kernel
theorem dL_deals_523 : decode cL_deals 523 = .ok (.invokestatic 99, 3) := by decide +kernel
theorem dL_deals_526 : decode cL_deals 526 = .ok (.istore 12, 2) := by decide +kernel
theorem dL_deals_528 : decode cL_deals 528 = .ok (.iconst 0, 1) := by decide +kernel
theorem dL_deals_529 : decode cL_deals 529 = .ok (.istore 13, 2) := by decide +kernel
theorem dL_deals_531 : decode cL_deals 531 = .ok (.iload 13, 2) := by decide +kernel
theorem dL_deals_533 : decode cL_deals 533 = .ok (.aload 11, 2) := by decide +kernel
theorem dL_deals_535 : decode cL_deals 535 = .ok (.iconst 1, 1) := by decide +kernel
theorem dL_deals_536 : decode cL_deals 536 = .ok (.iaload, 1) := by decide +kernel
theorem dL_deals_537 : decode cL_deals 537 = .ok (.if_icmp .ge 44, 3) := by decide +kernel
theorem dL_deals_540 : decode cL_deals 540 = .ok (.iload_n 2, 1) := by decide +kernel
theorem dL_deals_541 : decode cL_deals 541 = .ok (.bipush 96, 2) := by decide +kernel
theorem dL_deals_543 : decode cL_deals 543 = .ok (.iand, 1) := by decide +kernel
theorem dL_deals_544 : decode cL_deals 544 = .ok (.ifCond .le 37, 3) := by decide +kernel
theorem dL_deals_547 : decode cL_deals 547 = .ok (.iload 12, 2) := by decide +kernel
theorem dL_deals_549 : decode cL_deals 549 = .ok (.aload 11, 2) := by decide +kernel
theorem dL_deals_551 : decode cL_deals 551 = .ok (.iconst 1, 1) := by decide +kernel
theorem dL_deals_552 : decode cL_deals 552 = .ok (.iaload, 1) := by decide +kernel
theorem dL_deals_553 : decode cL_deals 553 = .ok (.if_icmp .eq 11, 3) := by decide +kernel
theorem dL_deals_556 : decode cL_deals 556 = .ok (.aload 5, 2) := by decide +kernel
theorem dL_deals_558 : decode cL_deals 558 = .ok (.iload 12, 2) := by decide +kernel
theorem dL_deals_560 : decode cL_deals 560 = .ok (.iaload, 1) := by decide +kernel
theorem dL_deals_561 : decode cL_deals 561 = .ok (.ifCond .ne 20, 3) := by decide +kernel
theorem dL_deals_564 : decode cL_deals 564 = .ok (.iload 12, 2) := by decide +kernel
theorem dL_deals_566 : decode cL_deals 566 = .ok (.iconst 1, 1) := by decide +kernel
theorem dL_deals_567 : decode cL_deals 567 = .ok (.iadd, 1) := by decide +kernel
theorem dL_deals_568 : decode cL_deals 568 = .ok (.aload 11, 2) := by decide +kernel
theorem dL_deals_570 : decode cL_deals 570 = .ok (.iconst 1, 1) := by decide +kernel
theorem dL_deals_571 : decode cL_deals 571 = .ok (.iaload, 1) := by decide +kernel
theorem dL_deals_572 : decode cL_deals 572 = .ok (.irem, 1) := by decide +kernel
theorem dL_deals_573 : decode cL_deals 573 = .ok (.istore 12, 2) := by decide +kernel
theorem dL_deals_575 : decode cL_deals 575 = .ok (.iinc 13 1, 3) := by decide +kernel
theorem dL_deals_578 : decode cL_deals 578 = .ok (.goto (-47), 3) := by decide +kernel
theorem dL_deals_581 : decode cL_deals 581 = .ok (.iload 12, 2) := by decide +kernel
theorem dL_deals_583 : decode cL_deals 583 = .ok (.aload 11, 2) := by decide +kernel
theorem dL_deals_585 : decode cL_deals 585 = .ok (.iconst 1, 1) := by decide +kernel
theorem dL_deals_586 : decode cL_deals 586 = .ok (.iaload, 1) := by decide +kernel
theorem dL_deals_587 : decode cL_deals 587 = .ok (.if_icmp .ne 70, 3) := by decide +kernel
theorem dL_deals_590 : decode cL_deals 590 = .ok (.aload_n 0, 1) := by decide +kernel
theorem dL_deals_591 : decode cL_deals 591 = .ok (.iload 12, 2) := by decide +kernel
theorem dL_deals_593 : decode cL_deals 593 = .ok (.iconst 0, 1) := by decide +kernel
theorem dL_deals_594 : decode cL_deals 594 = .ok (.invokestatic 129, 3) := by decide +kernel
theorem dL_deals_597 : decode cL_deals 597 = .ok (.ldc 16, 2) := by decide +kernel
theorem dL_deals_599 : decode cL_deals 599 = .ok (.if_icmp .ne 56, 3) := by decide +kernel
theorem dL_deals_602 : decode cL_deals 602 = .ok (.aload_n 0, 1) := by decide +kernel
theorem dL_deals_603 : decode cL_deals 603 = .ok (.iload 12, 2) := by decide +kernel
theorem dL_deals_605 : decode cL_deals 605 = .ok (.iconst 0, 1) := by decide +kernel
theorem dL_deals_606 : decode cL_deals 606 = .ok (.iconst 1, 1) := by decide +kernel
theorem dL_deals_607 : decode cL_deals 607 = .ok (.invokestatic 131, 3) := by decide +kernel
theorem dL_deals_610 : decode cL_deals 610 = .ok (.ldc 16, 2) := by decide +kernel
theorem dL_deals_612 : decode cL_deals 612 = .ok (.if_icmp .ne 43, 3) := by decide +kernel
theorem dL_deals_615 : decode cL_deals 615 = .ok (.aload_n 0, 1) := by decide +kernel
theorem dL_deals_616 : decode cL_deals 616 = .ok (.iload 12, 2) := by decide +kernel
theorem dL_deals_618 : decode cL_deals 618 = .ok (.invokestatic 134, 3) := by decide +kernel
theorem dL_deals_621 : decode cL_deals 621 = .ok (.ldc2_w 51, 3) := by decide +kernel
theorem dL_deals_624 : decode cL_deals 624 = .ok (.lcmp, 1) := by decide +kernel
theorem dL_deals_625 : decode cL_deals 625 = .ok (.ifCond .ne 30, 3) := by decide +kernel
theorem dL_deals_628 : decode cL_deals 628 = .ok (.aload_n 0, 1) := by decide +kernel
theorem dL_deals_629 : decode cL_deals 629 = .ok (.iconst (-1), 1) := by decide +kernel
theorem dL_deals_630 : decode cL_deals 630 = .ok (.iconst 1, 1) := by decide +kernel
theorem dL_deals_631 : decode cL_deals 631 = .ok (.invokestatic 129, 3) := by decide +kernel
theorem dL_deals_634 : decode cL_deals 634 = .ok (.ldc 16, 2) := by decide +kernel
theorem dL_deals_636 : decode cL_deals 636 = .ok (.if_icmp .ne 19, 3) := by decide +kernel
theorem dL_deals_639 : decode cL_deals 639 = .ok (.aload_n 0, 1) := by decide +kernel
theorem dL_deals_640 : decode cL_deals 640 = .ok (.iconst (-1), 1) := by decide +kernel
theorem dL_deals_641 : decode cL_deals 641 = .ok (.iconst 5, 1) := by decide +kernel
theorem dL_deals_642 : decode cL_deals 642 = .ok (.iconst 0, 1) := by decide +kernel
theorem dL_deals_643 : decode cL_deals 643 = .ok (.invokestatic 131, 3) := by decide +kernel
theorem dL_deals_646 : decode cL_deals 646 = .ok (.ldc 16, 2) := by decide +kernel
theorem dL_deals_648 : decode cL_deals 648 = .ok (.if_icmp .ne 7, 3) := by decide +kernel
theorem dL_deals_651 : decode cL_deals 651 = .ok (.iconst 1, 1) := by decide +kernel
theorem dL_deals_652 : decode cL_deals 652 = .ok (.goto 4, 3) := by decide +kernel
theorem dL_deals_655 : decode cL_deals 655 = .ok (.iconst 0, 1) := by decide +kernel
theorem dL_deals_656 : decode cL_deals 656 = .ok (.ireturn, 1) := by decide +kernel
theorem dL_deals_657 : decode cL_deals 657 = .ok (.aload 4, 2) := by decide +kernel
theorem dL_deals_659 : decode cL_deals 659 = .ok (.iload 12, 2) := by decide +kernel
theorem dL_deals_661 : decode cL_deals 661 = .ok (.iaload, 1) := by decide +kernel
theorem dL_deals_662 : decode cL_deals 662 = .ok (.iconst 1, 1) := by decide +kernel
theorem dL_deals_663 : decode cL_deals 663 = .ok (.iand, 1) := by decide +kernel
theorem dL_deals_664 : decode cL_deals 664 = .ok (.istore 13, 2) := by decide +kernel
theorem dL_deals_666 : decode cL_deals 666 = .ok (.aload 4, 2) := by decide +kernel
theorem dL_deals_668 : decode cL_deals 668 = .ok (.iload 12, 2) := by decide +kernel
theorem dL_deals_670 : decode cL_deals 670 = .ok (.iaload, 1) := by decide +kernel
theorem dL_deals_671 : decode cL_deals 671 = .ok (.iconst 1, 1) := by decide +kernel
theorem dL_deals_672 : decode cL_deals 672 = .ok (.ishr, 1) := by decide +kernel
theorem dL_deals_673 : decode cL_deals 673 = .ok (.iconst 1, 1) := by decide +kernel
theorem dL_deals_674 : decode cL_deals 674 = .ok (.iand, 1) := by decide +kernel
theorem dL_deals_675 : decode cL_deals 675 = .ok (.istore 14, 2) := by decide +kernel
theorem dL_deals_677 : decode cL_deals 677 = .ok (.iload_n 1, 1) := by decide +kernel
theorem dL_deals_678 : decode cL_deals 678 = .ok (.bipush 9, 2) := by decide +kernel
theorem dL_deals_680 : decode cL_deals 680 = .ok (.if_icmp .ge 241, 3) := by decide +kernel
theorem dL_deals_683 : decode cL_deals 683 = .ok (.aload 5, 2) := by decide +kernel
theorem dL_deals_685 : decode cL_deals 685 = .ok (.iload 12, 2) := by decide +kernel
theorem dL_deals_687 : decode cL_deals 687 = .ok (.iaload, 1) := by decide +kernel
theorem dL_deals_688 : decode cL_deals 688 = .ok (.ifCond .eq 10, 3) := by decide +kernel
theorem dL_deals_691 : decode cL_deals 691 = .ok (.iload_n 3, 1) := by decide +kernel
theorem dL_deals_692 : decode cL_deals 692 = .ok (.bipush 14, 2) := by decide +kernel
theorem dL_deals_694 : decode cL_deals 694 = .ok (.iand, 1) := by decide +kernel
theorem dL_deals_695 : decode cL_deals 695 = .ok (.ifCond .ne 13, 3) := by decide +kernel
theorem dL_deals_698 : decode cL_deals 698 = .ok (.aload 5, 2) := by decide +kernel
theorem dL_deals_700 : decode cL_deals 700 = .ok (.iload 12, 2) := by decide +kernel
theorem dL_deals_702 : decode cL_deals 702 = .ok (.iaload, 1) := by decide +kernel
theorem dL_deals_703 : decode cL_deals 703 = .ok (.iconst 1, 1) := by decide +kernel
theorem dL_deals_704 : decode cL_deals 704 = .ok (.iadd, 1) := by decide +kernel
theorem dL_deals_705 : decode cL_deals 705 = .ok (.goto 35, 3) := by decide +kernel
theorem dL_deals_708 : decode cL_deals 708 = .ok (.iconst 1, 1) := by decide +kernel
theorem dL_deals_709 : decode cL_deals 709 = .ok (.iload_n 3, 1) := by decide +kernel
theorem dL_deals_710 : decode cL_deals 710 = .ok (.iconst 4, 1) := by decide +kernel
theorem dL_deals_711 : decode cL_deals 711 = .ok (.ishr, 1) := by decide +kernel
theorem dL_deals_712 : decode cL_deals 712 = .ok (.iload_n 3, 1) := by decide +kernel
theorem dL_deals_713 : decode cL_deals 713 = .ok (.bipush 16, 2) := by decide +kernel
theorem dL_deals_715 : decode cL_deals 715 = .ok (.iand, 1) := by decide +kernel
theorem dL_deals_716 : decode cL_deals 716 = .ok (.ifCond .ne 11, 3) := by decide +kernel
theorem dL_deals_719 : decode cL_deals 719 = .ok (.aload 5, 2) := by decide +kernel
theorem dL_deals_721 : decode cL_deals 721 = .ok (.iload 12, 2) := by decide +kernel
theorem dL_deals_723 : decode cL_deals 723 = .ok (.iaload, 1) := by decide +kernel
theorem dL_deals_724 : decode cL_deals 724 = .ok (.goto 12, 3) := by decide +kernel
theorem dL_deals_727 : decode cL_deals 727 = .ok (.aload 5, 2) := by decide +kernel
theorem dL_deals_729 : decode cL_deals 729 = .ok (.iload 12, 2) := by decide +kernel
theorem dL_deals_731 : decode cL_deals 731 = .ok (.iaload, 1) := by decide +kernel
theorem dL_deals_732 : decode cL_deals 732 = .ok (.iconst 2, 1) := by decide +kernel
theorem dL_deals_733 : decode cL_deals 733 = .ok (.idiv, 1) := by decide +kernel
theorem dL_deals_734 : decode cL_deals 734 = .ok (.iconst 1, 1) := by decide +kernel
theorem dL_deals_735 : decode cL_deals 735 = .ok (.iadd, 1) := by decide +kernel
theorem dL_deals_736 : decode cL_deals 736 = .ok (.invokestatic 99, 3) := by decide +kernel
theorem dL_deals_739 : decode cL_deals 739 = .ok (.iadd, 1) := by decide +kernel
theorem dL_deals_740 : decode cL_deals 740 = .ok (.istore 15, 2) := by decide +kernel
theorem dL_deals_742 : decode cL_deals 742 = .ok (.aload_n 0, 1) := by decide +kernel
theorem dL_deals_743 : decode cL_deals 743 = .ok (.iload 12, 2) := by decide +kernel
theorem dL_deals_745 : decode cL_deals 745 = .ok (.iconst 0, 1) := by decide +kernel
theorem dL_deals_746 : decode cL_deals 746 = .ok (.invokestatic 129, 3) := by decide +kernel
theorem dL_deals_749 : decode cL_deals 749 = .ok (.ldc 19, 2) := by decide +kernel
theorem dL_deals_751 : decode cL_deals 751 = .ok (.if_icmp .ne 13, 3) := by decide +kernel
theorem dL_deals_754 : decode cL_deals 754 = .ok (.iload 15, 2) := by decide +kernel
theorem dL_deals_756 : decode cL_deals 756 = .ok (.aload 5, 2) := by decide +kernel
theorem dL_deals_758 : decode cL_deals 758 = .ok (.iload 12, 2) := by decide +kernel
theorem dL_deals_760 : decode cL_deals 760 = .ok (.iaload, 1) := by decide +kernel
theorem dL_deals_761 : decode cL_deals 761 = .ok (.if_icmp .le 22, 3) := by decide +kernel
theorem dL_deals_764 : decode cL_deals 764 = .ok (.aload_n 0, 1) := by decide +kernel
theorem dL_deals_765 : decode cL_deals 765 = .ok (.iload 12, 2) := by decide +kernel
theorem dL_deals_767 : decode cL_deals 767 = .ok (.iload 15, 2) := by decide +kernel
theorem dL_deals_769 : decode cL_deals 769 = .ok (.invokestatic 129, 3) := by decide +kernel
theorem dL_deals_772 : decode cL_deals 772 = .ok (.ldc 19, 2) := by decide +kernel
theorem dL_deals_774 : decode cL_deals 774 = .ok (.if_icmp .ne 7, 3) := by decide +kernel
theorem dL_deals_777 : decode cL_deals 777 = .ok (.iconst 1, 1) := by decide +kernel
theorem dL_deals_778 : decode cL_deals 778 = .ok (.goto 4, 3) := by decide +kernel
theorem dL_deals_781 : decode cL_deals 781 = .ok (.iconst 0, 1) := by decide +kernel
theorem dL_deals_782 : decode cL_deals 782 = .ok (.ireturn, 1) := by decide +kernel
theorem dL_deals_783 : decode cL_deals 783 = .ok (.aload 6, 2) := by decide +kernel
theorem dL_deals_785 : decode cL_deals 785 = .ok (.iload 12, 2) := by decide +kernel
theorem dL_deals_787 : decode cL_deals 787 = .ok (.iaload, 1) := by decide +kernel
theorem dL_deals_788 : decode cL_deals 788 = .ok (.aload 11, 2) := by decide +kernel
theorem dL_deals_790 : decode cL_deals 790 = .ok (.iconst 0, 1) := by decide +kernel
theorem dL_deals_791 : decode cL_deals 791 = .ok (.iaload, 1) := by decide +kernel
theorem dL_deals_792 : decode cL_deals 792 = .ok (.isub, 1) := by decide +kernel
theorem dL_deals_793 : decode cL_deals 793 = .ok (.istore 16, 2) := by decide +kernel
theorem dL_deals_795 : decode cL_deals 795 = .ok (.aload 8, 2) := by decide +kernel
theorem dL_deals_797 : decode cL_deals 797 = .ok (.iload 12, 2) := by decide +kernel
theorem dL_deals_799 : decode cL_deals 799 = .ok (.iaload, 1) := by decide +kernel
theorem dL_deals_800 : decode cL_deals 800 = .ok (.iload 16, 2) := by decide +kernel
theorem dL_deals_802 : decode cL_deals 802 = .ok (.ifCond .le 16, 3) := by decide +kernel
theorem dL_deals_805 : decode cL_deals 805 = .ok (.aload 9, 2) := by decide +kernel
theorem dL_deals_807 : decode cL_deals 807 = .ok (.iconst 2, 1) := by decide +kernel
theorem dL_deals_808 : decode cL_deals 808 = .ok (.iload 14, 2) := by decide +kernel
theorem dL_deals_810 : decode cL_deals 810 = .ok (.iadd, 1) := by decide +kernel
theorem dL_deals_811 : decode cL_deals 811 = .ok (.iaload, 1) := by decide +kernel
theorem dL_deals_812 : decode cL_deals 812 = .ok (.iload 16, 2) := by decide +kernel
theorem dL_deals_814 : decode cL_deals 814 = .ok (.imul, 1) := by decide +kernel
theorem dL_deals_815 : decode cL_deals 815 = .ok (.goto 4, 3) := by decide +kernel
theorem dL_deals_818 : decode cL_deals 818 = .ok (.iconst 0, 1) := by decide +kernel
theorem dL_deals_819 : decode cL_deals 819 = .ok (.isub, 1) := by decide +kernel
theorem dL_deals_820 : decode cL_deals 820 = .ok (.istore 17, 2) := by decide +kernel
theorem dL_deals_822 : decode cL_deals 822 = .ok (.iload 17, 2) := by decide +kernel
theorem dL_deals_824 : decode cL_deals 824 = .ok (.iconst 1, 1) := by decide +kernel
theorem dL_deals_825 : decode cL_deals 825 = .ok (.if_icmp .ge 7, 3) := by decide +kernel
theorem dL_deals_828 : decode cL_deals 828 = .ok (.iconst 1, 1) := by decide +kernel
theorem dL_deals_829 : decode cL_deals 829 = .ok (.goto 5, 3) := by decide +kernel
theorem dL_deals_832 : decode cL_deals 832 = .ok (.iload 17, 2) := by decide +kernel
theorem dL_deals_834 : decode cL_deals 834 = .ok (.istore 17, 2) := by decide +kernel
theorem dL_deals_836 : decode cL_deals 836 = .ok (.aload 5, 2) := by decide +kernel
theorem dL_deals_838 : decode cL_deals 838 = .ok (.iload 12, 2) := by decide +kernel
theorem dL_deals_840 : decode cL_deals 840 = .ok (.dup2, 1) := by decide +kernel
theorem dL_deals_841 : decode cL_deals 841 = .ok (.iaload, 1) := by decide +kernel
theorem dL_deals_842 : decode cL_deals 842 = .ok (.iload 15, 2) := by decide +kernel
theorem dL_deals_844 : decode cL_deals 844 = .ok (.isub, 1) := by decide +kernel
theorem dL_deals_845 : decode cL_deals 845 = .ok (.iastore, 1) := by decide +kernel
theorem dL_deals_846 : decode cL_deals 846 = .ok (.aload 4, 2) := by decide +kernel
theorem dL_deals_848 : decode cL_deals 848 = .ok (.iload 12, 2) := by decide +kernel
theorem dL_deals_850 : decode cL_deals 850 = .ok (.iaload, 1) := by decide +kernel
theorem dL_deals_851 : decode cL_deals 851 = .ok (.iconst 3, 1) := by decide +kernel
theorem dL_deals_852 : decode cL_deals 852 = .ok (.if_icmp .le 7, 3) := by decide +kernel
theorem dL_deals_855 : decode cL_deals 855 = .ok (.iconst (-1), 1) := by decide +kernel
theorem dL_deals_856 : decode cL_deals 856 = .ok (.goto 4, 3) := by decide +kernel
theorem dL_deals_859 : decode cL_deals 859 = .ok (.iconst 1, 1) := by decide +kernel
theorem dL_deals_860 : decode cL_deals 860 = .ok (.istore 18, 2) := by decide +kernel
theorem dL_deals_862 : decode cL_deals 862 = .ok (.aload 10, 2) := by decide +kernel
theorem dL_deals_864 : decode cL_deals 864 = .ok (.aload 11, 2) := by decide +kernel
theorem dL_deals_866 : decode cL_deals 866 = .ok (.iload 13, 2) := by decide +kernel
theorem dL_deals_868 : decode cL_deals 868 = .ok (.iload 14, 2) := by decide +kernel
theorem dL_deals_870 : decode cL_deals 870 = .ok (.iload 18, 2) := by decide +kernel
theorem dL_deals_872 : decode cL_deals 872 = .ok (.iload 15, 2) := by decide +kernel
theorem dL_deals_874 : decode cL_deals 874 = .ok (.imul, 1) := by decide +kernel
theorem dL_deals_875 : decode cL_deals 875 = .ok (.i2l, 1) := by decide +kernel
theorem dL_deals_876 : decode cL_deals 876 = .ok (.invokestatic 137, 3) := by decide +kernel
theorem dL_deals_879 : decode cL_deals 879 = .ok (.aload 10, 2) := by decide +kernel
theorem dL_deals_881 : decode cL_deals 881 = .ok (.aload 11, 2) := by decide +kernel
theorem dL_deals_883 : decode cL_deals 883 = .ok (.iload 13, 2) := by decide +kernel
theorem dL_deals_885 : decode cL_deals 885 = .ok (.iconst 2, 1) := by decide +kernel
theorem dL_deals_886 : decode cL_deals 886 = .ok (.iload 18, 2) := by decide +kernel
theorem dL_deals_888 : decode cL_deals 888 = .ok (.ineg, 1) := by decide +kernel
theorem dL_deals_889 : decode cL_deals 889 = .ok (.i2l, 1) := by decide +kernel
theorem dL_deals_890 : decode cL_deals 890 = .ok (.iload 15, 2) := by decide +kernel
theorem dL_deals_892 : decode cL_deals 892 = .ok (.i2l, 1) := by decide +kernel
theorem dL_deals_893 : decode cL_deals 893 = .ok (.iload 17, 2) := by decide +kernel
theorem dL_deals_895 : decode cL_deals 895 = .ok (.invokestatic 77, 3) := by decide +kernel
theorem dL_deals_898 : decode cL_deals 898 = .ok (.lmul, 1) := by decide +kernel
theorem dL_deals_899 : decode cL_deals 899 = .ok (.invokestatic 137, 3) := by decide +kernel
theorem dL_deals_902 : decode cL_deals 902 = .ok (.aload_n 0, 1) := by decide +kernel
theorem dL_deals_903 : decode cL_deals 903 = .ok (.iload 12, 2) := by decide +kernel
theorem dL_deals_905 : decode cL_deals 905 = .ok (.iload 15, 2) := by decide +kernel
theorem dL_deals_907 : decode cL_deals 907 = .ok (.invokestatic 129, 3) := by decide +kernel
theorem dL_deals_910 : decode cL_deals 910 = .ok (.iload 17, 2) := by decide +kernel
theorem dL_deals_912 : decode cL_deals 912 = .ok (.if_icmp .ne 7, 3) := by decide +kernel
theorem dL_deals_915 : decode cL_deals 915 = .ok (.iconst 1, 1) := by decide +kernel
theorem dL_deals_916 : decode cL_deals 916 = .ok (.goto 4, 3) := by decide +kernel
theorem dL_deals_919 : decode cL_deals 919 = .ok (.iconst 0, 1) := by decide +kernel
theorem dL_deals_920 : decode cL_deals 920 = .ok (.ireturn, 1) := by decide +kernel
theorem dL_deals_921 : decode cL_deals 921 = .ok (.iload_n 1, 1) := by decide +kernel
theorem dL_deals_922 : decode cL_deals 922 = .ok (.bipush 12, 2) := by decide +kernel
theorem dL_deals_924 : decode cL_deals 924 = .ok (.if_icmp .ge 277, 3) := by decide +kernel
theorem dL_deals_927 : decode cL_deals 927 = .ok (.iload_n 3, 1) := by decide +kernel
theorem dL_deals_928 : decode cL_deals 928 = .ok (.bipush 6, 2) := by decide +kernel
theorem dL_deals_930 : decode cL_deals 930 = .ok (.iand, 1) := by decide +kernel
theorem dL_deals_931 : decode cL_deals 931 = .ok (.ifCond .ne 16, 3) := by decide +kernel
theorem dL_deals_934 : decode cL_deals 934 = .ok (.iconst 1, 1) := by decide +kernel
theorem dL_deals_935 : decode cL_deals 935 = .ok (.iload_n 3, 1) := by decide +kernel
theorem dL_deals_936 : decode cL_deals 936 = .ok (.iconst 3, 1) := by decide +kernel
theorem dL_deals_937 : decode cL_deals 937 = .ok (.ishr, 1) := by decide +kernel
theorem dL_deals_938 : decode cL_deals 938 = .ok (.bipush 100, 2) := by decide +kernel
theorem dL_deals_940 : decode cL_deals 940 = .ok (.invokestatic 99, 3) := by decide +kernel
theorem dL_deals_943 : decode cL_deals 943 = .ok (.iadd, 1) := by decide +kernel
theorem dL_deals_944 : decode cL_deals 944 = .ok (.goto 13, 3) := by decide +kernel
theorem dL_deals_947 : decode cL_deals 947 = .ok (.iconst 1, 1) := by decide +kernel
theorem dL_deals_948 : decode cL_deals 948 = .ok (.iload_n 3, 1) := by decide +kernel
theorem dL_deals_949 : decode cL_deals 949 = .ok (.iconst 3, 1) := by decide +kernel
theorem dL_deals_950 : decode cL_deals 950 = .ok (.ishr, 1) := by decide +kernel
theorem dL_deals_951 : decode cL_deals 951 = .ok (.bipush 12, 2) := by decide +kernel
theorem dL_deals_953 : decode cL_deals 953 = .ok (.invokestatic 99, 3) := by decide +kernel
theorem dL_deals_956 : decode cL_deals 956 = .ok (.iadd, 1) := by decide +kernel
theorem dL_deals_957 : decode cL_deals 957 = .ok (.istore 15, 2) := by decide +kernel
theorem dL_deals_959 : decode cL_deals 959 = .ok (.iload_n 2, 1) := by decide +kernel
theorem dL_deals_960 : decode cL_deals 960 = .ok (.sipush 384, 3) := by decide +kernel
theorem dL_deals_963 : decode cL_deals 963 = .ok (.iand, 1) := by decide +kernel
theorem dL_deals_964 : decode cL_deals 964 = .ok (.ifCond .le 7, 3) := by decide +kernel
theorem dL_deals_967 : decode cL_deals 967 = .ok (.iconst 1, 1) := by decide +kernel
theorem dL_deals_968 : decode cL_deals 968 = .ok (.goto 4, 3) := by decide +kernel
theorem dL_deals_971 : decode cL_deals 971 = .ok (.iconst 0, 1) := by decide +kernel
theorem dL_deals_972 : decode cL_deals 972 = .ok (.istore 16, 2) := by decide +kernel
theorem dL_deals_974 : decode cL_deals 974 = .ok (.aload_n 0, 1) := by decide +kernel
theorem dL_deals_975 : decode cL_deals 975 = .ok (.iload 12, 2) := by decide +kernel
theorem dL_deals_977 : decode cL_deals 977 = .ok (.iconst 0, 1) := by decide +kernel
theorem dL_deals_978 : decode cL_deals 978 = .ok (.iload 16, 2) := by decide +kernel
theorem dL_deals_980 : decode cL_deals 980 = .ok (.invokestatic 131, 3) := by decide +kernel
theorem dL_deals_983 : decode cL_deals 983 = .ok (.ldc 19, 2) := by decide +kernel
theorem dL_deals_985 : decode cL_deals 985 = .ok (.if_icmp .ne 18, 3) := by decide +kernel
theorem dL_deals_988 : decode cL_deals 988 = .ok (.aload_n 0, 1) := by decide +kernel
theorem dL_deals_989 : decode cL_deals 989 = .ok (.iload 12, 2) := by decide +kernel
theorem dL_deals_991 : decode cL_deals 991 = .ok (.bipush 101, 2) := by decide +kernel
theorem dL_deals_993 : decode cL_deals 993 = .ok (.iload 16, 2) := by decide +kernel
theorem dL_deals_995 : decode cL_deals 995 = .ok (.invokestatic 131, 3) := by decide +kernel
theorem dL_deals_998 : decode cL_deals 998 = .ok (.ldc 19, 2) := by decide +kernel
theorem dL_deals_1000 : decode cL_deals 1000 = .ok (.if_icmp .eq 5, 3) := by decide +kernel
theorem dL_deals_1003 : decode cL_deals 1003 = .ok (.iconst 0, 1) := by decide +kernel
theorem dL_deals_1004 : decode cL_deals 1004 = .ok (.ireturn, 1) := by decide +kernel
theorem dL_deals_1005 : decode cL_deals 1005 = .ok (.aload 5, 2) := by decide +kernel
theorem dL_deals_1007 : decode cL_deals 1007 = .ok (.iload 12, 2) := by decide +kernel
theorem dL_deals_1009 : decode cL_deals 1009 = .ok (.iaload, 1) := by decide +kernel
theorem dL_deals_1010 : decode cL_deals 1010 = .ok (.ifCond .eq 22, 3) := by decide +kernel
theorem dL_deals_1013 : decode cL_deals 1013 = .ok (.aload 7, 2) := by decide +kernel
theorem dL_deals_1015 : decode cL_deals 1015 = .ok (.iload 12, 2) := by decide +kernel
theorem dL_deals_1017 : decode cL_deals 1017 = .ok (.iaload, 1) := by decide +kernel
theorem dL_deals_1018 : decode cL_deals 1018 = .ok (.iload 15, 2) := by decide +kernel
theorem dL_deals_1020 : decode cL_deals 1020 = .ok (.iadd, 1) := by decide +kernel
theorem dL_deals_1021 : decode cL_deals 1021 = .ok (.aload 11, 2) := by decide +kernel
theorem dL_deals_1023 : decode cL_deals 1023 = .ok (.iconst 0, 1) := by decide +kernel
theorem dL_deals_1024 : decode cL_deals 1024 = .ok (.iaload, 1) := by decide +kernel
theorem dL_deals_1025 : decode cL_deals 1025 = .ok (.isub, 1) := by decide +kernel
theorem dL_deals_1026 : decode cL_deals 1026 = .ok (.sipush 400, 3) := by decide +kernel
theorem dL_deals_1029 : decode cL_deals 1029 = .ok (.if_icmp .le 24, 3) := by decide +kernel
theorem dL_deals_1032 : decode cL_deals 1032 = .ok (.aload_n 0, 1) := by decide +kernel
theorem dL_deals_1033 : decode cL_deals 1033 = .ok (.iload 12, 2) := by decide +kernel
theorem dL_deals_1035 : decode cL_deals 1035 = .ok (.iload 15, 2) := by decide +kernel
theorem dL_deals_1037 : decode cL_deals 1037 = .ok (.iload 16, 2) := by decide +kernel
theorem dL_deals_1039 : decode cL_deals 1039 = .ok (.invokestatic 131, 3) := by decide +kernel
theorem dL_deals_1042 : decode cL_deals 1042 = .ok (.ldc 29, 2) := by decide +kernel
theorem dL_deals_1044 : decode cL_deals 1044 = .ok (.if_icmp .ne 7, 3) := by decide +kernel
theorem dL_deals_1047 : decode cL_deals 1047 = .ok (.iconst 1, 1) := by decide +kernel
theorem dL_deals_1048 : decode cL_deals 1048 = .ok (.goto 4, 3) := by decide +kernel
theorem dL_deals_1051 : decode cL_deals 1051 = .ok (.iconst 0, 1) := by decide +kernel
theorem dL_deals_1052 : decode cL_deals 1052 = .ok (.ireturn, 1) := by decide +kernel
theorem dL_deals_1053 : decode cL_deals 1053 = .ok (.iload 16, 2) := by decide +kernel
theorem dL_deals_1055 : decode cL_deals 1055 = .ok (.ifCond .eq 37, 3) := by decide +kernel
theorem dL_deals_1058 : decode cL_deals 1058 = .ok (.aload 10, 2) := by decide +kernel
theorem dL_deals_1060 : decode cL_deals 1060 = .ok (.aload 11, 2) := by decide +kernel
theorem dL_deals_1062 : decode cL_deals 1062 = .ok (.iload 13, 2) := by decide +kernel
theorem dL_deals_1064 : decode cL_deals 1064 = .ok (.iconst 2, 1) := by decide +kernel
theorem dL_deals_1065 : decode cL_deals 1065 = .ok (.aload 4, 2) := by decide +kernel
theorem dL_deals_1067 : decode cL_deals 1067 = .ok (.aload 5, 2) := by decide +kernel
theorem dL_deals_1069 : decode cL_deals 1069 = .ok (.aload 8, 2) := by decide +kernel
theorem dL_deals_1071 : decode cL_deals 1071 = .ok (.iload 12, 2) := by decide +kernel
theorem dL_deals_1073 : decode cL_deals 1073 = .ok (.aload 4, 2) := by decide +kernel
theorem dL_deals_1075 : decode cL_deals 1075 = .ok (.aload 7, 2) := by decide +kernel
theorem dL_deals_1077 : decode cL_deals 1077 = .ok (.aload 9, 2) := by decide +kernel
theorem dL_deals_1079 : decode cL_deals 1079 = .ok (.aload 11, 2) := by decide +kernel
theorem dL_deals_1081 : decode cL_deals 1081 = .ok (.iload 12, 2) := by decide +kernel
theorem dL_deals_1083 : decode cL_deals 1083 = .ok (.invokestatic 87, 3) := by decide +kernel
theorem dL_deals_1086 : decode cL_deals 1086 = .ok (.invokestatic 91, 3) := by decide +kernel
theorem dL_deals_1089 : decode cL_deals 1089 = .ok (.invokestatic 137, 3) := by decide +kernel
theorem dL_deals_1092 : decode cL_deals 1092 = .ok (.aload 6, 2) := by decide +kernel
theorem dL_deals_1094 : decode cL_deals 1094 = .ok (.iload 12, 2) := by decide +kernel
theorem dL_deals_1096 : decode cL_deals 1096 = .ok (.aload 7, 2) := by decide +kernel
theorem dL_deals_1098 : decode cL_deals 1098 = .ok (.iload 12, 2) := by decide +kernel
theorem dL_deals_1100 : decode cL_deals 1100 = .ok (.iaload, 1) := by decide +kernel
theorem dL_deals_1101 : decode cL_deals 1101 = .ok (.iastore, 1) := by decide +kernel
theorem dL_deals_1102 : decode cL_deals 1102 = .ok (.aload 7, 2) := by decide +kernel
theorem dL_deals_1104 : decode cL_deals 1104 = .ok (.iload 12, 2) := by decide +kernel
theorem dL_deals_1106 : decode cL_deals 1106 = .ok (.dup2, 1) := by decide +kernel
theorem dL_deals_1107 : decode cL_deals 1107 = .ok (.iaload, 1) := by decide +kernel
theorem dL_deals_1108 : decode cL_deals 1108 = .ok (.iload 15, 2) := by decide +kernel
theorem dL_deals_1110 : decode cL_deals 1110 = .ok (.iadd, 1) := by decide +kernel
theorem dL_deals_1111 : decode cL_deals 1111 = .ok (.iastore, 1) := by decide +kernel
theorem dL_deals_1112 : decode cL_deals 1112 = .ok (.aload 8, 2) := by decide +kernel
theorem dL_deals_1114 : decode cL_deals 1114 = .ok (.iload 12, 2) := by decide +kernel
theorem dL_deals_1116 : decode cL_deals 1116 = .ok (.iload 16, 2) := by decide +kernel
theorem dL_deals_1118 : decode cL_deals 1118 = .ok (.ifCond .eq 19, 3) := by decide +kernel
theorem dL_deals_1121 : decode cL_deals 1121 = .ok (.aload 4, 2) := by decide +kernel
theorem dL_deals_1123 : decode cL_deals 1123 = .ok (.aload 7, 2) := by decide +kernel
theorem dL_deals_1125 : decode cL_deals 1125 = .ok (.aload 9, 2) := by decide +kernel
theorem dL_deals_1127 : decode cL_deals 1127 = .ok (.aload 11, 2) := by decide +kernel
theorem dL_deals_1129 : decode cL_deals 1129 = .ok (.iload 12, 2) := by decide +kernel
theorem dL_deals_1131 : decode cL_deals 1131 = .ok (.invokestatic 87, 3) := by decide +kernel
theorem dL_deals_1134 : decode cL_deals 1134 = .ok (.goto 19, 3) := by decide +kernel
theorem dL_deals_1137 : decode cL_deals 1137 = .ok (.aload 8, 2) := by decide +kernel
theorem dL_deals_1139 : decode cL_deals 1139 = .ok (.iload 12, 2) := by decide +kernel
theorem dL_deals_1141 : decode cL_deals 1141 = .ok (.iaload, 1) := by decide +kernel
theorem dL_deals_1142 : decode cL_deals 1142 = .ok (.aload 9, 2) := by decide +kernel
theorem dL_deals_1144 : decode cL_deals 1144 = .ok (.iconst 2, 1) := by decide +kernel
theorem dL_deals_1145 : decode cL_deals 1145 = .ok (.iload 14, 2) := by decide +kernel
theorem dL_deals_1147 : decode cL_deals 1147 = .ok (.iadd, 1) := by decide +kernel
theorem dL_deals_1148 : decode cL_deals 1148 = .ok (.iaload, 1) := by decide +kernel
theorem dL_deals_1149 : decode cL_deals 1149 = .ok (.iload 15, 2) := by decide +kernel
theorem dL_deals_1151 : decode cL_deals 1151 = .ok (.imul, 1) := by decide +kernel
theorem dL_deals_1152 : decode cL_deals 1152 = .ok (.iadd, 1) := by decide +kernel
theorem dL_deals_1153 : decode cL_deals 1153 = .ok (.iastore, 1) := by decide +kernel
theorem dL_deals_1154 : decode cL_deals 1154 = .ok (.aload 8, 2) := by decide +kernel
theorem dL_deals_1156 : decode cL_deals 1156 = .ok (.iload 12, 2) := by decide +kernel
theorem dL_deals_1158 : decode cL_deals 1158 = .ok (.aload 8, 2) := by decide +kernel
theorem dL_deals_1160 : decode cL_deals 1160 = .ok (.iload 12, 2) := by decide +kernel
theorem dL_deals_1162 : decode cL_deals 1162 = .ok (.iaload, 1) := by decide +kernel
theorem dL_deals_1163 : decode cL_deals 1163 = .ok (.iconst 1, 1) := by decide +kernel
theorem dL_deals_1164 : decode cL_deals 1164 = .ok (.if_icmp .ge 7, 3) := by decide +kernel
theorem dL_deals_1167 : decode cL_deals 1167 = .ok (.iconst 1, 1) := by decide +kernel
theorem dL_deals_1168 : decode cL_deals 1168 = .ok (.goto 8, 3) := by decide +kernel
theorem dL_deals_1171 : decode cL_deals 1171 = .ok (.aload 8, 2) := by decide +kernel
theorem dL_deals_1173 : decode cL_deals 1173 = .ok (.iload 12, 2) := by decide +kernel
theorem dL_deals_1175 : decode cL_deals 1175 = .ok (.iaload, 1) := by decide +kernel
theorem dL_deals_1176 : decode cL_deals 1176 = .ok (.iastore, 1) := by decide +kernel
theorem dL_deals_1177 : decode cL_deals 1177 = .ok (.aload_n 0, 1) := by decide +kernel
theorem dL_deals_1178 : decode cL_deals 1178 = .ok (.iload 12, 2) := by decide +kernel
theorem dL_deals_1180 : decode cL_deals 1180 = .ok (.iload 15, 2) := by decide +kernel
theorem dL_deals_1182 : decode cL_deals 1182 = .ok (.iload 16, 2) := by decide +kernel
theorem dL_deals_1184 : decode cL_deals 1184 = .ok (.invokestatic 131, 3) := by decide +kernel
theorem dL_deals_1187 : decode cL_deals 1187 = .ok (.aload 8, 2) := by decide +kernel
theorem dL_deals_1189 : decode cL_deals 1189 = .ok (.iload 12, 2) := by decide +kernel
theorem dL_deals_1191 : decode cL_deals 1191 = .ok (.iaload, 1) := by decide +kernel
theorem dL_deals_1192 : decode cL_deals 1192 = .ok (.if_icmp .ne 7, 3) := by decide +kernel
theorem dL_deals_1195 : decode cL_deals 1195 = .ok (.iconst 1, 1) := by decide +kernel
theorem dL_deals_1196 : decode cL_deals 1196 = .ok (.goto 4, 3) := by decide +kernel
theorem dL_deals_1199 : decode cL_deals 1199 = .ok (.iconst 0, 1) := by decide +kernel
theorem dL_deals_1200 : decode cL_deals 1200 = .ok (.ireturn, 1) := by decide +kernel
theorem dL_deals_1201 : decode cL_deals 1201 = .ok (.aload 5, 2) := by decide +kernel
theorem dL_deals_1203 : decode cL_deals 1203 = .ok (.iload 12, 2) := by decide +kernel
theorem dL_deals_1205 : decode cL_deals 1205 = .ok (.iaload, 1) := by decide +kernel
theorem dL_deals_1206 : decode cL_deals 1206 = .ok (.ifCond .ne 22, 3) := by decide +kernel
theorem dL_deals_1209 : decode cL_deals 1209 = .ok (.aload_n 0, 1) := by decide +kernel
theorem dL_deals_1210 : decode cL_deals 1210 = .ok (.iload 12, 2) := by decide +kernel
theorem dL_deals_1212 : decode cL_deals 1212 = .ok (.invokestatic 134, 3) := by decide +kernel
theorem dL_deals_1215 : decode cL_deals 1215 = .ok (.ldc2_w 53, 3) := by decide +kernel
theorem dL_deals_1218 : decode cL_deals 1218 = .ok (.lcmp, 1) := by decide +kernel
theorem dL_deals_1219 : decode cL_deals 1219 = .ok (.ifCond .ne 7, 3) := by decide +kernel
theorem dL_deals_1222 : decode cL_deals 1222 = .ok (.iconst 1, 1) := by decide +kernel
theorem dL_deals_1223 : decode cL_deals 1223 = .ok (.goto 4, 3) := by decide +kernel
theorem dL_deals_1226 : decode cL_deals 1226 = .ok (.iconst 0, 1) := by decide +kernel
theorem dL_deals_1227 : decode cL_deals 1227 = .ok (.ireturn, 1) := by decide +kernel
theorem dL_deals_1228 : decode cL_deals 1228 = .ok (.aload 4, 2) := by decide +kernel
theorem dL_deals_1230 : decode cL_deals 1230 = .ok (.aload 5, 2) := by decide +kernel
theorem dL_deals_1232 : decode cL_deals 1232 = .ok (.aload 8, 2) := by decide +kernel
theorem dL_deals_1234 : decode cL_deals 1234 = .ok (.iload 12, 2) := by decide +kernel
theorem dL_deals_1236 : decode cL_deals 1236 = .ok (.aload 4, 2) := by decide +kernel
theorem dL_deals_1238 : decode cL_deals 1238 = .ok (.aload 7, 2) := by decide +kernel
theorem dL_deals_1240 : decode cL_deals 1240 = .ok (.aload 9, 2) := by decide +kernel
theorem dL_deals_1242 : decode cL_deals 1242 = .ok (.aload 11, 2) := by decide +kernel
theorem dL_deals_1244 : decode cL_deals 1244 = .ok (.iload 12, 2) := by decide +kernel
theorem dL_deals_1246 : decode cL_deals 1246 = .ok (.invokestatic 87, 3) := by decide +kernel
theorem dL_deals_1249 : decode cL_deals 1249 = .ok (.invokestatic 91, 3) := by decide +kernel
theorem dL_deals_1252 : decode cL_deals 1252 = .ok (.lstore 15, 2) := by decide +kernel
theorem dL_deals_1254 : decode cL_deals 1254 = .ok (.aload 10, 2) := by decide +kernel
theorem dL_deals_1256 : decode cL_deals 1256 = .ok (.aload 11, 2) := by decide +kernel
theorem dL_deals_1258 : decode cL_deals 1258 = .ok (.iload 13, 2) := by decide +kernel
theorem dL_deals_1260 : decode cL_deals 1260 = .ok (.iconst 2, 1) := by decide +kernel
theorem dL_deals_1261 : decode cL_deals 1261 = .ok (.lload 15, 2) := by decide +kernel
theorem dL_deals_1263 : decode cL_deals 1263 = .ok (.invokestatic 137, 3) := by decide +kernel
theorem dL_deals_1266 : decode cL_deals 1266 = .ok (.aload 5, 2) := by decide +kernel
theorem dL_deals_1268 : decode cL_deals 1268 = .ok (.iload 12, 2) := by decide +kernel
theorem dL_deals_1270 : decode cL_deals 1270 = .ok (.iconst 0, 1) := by decide +kernel
theorem dL_deals_1271 : decode cL_deals 1271 = .ok (.iastore, 1) := by decide +kernel
theorem dL_deals_1272 : decode cL_deals 1272 = .ok (.aload_n 0, 1) := by decide +kernel
theorem dL_deals_1273 : decode cL_deals 1273 = .ok (.iload 12, 2) := by decide +kernel
theorem dL_deals_1275 : decode cL_deals 1275 = .ok (.invokestatic 134, 3) := by decide +kernel
theorem dL_deals_1278 : decode cL_deals 1278 = .ok (.lload 15, 2) := by decide +kernel
theorem dL_deals_1280 : decode cL_deals 1280 = .ok (.lcmp, 1) := by decide +kernel
theorem dL_deals_1281 : decode cL_deals 1281 = .ok (.ifCond .ne 7, 3) := by decide +kernel
theorem dL_deals_1284 : decode cL_deals 1284 = .ok (.iconst 1, 1) := by decide +kernel
theorem dL_deals_1285 : decode cL_deals 1285 = .ok (.goto 4, 3) := by decide +kernel
theorem dL_deals_1288 : decode cL_deals 1288 = .ok (.iconst 0, 1) := by decide +kernel
theorem dL_deals_1289 : decode cL_deals 1289 = .ok (.ireturn, 1) := by decide +kernel
set_option maxRecDepth 20000 in
theorem ggL_passes_L_pass : GoodIn wsL_passes wsL_pass := goodIn_ca (goodIn_ca (goodIn_r _ [6, 7, 8, 1, 2, 9, 10, 11, 12, 13, 14, 15, 16, 17, 18, 19, 20, 21, 22, 23, 24, 25, 26, 27, 28, 29, 30, 31, 32, 33, 34, 35, 36, 37, 38, 39, 40, 41, 42, 43, 44, 45, 46, 47, 48, 49, 50, 51, 52, 53, 54, 55, 56, 57, 58, 59, 60, 61, 62, 63, 64, 65, 66, 67, 68, 69, 70, 71, 72, 73, 74, 75, 76, 77, 78, 79, 80, 81, 82, 83, 84, 85, 86, 87, 88, 89, 90, 91, 92, 93, 94, 95, 96, 97, 98, 99, 100, 101, 102, 103, 104, 105, 106, 107, 108, 109, 110, 111, 112, 113, 114, 115, 116, 117, 118, 119, 120, 121, 122, 136, 137, 138, 139, 140, 141, 142, 143, 144, 145, 146, 147, 148, 149, 150, 151, 152, 153, 154, 155, 156] (by decide +kernel) (by decide +kernel)) (goodIn_sub (fun _ h => List.mem_cons_of_mem _ (List.mem_append_left _ (List.mem_append_right _ h))) (by decide +kernel))) (goodIn_sub (fun _ h => List.mem_cons_of_mem _ (List.mem_append_right _ h)) (by decide +kernel))
set_option maxRecDepth 20000 in
theorem gL_passes_L_pass : GoodIn wsL_passes (va_wsS RL 141 yL_pass wsL_pass) := goodIn_app (goodIn_of _ (by decide +kernel)) ggL_passes_L_pass
set_option maxRecDepth 20000 in
theorem ggL_passes_L_gains : GoodIn wsL_passes wsL_gains := goodIn_r _ [125, 126, 127, 5, 128, 129] (by decide +kernel) (by decide +kernel)
set_option maxRecDepth 20000 in
theorem gL_passes_L_gains : GoodIn wsL_passes (va_wsS RL 91 yL_gains wsL_gains) := goodIn_app (goodIn_of _ (by decide +kernel)) ggL_passes_L_gains
set_option maxRecDepth 20000 in
theorem ggL_passes_L_owe : GoodIn wsL_passes wsL_owe := goodIn_r _ [132, 133, 134, 5, 135] (by decide +kernel) (by decide +kernel)
set_option maxRecDepth 20000 in
theorem gL_passes_L_owe : GoodIn wsL_passes (va_wsS RL 137 yL_owe wsL_owe) := goodIn_app (goodIn_of _ (by decide +kernel)) ggL_passes_L_owe
