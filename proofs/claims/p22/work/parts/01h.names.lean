theorem dL_markets_0 : decode cL_markets 0 = .ok (.iload_n 2, 1) := by decide +kernel
theorem dL_markets_1 : decode cL_markets 1 = .ok (.iconst 2, 1) := by decide +kernel
theorem dL_markets_2 : decode cL_markets 2 = .ok (.invokestatic 99, 3) := by decide +kernel
theorem dL_markets_5 : decode cL_markets 5 = .ok (.istore 6, 2) := by decide +kernel
theorem dL_markets_7 : decode cL_markets 7 = .ok (.iload_n 1, 1) := by decide +kernel
theorem dL_markets_8 : decode cL_markets 8 = .ok (.ifCond .ne 107, 3) := by decide +kernel
theorem dL_markets_11 : decode cL_markets 11 = .ok (.iload_n 3, 1) := by decide +kernel
theorem dL_markets_12 : decode cL_markets 12 = .ok (.bipush 6, 2) := by decide +kernel
theorem dL_markets_14 : decode cL_markets 14 = .ok (.iand, 1) := by decide +kernel
theorem dL_markets_15 : decode cL_markets 15 = .ok (.ifCond .ne 16, 3) := by decide +kernel
theorem dL_markets_18 : decode cL_markets 18 = .ok (.iconst 1, 1) := by decide +kernel
theorem dL_markets_19 : decode cL_markets 19 = .ok (.iload_n 3, 1) := by decide +kernel
theorem dL_markets_20 : decode cL_markets 20 = .ok (.iconst 3, 1) := by decide +kernel
theorem dL_markets_21 : decode cL_markets 21 = .ok (.ishr, 1) := by decide +kernel
theorem dL_markets_22 : decode cL_markets 22 = .ok (.ldc 102, 2) := by decide +kernel
theorem dL_markets_24 : decode cL_markets 24 = .ok (.invokestatic 99, 3) := by decide +kernel
theorem dL_markets_27 : decode cL_markets 27 = .ok (.iadd, 1) := by decide +kernel
theorem dL_markets_28 : decode cL_markets 28 = .ok (.goto 16, 3) := by decide +kernel
theorem dL_markets_31 : decode cL_markets 31 = .ok (.sipush 9000, 3) := by decide +kernel
theorem dL_markets_34 : decode cL_markets 34 = .ok (.iload_n 3, 1) := by decide +kernel
theorem dL_markets_35 : decode cL_markets 35 = .ok (.iconst 3, 1) := by decide +kernel
theorem dL_markets_36 : decode cL_markets 36 = .ok (.ishr, 1) := by decide +kernel
theorem dL_markets_37 : decode cL_markets 37 = .ok (.sipush 3000, 3) := by decide +kernel
theorem dL_markets_40 : decode cL_markets 40 = .ok (.invokestatic 99, 3) := by decide +kernel
theorem dL_markets_43 : decode cL_markets 43 = .ok (.iadd, 1) := by decide +kernel
theorem dL_markets_44 : decode cL_markets 44 = .ok (.istore 7, 2) := by decide +kernel
theorem dL_markets_46 : decode cL_markets 46 = .ok (.aload 4, 2) := by decide +kernel
theorem dL_markets_48 : decode cL_markets 48 = .ok (.iload 6, 2) := by decide +kernel
theorem dL_markets_50 : decode cL_markets 50 = .ok (.iaload, 1) := by decide +kernel
theorem dL_markets_51 : decode cL_markets 51 = .ok (.istore 8, 2) := by decide +kernel
theorem dL_markets_53 : decode cL_markets 53 = .ok (.aload 4, 2) := by decide +kernel
theorem dL_markets_55 : decode cL_markets 55 = .ok (.iload 6, 2) := by decide +kernel
theorem dL_markets_57 : decode cL_markets 57 = .ok (.iload 7, 2) := by decide +kernel
theorem dL_markets_59 : decode cL_markets 59 = .ok (.iastore, 1) := by decide +kernel
theorem dL_markets_60 : decode cL_markets 60 = .ok (.aload_n 0, 1) := by decide +kernel
theorem dL_markets_61 : decode cL_markets 61 = .ok (.iconst 4, 1) := by decide +kernel
theorem dL_markets_62 : decode cL_markets 62 = .ok (.iconst 0, 1) := by decide +kernel
theorem dL_markets_63 : decode cL_markets 63 = .ok (.invokestatic 103, 3) := by decide +kernel
theorem dL_markets_66 : decode cL_markets 66 = .ok (.ldc 16, 2) := by decide +kernel
theorem dL_markets_68 : decode cL_markets 68 = .ok (.if_icmp .ne 45, 3) := by decide +kernel
theorem dL_markets_71 : decode cL_markets 71 = .ok (.aload_n 0, 1) := by decide +kernel
theorem dL_markets_72 : decode cL_markets 72 = .ok (.iload 6, 2) := by decide +kernel
theorem dL_markets_74 : decode cL_markets 74 = .ok (.iconst 0, 1) := by decide +kernel
theorem dL_markets_75 : decode cL_markets 75 = .ok (.invokestatic 103, 3) := by decide +kernel
theorem dL_markets_78 : decode cL_markets 78 = .ok (.ldc 19, 2) := by decide +kernel
theorem dL_markets_80 : decode cL_markets 80 = .ok (.if_icmp .ne 33, 3) := by decide +kernel
theorem dL_markets_83 : decode cL_markets 83 = .ok (.aload_n 0, 1) := by decide +kernel
theorem dL_markets_84 : decode cL_markets 84 = .ok (.iload 6, 2) := by decide +kernel
theorem dL_markets_86 : decode cL_markets 86 = .ok (.ldc 106, 2) := by decide +kernel
theorem dL_markets_88 : decode cL_markets 88 = .ok (.invokestatic 103, 3) := by decide +kernel
theorem dL_markets_91 : decode cL_markets 91 = .ok (.ldc 19, 2) := by decide +kernel
theorem dL_markets_93 : decode cL_markets 93 = .ok (.if_icmp .ne 20, 3) := by decide +kernel
theorem dL_markets_96 : decode cL_markets 96 = .ok (.aload_n 0, 1) := by decide +kernel
theorem dL_markets_97 : decode cL_markets 97 = .ok (.iload 6, 2) := by decide +kernel
theorem dL_markets_99 : decode cL_markets 99 = .ok (.iload 7, 2) := by decide +kernel
theorem dL_markets_101 : decode cL_markets 101 = .ok (.invokestatic 103, 3) := by decide +kernel
theorem dL_markets_104 : decode cL_markets 104 = .ok (.iload 8, 2) := by decide +kernel
theorem dL_markets_106 : decode cL_markets 106 = .ok (.if_icmp .ne 7, 3) := by decide +kernel
theorem dL_markets_109 : decode cL_markets 109 = .ok (.iconst 1, 1) := by decide +kernel
theorem dL_markets_110 : decode cL_markets 110 = .ok (.goto 4, 3) := by decide +kernel
theorem dL_markets_113 : decode cL_markets 113 = .ok (.iconst 0, 1) := by decide +kernel
theorem dL_markets_114 : decode cL_markets 114 = .ok (.ireturn, 1) := by decide +kernel
theorem dL_markets_115 : decode cL_markets 115 = .ok (.iload_n 1, 1) := by decide +kernel
theorem dL_markets_116 : decode cL_markets 116 = .ok (.iconst 1, 1) := by decide +kernel
theorem dL_markets_117 : decode cL_markets 117 = .ok (.if_icmp .ne 90, 3) := by decide +kernel
theorem dL_markets_120 : decode cL_markets 120 = .ok (.aload 4, 2) := by decide +kernel
theorem dL_markets_122 : decode cL_markets 122 = .ok (.iconst 2, 1) := by decide +kernel
theorem dL_markets_123 : decode cL_markets 123 = .ok (.iload 6, 2) := by decide +kernel
theorem dL_markets_125 : decode cL_markets 125 = .ok (.iadd, 1) := by decide +kernel
theorem dL_markets_126 : decode cL_markets 126 = .ok (.iaload, 1) := by decide +kernel
theorem dL_markets_127 : decode cL_markets 127 = .ok (.istore 7, 2) := by decide +kernel
theorem dL_markets_129 : decode cL_markets 129 = .ok (.aload 4, 2) := by decide +kernel
theorem dL_markets_131 : decode cL_markets 131 = .ok (.iconst 2, 1) := by decide +kernel
theorem dL_markets_132 : decode cL_markets 132 = .ok (.iload 6, 2) := by decide +kernel
theorem dL_markets_134 : decode cL_markets 134 = .ok (.iadd, 1) := by decide +kernel
theorem dL_markets_135 : decode cL_markets 135 = .ok (.iload_n 3, 1) := by decide +kernel
theorem dL_markets_136 : decode cL_markets 136 = .ok (.bipush 101, 2) := by decide +kernel
theorem dL_markets_138 : decode cL_markets 138 = .ok (.invokestatic 99, 3) := by decide +kernel
theorem dL_markets_141 : decode cL_markets 141 = .ok (.bipush 50, 2) := by decide +kernel
theorem dL_markets_143 : decode cL_markets 143 = .ok (.isub, 1) := by decide +kernel
theorem dL_markets_144 : decode cL_markets 144 = .ok (.iastore, 1) := by decide +kernel
theorem dL_markets_145 : decode cL_markets 145 = .ok (.aload_n 0, 1) := by decide +kernel
theorem dL_markets_146 : decode cL_markets 146 = .ok (.iconst (-1), 1) := by decide +kernel
theorem dL_markets_147 : decode cL_markets 147 = .ok (.bipush 51, 2) := by decide +kernel
theorem dL_markets_149 : decode cL_markets 149 = .ok (.invokestatic 107, 3) := by decide +kernel
theorem dL_markets_152 : decode cL_markets 152 = .ok (.ldc 16, 2) := by decide +kernel
theorem dL_markets_154 : decode cL_markets 154 = .ok (.if_icmp .ne 51, 3) := by decide +kernel
theorem dL_markets_157 : decode cL_markets 157 = .ok (.aload_n 0, 1) := by decide +kernel
theorem dL_markets_158 : decode cL_markets 158 = .ok (.iload 6, 2) := by decide +kernel
theorem dL_markets_160 : decode cL_markets 160 = .ok (.bipush 51, 2) := by decide +kernel
theorem dL_markets_162 : decode cL_markets 162 = .ok (.invokestatic 107, 3) := by decide +kernel
theorem dL_markets_165 : decode cL_markets 165 = .ok (.ldc 19, 2) := by decide +kernel
theorem dL_markets_167 : decode cL_markets 167 = .ok (.if_icmp .ne 38, 3) := by decide +kernel
theorem dL_markets_170 : decode cL_markets 170 = .ok (.aload_n 0, 1) := by decide +kernel
theorem dL_markets_171 : decode cL_markets 171 = .ok (.iload 6, 2) := by decide +kernel
theorem dL_markets_173 : decode cL_markets 173 = .ok (.bipush (-51), 2) := by decide +kernel
theorem dL_markets_175 : decode cL_markets 175 = .ok (.invokestatic 107, 3) := by decide +kernel
theorem dL_markets_178 : decode cL_markets 178 = .ok (.ldc 19, 2) := by decide +kernel
theorem dL_markets_180 : decode cL_markets 180 = .ok (.if_icmp .ne 25, 3) := by decide +kernel
theorem dL_markets_183 : decode cL_markets 183 = .ok (.aload_n 0, 1) := by decide +kernel
theorem dL_markets_184 : decode cL_markets 184 = .ok (.iload 6, 2) := by decide +kernel
theorem dL_markets_186 : decode cL_markets 186 = .ok (.aload 4, 2) := by decide +kernel
theorem dL_markets_188 : decode cL_markets 188 = .ok (.iconst 2, 1) := by decide +kernel
theorem dL_markets_189 : decode cL_markets 189 = .ok (.iload 6, 2) := by decide +kernel
theorem dL_markets_191 : decode cL_markets 191 = .ok (.iadd, 1) := by decide +kernel
theorem dL_markets_192 : decode cL_markets 192 = .ok (.iaload, 1) := by decide +kernel
theorem dL_markets_193 : decode cL_markets 193 = .ok (.invokestatic 107, 3) := by decide +kernel
theorem dL_markets_196 : decode cL_markets 196 = .ok (.iload 7, 2) := by decide +kernel
theorem dL_markets_198 : decode cL_markets 198 = .ok (.if_icmp .ne 7, 3) := by decide +kernel
theorem dL_markets_201 : decode cL_markets 201 = .ok (.iconst 1, 1) := by decide +kernel
theorem dL_markets_202 : decode cL_markets 202 = .ok (.goto 4, 3) := by decide +kernel
theorem dL_markets_205 : decode cL_markets 205 = .ok (.iconst 0, 1) := by decide +kernel
theorem dL_markets_206 : decode cL_markets 206 = .ok (.ireturn, 1) := by decide +kernel
theorem dL_markets_207 : decode cL_markets 207 = .ok (.iload_n 1, 1) := by decide +kernel
theorem dL_markets_208 : decode cL_markets 208 = .ok (.iconst 2, 1) := by decide +kernel
theorem dL_markets_209 : decode cL_markets 209 = .ok (.if_icmp .ne 108, 3) := by decide +kernel
theorem dL_markets_212 : decode cL_markets 212 = .ok (.aload 4, 2) := by decide +kernel
theorem dL_markets_214 : decode cL_markets 214 = .ok (.iconst 4, 1) := by decide +kernel
theorem dL_markets_215 : decode cL_markets 215 = .ok (.iload 6, 2) := by decide +kernel
theorem dL_markets_217 : decode cL_markets 217 = .ok (.iadd, 1) := by decide +kernel
theorem dL_markets_218 : decode cL_markets 218 = .ok (.iaload, 1) := by decide +kernel
theorem dL_markets_219 : decode cL_markets 219 = .ok (.istore 7, 2) := by decide +kernel
theorem dL_markets_221 : decode cL_markets 221 = .ok (.aload 4, 2) := by decide +kernel
theorem dL_markets_223 : decode cL_markets 223 = .ok (.iconst 4, 1) := by decide +kernel
theorem dL_markets_224 : decode cL_markets 224 = .ok (.iload 6, 2) := by decide +kernel
theorem dL_markets_226 : decode cL_markets 226 = .ok (.iadd, 1) := by decide +kernel
theorem dL_markets_227 : decode cL_markets 227 = .ok (.iload_n 3, 1) := by decide +kernel
theorem dL_markets_228 : decode cL_markets 228 = .ok (.bipush 6, 2) := by decide +kernel
theorem dL_markets_230 : decode cL_markets 230 = .ok (.iand, 1) := by decide +kernel
theorem dL_markets_231 : decode cL_markets 231 = .ok (.ifCond .ne 15, 3) := by decide +kernel
theorem dL_markets_234 : decode cL_markets 234 = .ok (.iload_n 3, 1) := by decide +kernel
theorem dL_markets_235 : decode cL_markets 235 = .ok (.iconst 3, 1) := by decide +kernel
theorem dL_markets_236 : decode cL_markets 236 = .ok (.ishr, 1) := by decide +kernel
theorem dL_markets_237 : decode cL_markets 237 = .ok (.sipush 3000, 3) := by decide +kernel
theorem dL_markets_240 : decode cL_markets 240 = .ok (.invokestatic 99, 3) := by decide +kernel
theorem dL_markets_243 : decode cL_markets 243 = .ok (.goto 13, 3) := by decide +kernel
theorem dL_markets_246 : decode cL_markets 246 = .ok (.iconst 1, 1) := by decide +kernel
theorem dL_markets_247 : decode cL_markets 247 = .ok (.iload_n 3, 1) := by decide +kernel
theorem dL_markets_248 : decode cL_markets 248 = .ok (.iconst 3, 1) := by decide +kernel
theorem dL_markets_249 : decode cL_markets 249 = .ok (.ishr, 1) := by decide +kernel
theorem dL_markets_250 : decode cL_markets 250 = .ok (.ldc 109, 2) := by decide +kernel
theorem dL_markets_252 : decode cL_markets 252 = .ok (.invokestatic 99, 3) := by decide +kernel
theorem dL_markets_255 : decode cL_markets 255 = .ok (.iadd, 1) := by decide +kernel
theorem dL_markets_256 : decode cL_markets 256 = .ok (.iastore, 1) := by decide +kernel
theorem dL_markets_257 : decode cL_markets 257 = .ok (.aload_n 0, 1) := by decide +kernel
theorem dL_markets_258 : decode cL_markets 258 = .ok (.iconst 5, 1) := by decide +kernel
theorem dL_markets_259 : decode cL_markets 259 = .ok (.iconst (-1), 1) := by decide +kernel
theorem dL_markets_260 : decode cL_markets 260 = .ok (.invokestatic 110, 3) := by decide +kernel
theorem dL_markets_263 : decode cL_markets 263 = .ok (.ldc 16, 2) := by decide +kernel
theorem dL_markets_265 : decode cL_markets 265 = .ok (.if_icmp .ne 50, 3) := by decide +kernel
theorem dL_markets_268 : decode cL_markets 268 = .ok (.aload_n 0, 1) := by decide +kernel
theorem dL_markets_269 : decode cL_markets 269 = .ok (.iload 6, 2) := by decide +kernel
theorem dL_markets_271 : decode cL_markets 271 = .ok (.iconst (-1), 1) := by decide +kernel
theorem dL_markets_272 : decode cL_markets 272 = .ok (.invokestatic 110, 3) := by decide +kernel
theorem dL_markets_275 : decode cL_markets 275 = .ok (.ldc 19, 2) := by decide +kernel
theorem dL_markets_277 : decode cL_markets 277 = .ok (.if_icmp .ne 38, 3) := by decide +kernel
theorem dL_markets_280 : decode cL_markets 280 = .ok (.aload_n 0, 1) := by decide +kernel
theorem dL_markets_281 : decode cL_markets 281 = .ok (.iload 6, 2) := by decide +kernel
theorem dL_markets_283 : decode cL_markets 283 = .ok (.ldc 112, 2) := by decide +kernel
theorem dL_markets_285 : decode cL_markets 285 = .ok (.invokestatic 110, 3) := by decide +kernel
theorem dL_markets_288 : decode cL_markets 288 = .ok (.ldc 19, 2) := by decide +kernel
theorem dL_markets_290 : decode cL_markets 290 = .ok (.if_icmp .ne 25, 3) := by decide +kernel
theorem dL_markets_293 : decode cL_markets 293 = .ok (.aload_n 0, 1) := by decide +kernel
theorem dL_markets_294 : decode cL_markets 294 = .ok (.iload 6, 2) := by decide +kernel
theorem dL_markets_296 : decode cL_markets 296 = .ok (.aload 4, 2) := by decide +kernel
theorem dL_markets_298 : decode cL_markets 298 = .ok (.iconst 4, 1) := by decide +kernel
theorem dL_markets_299 : decode cL_markets 299 = .ok (.iload 6, 2) := by decide +kernel
theorem dL_markets_301 : decode cL_markets 301 = .ok (.iadd, 1) := by decide +kernel
theorem dL_markets_302 : decode cL_markets 302 = .ok (.iaload, 1) := by decide +kernel
theorem dL_markets_303 : decode cL_markets 303 = .ok (.invokestatic 110, 3) := by decide +kernel
theorem dL_markets_306 : decode cL_markets 306 = .ok (.iload 7, 2) := by decide +kernel
theorem dL_markets_308 : decode cL_markets 308 = .ok (.if_icmp .ne 7, 3) := by decide +kernel
theorem dL_markets_311 : decode cL_markets 311 = .ok (.iconst 1, 1) := by decide +kernel
theorem dL_markets_312 : decode cL_markets 312 = .ok (.goto 4, 3) := by decide +kernel
theorem dL_markets_315 : decode cL_markets 315 = .ok (.iconst 0, 1) := by decide +kernel
theorem dL_markets_316 : decode cL_markets 316 = .ok (.ireturn, 1) := by decide +kernel
theorem dL_markets_317 : decode cL_markets 317 = .ok (.iconst 1, 1) := by decide +kernel
theorem dL_markets_318 : decode cL_markets 318 = .ok (.iload_n 3, 1) := by decide +kernel
theorem dL_markets_319 : decode cL_markets 319 = .ok (.bipush 9, 2) := by decide +kernel
theorem dL_markets_321 : decode cL_markets 321 = .ok (.invokestatic 99, 3) := by decide +kernel
theorem dL_markets_324 : decode cL_markets 324 = .ok (.iadd, 1) := by decide +kernel
theorem dL_markets_325 : decode cL_markets 325 = .ok (.istore 7, 2) := by decide +kernel
theorem dL_markets_327 : decode cL_markets 327 = .ok (.aload_n 0, 1) := by decide +kernel
theorem dL_markets_328 : decode cL_markets 328 = .ok (.iconst 0, 1) := by decide +kernel
theorem dL_markets_329 : decode cL_markets 329 = .ok (.invokestatic 113, 3) := by decide +kernel
theorem dL_markets_332 : decode cL_markets 332 = .ok (.ldc 19, 2) := by decide +kernel
theorem dL_markets_334 : decode cL_markets 334 = .ok (.if_icmp .ne 41, 3) := by decide +kernel
theorem dL_markets_337 : decode cL_markets 337 = .ok (.aload_n 0, 1) := by decide +kernel
theorem dL_markets_338 : decode cL_markets 338 = .ok (.sipush 1001, 3) := by decide +kernel
theorem dL_markets_341 : decode cL_markets 341 = .ok (.invokestatic 113, 3) := by decide +kernel
theorem dL_markets_344 : decode cL_markets 344 = .ok (.ldc 19, 2) := by decide +kernel
theorem dL_markets_346 : decode cL_markets 346 = .ok (.if_icmp .ne 29, 3) := by decide +kernel
theorem dL_markets_349 : decode cL_markets 349 = .ok (.aload 5, 2) := by decide +kernel
theorem dL_markets_351 : decode cL_markets 351 = .ok (.iconst 0, 1) := by decide +kernel
theorem dL_markets_352 : decode cL_markets 352 = .ok (.iaload, 1) := by decide +kernel
theorem dL_markets_353 : decode cL_markets 353 = .ok (.ifCond .le 24, 3) := by decide +kernel
theorem dL_markets_356 : decode cL_markets 356 = .ok (.aload_n 0, 1) := by decide +kernel
theorem dL_markets_357 : decode cL_markets 357 = .ok (.iconst 1, 1) := by decide +kernel
theorem dL_markets_358 : decode cL_markets 358 = .ok (.iload_n 3, 1) := by decide +kernel
theorem dL_markets_359 : decode cL_markets 359 = .ok (.aload 5, 2) := by decide +kernel
theorem dL_markets_361 : decode cL_markets 361 = .ok (.iconst 0, 1) := by decide +kernel
theorem dL_markets_362 : decode cL_markets 362 = .ok (.iaload, 1) := by decide +kernel
theorem dL_markets_363 : decode cL_markets 363 = .ok (.invokestatic 99, 3) := by decide +kernel
theorem dL_markets_366 : decode cL_markets 366 = .ok (.iadd, 1) := by decide +kernel
theorem dL_markets_367 : decode cL_markets 367 = .ok (.invokestatic 113, 3) := by decide +kernel
theorem dL_markets_370 : decode cL_markets 370 = .ok (.ldc 29, 2) := by decide +kernel
theorem dL_markets_372 : decode cL_markets 372 = .ok (.if_icmp .eq 5, 3) := by decide +kernel
theorem dL_markets_375 : decode cL_markets 375 = .ok (.iconst 0, 1) := by decide +kernel
theorem dL_markets_376 : decode cL_markets 376 = .ok (.ireturn, 1) := by decide +kernel
theorem dL_markets_377 : decode cL_markets 377 = .ok (.aload 5, 2) := by decide +kernel
theorem dL_markets_379 : decode cL_markets 379 = .ok (.iconst 0, 1) := by decide +kernel
theorem dL_markets_380 : decode cL_markets 380 = .ok (.iaload, 1) := by decide +kernel
theorem dL_markets_381 : decode cL_markets 381 = .ok (.iload 7, 2) := by decide +kernel
theorem dL_markets_383 : decode cL_markets 383 = .ok (.iadd, 1) := by decide +kernel
theorem dL_markets_384 : decode cL_markets 384 = .ok (.sipush 1000, 3) := by decide +kernel
theorem dL_markets_387 : decode cL_markets 387 = .ok (.if_icmp .le 5, 3) := by decide +kernel
theorem dL_markets_390 : decode cL_markets 390 = .ok (.iconst 1, 1) := by decide +kernel
theorem dL_markets_391 : decode cL_markets 391 = .ok (.ireturn, 1) := by decide +kernel
theorem dL_markets_392 : decode cL_markets 392 = .ok (.iconst 0, 1) := by decide +kernel
theorem dL_markets_393 : decode cL_markets 393 = .ok (.istore 8, 2) := by decide +kernel
theorem dL_markets_395 : decode cL_markets 395 = .ok (.iconst 1, 1) := by decide +kernel
theorem dL_markets_396 : decode cL_markets 396 = .ok (.istore 9, 2) := by decide +kernel
theorem dL_markets_398 : decode cL_markets 398 = .ok (.iload 9, 2) := by decide +kernel
theorem dL_markets_400 : decode cL_markets 400 = .ok (.bipush 10, 2) := by decide +kernel
theorem dL_markets_402 : decode cL_markets 402 = .ok (.if_icmp .ge 39, 3) := by decide +kernel
theorem dL_markets_405 : decode cL_markets 405 = .ok (.iload 8, 2) := by decide +kernel
theorem dL_markets_407 : decode cL_markets 407 = .ok (.iload 9, 2) := by decide +kernel
theorem dL_markets_409 : decode cL_markets 409 = .ok (.iload 7, 2) := by decide +kernel
theorem dL_markets_411 : decode cL_markets 411 = .ok (.if_icmp .eq 20, 3) := by decide +kernel
theorem dL_markets_414 : decode cL_markets 414 = .ok (.aload 5, 2) := by decide +kernel
theorem dL_markets_416 : decode cL_markets 416 = .ok (.iconst 2, 1) := by decide +kernel
theorem dL_markets_417 : decode cL_markets 417 = .ok (.iaload, 1) := by decide +kernel
theorem dL_markets_418 : decode cL_markets 418 = .ok (.iload 9, 2) := by decide +kernel
theorem dL_markets_420 : decode cL_markets 420 = .ok (.ishr, 1) := by decide +kernel
theorem dL_markets_421 : decode cL_markets 421 = .ok (.iconst 1, 1) := by decide +kernel
theorem dL_markets_422 : decode cL_markets 422 = .ok (.iand, 1) := by decide +kernel
theorem dL_markets_423 : decode cL_markets 423 = .ok (.iconst 1, 1) := by decide +kernel
theorem dL_markets_424 : decode cL_markets 424 = .ok (.if_icmp .ne 7, 3) := by decide +kernel
theorem dL_markets_427 : decode cL_markets 427 = .ok (.iconst 1, 1) := by decide +kernel
theorem dL_markets_428 : decode cL_markets 428 = .ok (.goto 4, 3) := by decide +kernel
theorem dL_markets_431 : decode cL_markets 431 = .ok (.iconst 0, 1) := by decide +kernel
theorem dL_markets_432 : decode cL_markets 432 = .ok (.iadd, 1) := by decide +kernel
theorem dL_markets_433 : decode cL_markets 433 = .ok (.istore 8, 2) := by decide +kernel
theorem dL_markets_435 : decode cL_markets 435 = .ok (.iinc 9 1, 3) := by decide +kernel
theorem dL_markets_438 : decode cL_markets 438 = .ok (.goto (-40), 3) := by decide +kernel
theorem dL_markets_441 : decode cL_markets 441 = .ok (.iload 8, 2) := by decide +kernel
theorem dL_markets_443 : decode cL_markets 443 = .ok (.iconst 2, 1) := by decide +kernel
theorem dL_markets_444 : decode cL_markets 444 = .ok (.if_icmp .le 32, 3) := by decide +kernel
theorem dL_markets_447 : decode cL_markets 447 = .ok (.aload 5, 2) := by decide +kernel
theorem dL_markets_449 : decode cL_markets 449 = .ok (.iconst 2, 1) := by decide +kernel
theorem dL_markets_450 : decode cL_markets 450 = .ok (.iaload, 1) := by decide +kernel
theorem dL_markets_451 : decode cL_markets 451 = .ok (.iload 7, 2) := by decide +kernel
theorem dL_markets_453 : decode cL_markets 453 = .ok (.ishr, 1) := by decide +kernel
theorem dL_markets_454 : decode cL_markets 454 = .ok (.iconst 1, 1) := by decide +kernel
theorem dL_markets_455 : decode cL_markets 455 = .ok (.iand, 1) := by decide +kernel
theorem dL_markets_456 : decode cL_markets 456 = .ok (.ifCond .ne 20, 3) := by decide +kernel
theorem dL_markets_459 : decode cL_markets 459 = .ok (.aload_n 0, 1) := by decide +kernel
theorem dL_markets_460 : decode cL_markets 460 = .ok (.invokevirtual 116, 3) := by decide +kernel
theorem dL_markets_463 : decode cL_markets 463 = .ok (.aload 5, 2) := by decide +kernel
theorem dL_markets_465 : decode cL_markets 465 = .ok (.iconst 0, 1) := by decide +kernel
theorem dL_markets_466 : decode cL_markets 466 = .ok (.iaload, 1) := by decide +kernel
theorem dL_markets_467 : decode cL_markets 467 = .ok (.if_icmp .ne 7, 3) := by decide +kernel
theorem dL_markets_470 : decode cL_markets 470 = .ok (.iconst 1, 1) := by decide +kernel
theorem dL_markets_471 : decode cL_markets 471 = .ok (.goto 4, 3) := by decide +kernel
theorem dL_markets_474 : decode cL_markets 474 = .ok (.iconst 0, 1) := by decide +kernel
theorem dL_markets_475 : decode cL_markets 475 = .ok (.ireturn, 1) := by decide +kernel
theorem dL_markets_476 : decode cL_markets 476 = .ok (.aload 5, 2) := by decide +kernel
theorem dL_markets_478 : decode cL_markets 478 = .ok (.iconst 2, 1) := by decide +kernel
theorem dL_markets_479 : decode cL_markets 479 = .ok (.dup2, 1) := by decide +kernel
theorem dL_markets_480 : decode cL_markets 480 = .ok (.iaload, 1) := by decide +kernel
theorem dL_markets_481 : decode cL_markets 481 = .ok (.iconst 1, 1) := by decide +kernel
theorem dL_markets_482 : decode cL_markets 482 = .ok (.iload 7, 2) := by decide +kernel
theorem dL_markets_484 : decode cL_markets 484 = .ok (.ishl, 1) := by decide +kernel
theorem dL_markets_485 : decode cL_markets 485 = .ok (.ixor, 1) := by decide +kernel
theorem dL_markets_486 : decode cL_markets 486 = .ok (.iastore, 1) := by decide +kernel
theorem dL_markets_487 : decode cL_markets 487 = .ok (.aload_n 0, 1) := by decide +kernel
theorem dL_markets_488 : decode cL_markets 488 = .ok (.aload 5, 2) := by decide +kernel
theorem dL_markets_490 : decode cL_markets 490 = .ok (.iconst 0, 1) := by decide +kernel
theorem dL_markets_491 : decode cL_markets 491 = .ok (.iaload, 1) := by decide +kernel
theorem dL_markets_492 : decode cL_markets 492 = .ok (.iload 7, 2) := by decide +kernel
theorem dL_markets_494 : decode cL_markets 494 = .ok (.iadd, 1) := by decide +kernel
theorem dL_markets_495 : decode cL_markets 495 = .ok (.invokestatic 113, 3) := by decide +kernel
theorem dL_markets_498 : decode cL_markets 498 = .ok (.aload 5, 2) := by decide +kernel
theorem dL_markets_500 : decode cL_markets 500 = .ok (.iconst 2, 1) := by decide +kernel
theorem dL_markets_501 : decode cL_markets 501 = .ok (.iaload, 1) := by decide +kernel
theorem dL_markets_502 : decode cL_markets 502 = .ok (.iload 7, 2) := by decide +kernel
theorem dL_markets_504 : decode cL_markets 504 = .ok (.ishr, 1) := by decide +kernel
theorem dL_markets_505 : decode cL_markets 505 = .ok (.iconst 1, 1) := by decide +kernel
theorem dL_markets_506 : decode cL_markets 506 = .ok (.iand, 1) := by decide +kernel
theorem dL_markets_507 : decode cL_markets 507 = .ok (.if_icmp .ne 7, 3) := by decide +kernel
theorem dL_markets_510 : decode cL_markets 510 = .ok (.iconst 1, 1) := by decide +kernel
theorem dL_markets_511 : decode cL_markets 511 = .ok (.goto 4, 3) := by decide +kernel
theorem dL_markets_514 : decode cL_markets 514 = .ok (.iconst 0, 1) := by decide +kernel
theorem dL_markets_515 : decode cL_markets 515 = .ok (.ireturn, 1) := by decide +kernel
set_option maxRecDepth 20000 in
theorem ggL_deals_L_low : GoodIn wsL_deals wsL_low := goodIn_r _ [11] (by decide +kernel) (by decide +kernel)
set_option maxRecDepth 20000 in
theorem gL_deals_L_low : GoodIn wsL_deals (va_wsS RL 99 yL_low wsL_low) := goodIn_app (goodIn_of _ (by decide +kernel)) ggL_deals_L_low
set_option maxRecDepth 20000 in
theorem ggL_deals_L_deal : GoodIn wsL_deals wsL_deal := goodIn_ca (goodIn_ca (goodIn_ca (goodIn_r _ [14, 15, 16, 17, 2, 3, 5, 18, 19, 20, 21, 22, 23, 24, 25, 26, 27, 28, 29, 30, 31, 32, 33, 34, 35, 36, 37, 38, 39, 40, 41, 42, 43, 44, 45, 46, 47, 48, 49, 50, 51, 52, 53, 54, 55, 56, 57, 58, 59, 60, 61, 62, 63, 64, 65, 66, 67, 68, 69, 70, 71, 72, 73, 74, 75, 76, 77, 78, 79, 80, 81, 82, 83, 84, 85, 86, 87, 88, 89, 90, 91, 92, 93, 94, 95, 96, 97, 98, 99, 100, 101, 102, 103, 104, 105, 106, 107, 108, 109, 110, 210, 211, 212, 213, 214, 215, 216, 217, 218, 219, 220, 221, 222, 223, 224, 225, 226, 227, 228, 229] (by decide +kernel) (by decide +kernel)) (goodIn_sub (fun _ h => List.mem_cons_of_mem _ (List.mem_append_left _ (List.mem_append_left _ (List.mem_append_right _ h)))) (by decide +kernel))) (goodIn_sub (fun _ h => List.mem_cons_of_mem _ (List.mem_append_left _ (List.mem_append_right _ h))) (by decide +kernel))) (goodIn_sub (fun _ h => List.mem_cons_of_mem _ (List.mem_append_right _ h)) (by decide +kernel))
set_option maxRecDepth 20000 in
theorem gL_deals_L_deal : GoodIn wsL_deals (va_wsS RL 121 yL_deal wsL_deal) := goodIn_app (goodIn_of _ (by decide +kernel)) ggL_deals_L_deal
set_option maxRecDepth 20000 in
theorem ggL_deals_L_forwards : GoodIn wsL_deals wsL_forwards := goodIn_r _ [113] (by decide +kernel) (by decide +kernel)
set_option maxRecDepth 20000 in
theorem gL_deals_L_forwards : GoodIn wsL_deals (va_wsS RL 83 yL_forwards wsL_forwards) := goodIn_app (goodIn_of _ (by decide +kernel)) ggL_deals_L_forwards
set_option maxRecDepth 20000 in
theorem ggL_deals_L_exposes : GoodIn wsL_deals wsL_exposes := goodIn_r _ [116, 117, 118, 10, 119, 111, 112, 113, 120, 121, 122, 123, 124, 125, 126] (by decide +kernel) (by decide +kernel)
set_option maxRecDepth 20000 in
theorem gL_deals_L_exposes : GoodIn wsL_deals (va_wsS RL 125 yL_exposes wsL_exposes) := goodIn_app (goodIn_of _ (by decide +kernel)) ggL_deals_L_exposes
set_option maxRecDepth 20000 in
theorem ggL_deals_L_draw : GoodIn wsL_deals wsL_draw := goodIn_ca (goodIn_ca (goodIn_r _ [129, 15, 16, 2, 3, 130, 131, 132, 21, 133, 28, 134, 135, 136, 137, 36, 37, 27, 39, 40, 41, 47, 48, 49, 50, 51, 138, 139, 140, 31, 141, 78, 74, 77, 142, 59, 60, 55, 61, 62, 63, 64, 65, 66, 143, 102, 103, 104, 144, 145, 146, 147, 148, 149, 150, 151, 152, 153, 154, 155, 156, 157, 158, 159, 160, 161, 162, 163, 164, 165, 166, 71, 72, 167, 168, 169, 170, 171, 172, 217, 218, 219, 220, 221, 222, 223, 210, 211, 212, 213, 214, 215, 216, 227, 228, 229, 224, 225, 226, 230] (by decide +kernel) (by decide +kernel)) (goodIn_sub (fun _ h => List.mem_cons_of_mem _ (List.mem_append_left _ (List.mem_append_right _ h))) (by decide +kernel))) (goodIn_sub (fun _ h => List.mem_cons_of_mem _ (List.mem_append_right _ h)) (by decide +kernel))
set_option maxRecDepth 20000 in
theorem gL_deals_L_draw : GoodIn wsL_deals (va_wsS RL 129 yL_draw wsL_draw) := goodIn_app (goodIn_of _ (by decide +kernel)) ggL_deals_L_draw
set_option maxRecDepth 20000 in
theorem ggL_deals_L_roll : GoodIn wsL_deals wsL_roll := goodIn_ca (goodIn_ca (goodIn_ca (goodIn_r _ [175, 15, 16, 17, 2, 3, 5, 176, 177, 178, 21, 179, 23, 24, 28, 134, 135, 136, 137, 36, 37, 27, 39, 40, 41, 47, 48, 49, 50, 51, 180, 181, 182, 183, 184, 185, 186, 187, 188, 189, 31, 190, 93, 94, 95, 96, 74, 79, 97, 53, 54, 55, 56, 57, 58, 59, 60, 61, 62, 63, 64, 65, 66, 98, 99, 100, 101, 76, 77, 75, 102, 103, 104, 144, 145, 146, 147, 148, 149, 150, 151, 152, 153, 154, 155, 156, 157, 158, 159, 160, 161, 162, 163, 164, 165, 166, 71, 72, 167, 168, 169, 170, 171, 172, 191, 192, 193, 194, 78, 195, 196, 217, 218, 219, 220, 221, 222, 223, 210, 211, 212, 213, 214, 215, 216, 227, 228, 229, 224, 225, 226, 230] (by decide +kernel) (by decide +kernel)) (goodIn_sub (fun _ h => List.mem_cons_of_mem _ (List.mem_append_left _ (List.mem_append_left _ (List.mem_append_right _ h)))) (by decide +kernel))) (goodIn_sub (fun _ h => List.mem_cons_of_mem _ (List.mem_append_left _ (List.mem_append_right _ h))) (by decide +kernel))) (goodIn_sub (fun _ h => List.mem_cons_of_mem _ (List.mem_append_right _ h)) (by decide +kernel))
set_option maxRecDepth 20000 in
theorem gL_deals_L_roll : GoodIn wsL_deals (va_wsS RL 131 yL_roll wsL_roll) := goodIn_app (goodIn_of _ (by decide +kernel)) ggL_deals_L_roll
set_option maxRecDepth 20000 in
theorem ggL_deals_L_closeOut : GoodIn wsL_deals wsL_closeOut := goodIn_ca (goodIn_ca (goodIn_r _ [199, 15, 17, 6, 7, 200, 201, 202, 21, 203, 134, 135, 136, 137, 36, 37, 27, 39, 40, 41, 180, 181, 182, 23, 24, 183, 184, 185, 186, 28, 187, 188, 189, 31, 190, 93, 94, 95, 96, 74, 79, 97, 53, 54, 55, 56, 57, 58, 59, 60, 61, 62, 63, 64, 65, 66, 98, 99, 100, 101, 76, 77, 75, 102, 103, 104, 144, 145, 146, 147, 148, 149, 150, 151, 152, 153, 154, 155, 156, 157, 158, 159, 160, 161, 162, 163, 164, 165, 166, 71, 72, 167, 168, 169, 170, 171, 172, 217, 218, 219, 220, 221, 222, 223, 210, 211, 212, 213, 214, 215, 216, 227, 228, 229, 224, 225, 226, 230] (by decide +kernel) (by decide +kernel)) (goodIn_sub (fun _ h => List.mem_cons_of_mem _ (List.mem_append_left _ (List.mem_append_right _ h))) (by decide +kernel))) (goodIn_sub (fun _ h => List.mem_cons_of_mem _ (List.mem_append_left _ (List.mem_append_left _ (List.mem_append_right _ h)))) (by decide +kernel))
set_option maxRecDepth 20000 in
theorem gL_deals_L_closeOut : GoodIn wsL_deals (va_wsS RL 134 yL_closeOut wsL_closeOut) := goodIn_app (goodIn_of _ (by decide +kernel)) ggL_deals_L_closeOut
set_option maxRecDepth 20000 in
theorem ggL_deals_L_owe : GoodIn wsL_deals wsL_owe := goodIn_r _ [206, 207, 208, 10, 209] (by decide +kernel) (by decide +kernel)
set_option maxRecDepth 20000 in
theorem gL_deals_L_owe : GoodIn wsL_deals (va_wsS RL 137 yL_owe wsL_owe) := goodIn_app (goodIn_of _ (by decide +kernel)) ggL_deals_L_owe
set_option maxRecDepth 20000 in
theorem ggL_deals_L_worth : GoodIn wsL_deals wsL_worth := goodIn_r _ [125, 126] (by decide +kernel) (by decide +kernel)
set_option maxRecDepth 20000 in
theorem gL_deals_L_worth : GoodIn wsL_deals (va_wsS RL 77 yL_worth wsL_worth) := goodIn_app (goodIn_of _ (by decide +kernel)) ggL_deals_L_worth
set_option maxRecDepth 20000 in
theorem ggL_deals_L_now : GoodIn wsL_deals wsL_now := goodIn_r _ [119, 111, 112, 10, 113] (by decide +kernel) (by decide +kernel)
set_option maxRecDepth 20000 in
theorem gL_deals_L_now : GoodIn wsL_deals (va_wsS RL 87 yL_now wsL_now) := goodIn_app (goodIn_of _ (by decide +kernel)) ggL_deals_L_now
set_option maxRecDepth 20000 in
theorem ggL_deals_L_gains : GoodIn wsL_deals wsL_gains := goodIn_r _ [122, 123, 124, 10, 125, 126] (by decide +kernel) (by decide +kernel)
set_option maxRecDepth 20000 in
theorem gL_deals_L_gains : GoodIn wsL_deals (va_wsS RL 91 yL_gains wsL_gains) := goodIn_app (goodIn_of _ (by decide +kernel)) ggL_deals_L_gains
