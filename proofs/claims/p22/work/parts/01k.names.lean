theorem dL_isTold_0 : decode cL_isTold 0 = .ok (.iconst 0, 1) := by decide +kernel
theorem dL_isTold_1 : decode cL_isTold 1 = .ok (.istore 11, 2) := by decide +kernel
theorem dL_isTold_3 : decode cL_isTold 3 = .ok (.iload 11, 2) := by decide +kernel
theorem dL_isTold_5 : decode cL_isTold 5 = .ok (.aload 10, 2) := by decide +kernel
theorem dL_isTold_7 : decode cL_isTold 7 = .ok (.iconst 1, 1) := by decide +kernel
theorem dL_isTold_8 : decode cL_isTold 8 = .ok (.iaload, 1) := by decide +kernel
theorem dL_isTold_9 : decode cL_isTold 9 = .ok (.if_icmp .ge 108, 3) := by decide +kernel
theorem dL_isTold_12 : decode cL_isTold 12 = .ok (.aload_n 3, 1) := by decide +kernel
theorem dL_isTold_13 : decode cL_isTold 13 = .ok (.iload 11, 2) := by decide +kernel
theorem dL_isTold_15 : decode cL_isTold 15 = .ok (.iaload, 1) := by decide +kernel
theorem dL_isTold_16 : decode cL_isTold 16 = .ok (.ifCond .ne 7, 3) := by decide +kernel
theorem dL_isTold_19 : decode cL_isTold 19 = .ok (.lconst 0, 1) := by decide +kernel
theorem dL_isTold_20 : decode cL_isTold 20 = .ok (.goto 24, 3) := by decide +kernel
theorem dL_isTold_23 : decode cL_isTold 23 = .ok (.aload_n 2, 1) := by decide +kernel
theorem dL_isTold_24 : decode cL_isTold 24 = .ok (.aload_n 3, 1) := by decide +kernel
theorem dL_isTold_25 : decode cL_isTold 25 = .ok (.aload 6, 2) := by decide +kernel
theorem dL_isTold_27 : decode cL_isTold 27 = .ok (.iload 11, 2) := by decide +kernel
theorem dL_isTold_29 : decode cL_isTold 29 = .ok (.aload_n 2, 1) := by decide +kernel
theorem dL_isTold_30 : decode cL_isTold 30 = .ok (.aload 5, 2) := by decide +kernel
theorem dL_isTold_32 : decode cL_isTold 32 = .ok (.aload 7, 2) := by decide +kernel
theorem dL_isTold_34 : decode cL_isTold 34 = .ok (.aload 10, 2) := by decide +kernel
theorem dL_isTold_36 : decode cL_isTold 36 = .ok (.iload 11, 2) := by decide +kernel
theorem dL_isTold_38 : decode cL_isTold 38 = .ok (.invokestatic 87, 3) := by decide +kernel
theorem dL_isTold_41 : decode cL_isTold 41 = .ok (.invokestatic 91, 3) := by decide +kernel
theorem dL_isTold_44 : decode cL_isTold 44 = .ok (.lstore 12, 2) := by decide +kernel
theorem dL_isTold_46 : decode cL_isTold 46 = .ok (.aload_n 0, 1) := by decide +kernel
theorem dL_isTold_47 : decode cL_isTold 47 = .ok (.iload 11, 2) := by decide +kernel
theorem dL_isTold_49 : decode cL_isTold 49 = .ok (.invokestatic 143, 3) := by decide +kernel
theorem dL_isTold_52 : decode cL_isTold 52 = .ok (.aload_n 3, 1) := by decide +kernel
theorem dL_isTold_53 : decode cL_isTold 53 = .ok (.iload 11, 2) := by decide +kernel
theorem dL_isTold_55 : decode cL_isTold 55 = .ok (.iaload, 1) := by decide +kernel
theorem dL_isTold_56 : decode cL_isTold 56 = .ok (.if_icmp .ne 53, 3) := by decide +kernel
theorem dL_isTold_59 : decode cL_isTold 59 = .ok (.aload_n 0, 1) := by decide +kernel
theorem dL_isTold_60 : decode cL_isTold 60 = .ok (.iload 11, 2) := by decide +kernel
theorem dL_isTold_62 : decode cL_isTold 62 = .ok (.invokevirtual 145, 3) := by decide +kernel
theorem dL_isTold_65 : decode cL_isTold 65 = .ok (.aload 6, 2) := by decide +kernel
theorem dL_isTold_67 : decode cL_isTold 67 = .ok (.iload 11, 2) := by decide +kernel
theorem dL_isTold_69 : decode cL_isTold 69 = .ok (.iaload, 1) := by decide +kernel
theorem dL_isTold_70 : decode cL_isTold 70 = .ok (.if_icmp .ne 39, 3) := by decide +kernel
theorem dL_isTold_73 : decode cL_isTold 73 = .ok (.aload_n 0, 1) := by decide +kernel
theorem dL_isTold_74 : decode cL_isTold 74 = .ok (.iload 11, 2) := by decide +kernel
theorem dL_isTold_76 : decode cL_isTold 76 = .ok (.invokevirtual 148, 3) := by decide +kernel
theorem dL_isTold_79 : decode cL_isTold 79 = .ok (.sipush 10000, 3) := by decide +kernel
theorem dL_isTold_82 : decode cL_isTold 82 = .ok (.aload 4, 2) := by decide +kernel
theorem dL_isTold_84 : decode cL_isTold 84 = .ok (.iload 11, 2) := by decide +kernel
theorem dL_isTold_86 : decode cL_isTold 86 = .ok (.iaload, 1) := by decide +kernel
theorem dL_isTold_87 : decode cL_isTold 87 = .ok (.imul, 1) := by decide +kernel
theorem dL_isTold_88 : decode cL_isTold 88 = .ok (.aload 5, 2) := by decide +kernel
theorem dL_isTold_90 : decode cL_isTold 90 = .ok (.iload 11, 2) := by decide +kernel
theorem dL_isTold_92 : decode cL_isTold 92 = .ok (.iaload, 1) := by decide +kernel
theorem dL_isTold_93 : decode cL_isTold 93 = .ok (.iadd, 1) := by decide +kernel
theorem dL_isTold_94 : decode cL_isTold 94 = .ok (.if_icmp .ne 15, 3) := by decide +kernel
theorem dL_isTold_97 : decode cL_isTold 97 = .ok (.aload_n 0, 1) := by decide +kernel
theorem dL_isTold_98 : decode cL_isTold 98 = .ok (.iload 11, 2) := by decide +kernel
theorem dL_isTold_100 : decode cL_isTold 100 = .ok (.invokevirtual 151, 3) := by decide +kernel
theorem dL_isTold_103 : decode cL_isTold 103 = .ok (.lload 12, 2) := by decide +kernel
theorem dL_isTold_105 : decode cL_isTold 105 = .ok (.lcmp, 1) := by decide +kernel
theorem dL_isTold_106 : decode cL_isTold 106 = .ok (.ifCond .eq 5, 3) := by decide +kernel
theorem dL_isTold_109 : decode cL_isTold 109 = .ok (.iconst 0, 1) := by decide +kernel
theorem dL_isTold_110 : decode cL_isTold 110 = .ok (.ireturn, 1) := by decide +kernel
theorem dL_isTold_111 : decode cL_isTold 111 = .ok (.iinc 11 1, 3) := by decide +kernel
theorem dL_isTold_114 : decode cL_isTold 114 = .ok (.goto (-111), 3) := by decide +kernel
theorem dL_isTold_117 : decode cL_isTold 117 = .ok (.iconst 0, 1) := by decide +kernel
theorem dL_isTold_118 : decode cL_isTold 118 = .ok (.istore 11, 2) := by decide +kernel
theorem dL_isTold_120 : decode cL_isTold 120 = .ok (.iload 11, 2) := by decide +kernel
theorem dL_isTold_122 : decode cL_isTold 122 = .ok (.iconst 2, 1) := by decide +kernel
theorem dL_isTold_123 : decode cL_isTold 123 = .ok (.if_icmp .ge 156, 3) := by decide +kernel
theorem dL_isTold_126 : decode cL_isTold 126 = .ok (.aload_n 0, 1) := by decide +kernel
theorem dL_isTold_127 : decode cL_isTold 127 = .ok (.iload 11, 2) := by decide +kernel
theorem dL_isTold_129 : decode cL_isTold 129 = .ok (.invokestatic 154, 3) := by decide +kernel
theorem dL_isTold_132 : decode cL_isTold 132 = .ok (.aload_n 2, 1) := by decide +kernel
theorem dL_isTold_133 : decode cL_isTold 133 = .ok (.aload_n 3, 1) := by decide +kernel
theorem dL_isTold_134 : decode cL_isTold 134 = .ok (.aload 5, 2) := by decide +kernel
theorem dL_isTold_136 : decode cL_isTold 136 = .ok (.aload 6, 2) := by decide +kernel
theorem dL_isTold_138 : decode cL_isTold 138 = .ok (.aload 7, 2) := by decide +kernel
theorem dL_isTold_140 : decode cL_isTold 140 = .ok (.aload 10, 2) := by decide +kernel
theorem dL_isTold_142 : decode cL_isTold 142 = .ok (.iload 11, 2) := by decide +kernel
theorem dL_isTold_144 : decode cL_isTold 144 = .ok (.invokestatic 125, 3) := by decide +kernel
theorem dL_isTold_147 : decode cL_isTold 147 = .ok (.lcmp, 1) := by decide +kernel
theorem dL_isTold_148 : decode cL_isTold 148 = .ok (.ifCond .eq 5, 3) := by decide +kernel
theorem dL_isTold_151 : decode cL_isTold 151 = .ok (.iconst 0, 1) := by decide +kernel
theorem dL_isTold_152 : decode cL_isTold 152 = .ok (.ireturn, 1) := by decide +kernel
theorem dL_isTold_153 : decode cL_isTold 153 = .ok (.iconst 0, 1) := by decide +kernel
theorem dL_isTold_154 : decode cL_isTold 154 = .ok (.istore 12, 2) := by decide +kernel
theorem dL_isTold_156 : decode cL_isTold 156 = .ok (.iload 12, 2) := by decide +kernel
theorem dL_isTold_158 : decode cL_isTold 158 = .ok (.iconst 3, 1) := by decide +kernel
theorem dL_isTold_159 : decode cL_isTold 159 = .ok (.if_icmp .ge 114, 3) := by decide +kernel
theorem dL_isTold_162 : decode cL_isTold 162 = .ok (.iload 12, 2) := by decide +kernel
theorem dL_isTold_164 : decode cL_isTold 164 = .ok (.iconst 2, 1) := by decide +kernel
theorem dL_isTold_165 : decode cL_isTold 165 = .ok (.if_icmp .ne 7, 3) := by decide +kernel
theorem dL_isTold_168 : decode cL_isTold 168 = .ok (.iconst 4, 1) := by decide +kernel
theorem dL_isTold_169 : decode cL_isTold 169 = .ok (.goto 5, 3) := by decide +kernel
theorem dL_isTold_172 : decode cL_isTold 172 = .ok (.iload 12, 2) := by decide +kernel
theorem dL_isTold_174 : decode cL_isTold 174 = .ok (.istore 13, 2) := by decide +kernel
theorem dL_isTold_176 : decode cL_isTold 176 = .ok (.aload_n 0, 1) := by decide +kernel
theorem dL_isTold_177 : decode cL_isTold 177 = .ok (.iload 11, 2) := by decide +kernel
theorem dL_isTold_179 : decode cL_isTold 179 = .ok (.iload 13, 2) := by decide +kernel
theorem dL_isTold_181 : decode cL_isTold 181 = .ok (.invokestatic 156, 3) := by decide +kernel
theorem dL_isTold_184 : decode cL_isTold 184 = .ok (.aload 9, 2) := by decide +kernel
theorem dL_isTold_186 : decode cL_isTold 186 = .ok (.iconst 3, 1) := by decide +kernel
theorem dL_isTold_187 : decode cL_isTold 187 = .ok (.iload 11, 2) := by decide +kernel
theorem dL_isTold_189 : decode cL_isTold 189 = .ok (.imul, 1) := by decide +kernel
theorem dL_isTold_190 : decode cL_isTold 190 = .ok (.iload 12, 2) := by decide +kernel
theorem dL_isTold_192 : decode cL_isTold 192 = .ok (.iadd, 1) := by decide +kernel
theorem dL_isTold_193 : decode cL_isTold 193 = .ok (.laload, 1) := by decide +kernel
theorem dL_isTold_194 : decode cL_isTold 194 = .ok (.lcmp, 1) := by decide +kernel
theorem dL_isTold_195 : decode cL_isTold 195 = .ok (.ifCond .eq 5, 3) := by decide +kernel
theorem dL_isTold_198 : decode cL_isTold 198 = .ok (.iconst 0, 1) := by decide +kernel
theorem dL_isTold_199 : decode cL_isTold 199 = .ok (.ireturn, 1) := by decide +kernel
theorem dL_isTold_200 : decode cL_isTold 200 = .ok (.iconst 1, 1) := by decide +kernel
theorem dL_isTold_201 : decode cL_isTold 201 = .ok (.istore 14, 2) := by decide +kernel
theorem dL_isTold_203 : decode cL_isTold 203 = .ok (.iload 14, 2) := by decide +kernel
theorem dL_isTold_205 : decode cL_isTold 205 = .ok (.bipush 21, 2) := by decide +kernel
theorem dL_isTold_207 : decode cL_isTold 207 = .ok (.if_icmp .ge 60, 3) := by decide +kernel
theorem dL_isTold_210 : decode cL_isTold 210 = .ok (.aload_n 0, 1) := by decide +kernel
theorem dL_isTold_211 : decode cL_isTold 211 = .ok (.iload 11, 2) := by decide +kernel
theorem dL_isTold_213 : decode cL_isTold 213 = .ok (.iload 13, 2) := by decide +kernel
theorem dL_isTold_215 : decode cL_isTold 215 = .ok (.iload 14, 2) := by decide +kernel
theorem dL_isTold_217 : decode cL_isTold 217 = .ok (.invokestatic 159, 3) := by decide +kernel
theorem dL_isTold_220 : decode cL_isTold 220 = .ok (.iload 14, 2) := by decide +kernel
theorem dL_isTold_222 : decode cL_isTold 222 = .ok (.bipush 10, 2) := by decide +kernel
theorem dL_isTold_224 : decode cL_isTold 224 = .ok (.if_icmp .ge 30, 3) := by decide +kernel
theorem dL_isTold_227 : decode cL_isTold 227 = .ok (.aload 8, 2) := by decide +kernel
theorem dL_isTold_229 : decode cL_isTold 229 = .ok (.bipush 6, 2) := by decide +kernel
theorem dL_isTold_231 : decode cL_isTold 231 = .ok (.aload 10, 2) := by decide +kernel
theorem dL_isTold_233 : decode cL_isTold 233 = .ok (.iconst 0, 1) := by decide +kernel
theorem dL_isTold_234 : decode cL_isTold 234 = .ok (.iaload, 1) := by decide +kernel
theorem dL_isTold_235 : decode cL_isTold 235 = .ok (.iload 14, 2) := by decide +kernel
theorem dL_isTold_237 : decode cL_isTold 237 = .ok (.iadd, 1) := by decide +kernel
theorem dL_isTold_238 : decode cL_isTold 238 = .ok (.bipush 10, 2) := by decide +kernel
theorem dL_isTold_240 : decode cL_isTold 240 = .ok (.irem, 1) := by decide +kernel
theorem dL_isTold_241 : decode cL_isTold 241 = .ok (.imul, 1) := by decide +kernel
theorem dL_isTold_242 : decode cL_isTold 242 = .ok (.iconst 3, 1) := by decide +kernel
theorem dL_isTold_243 : decode cL_isTold 243 = .ok (.iload 11, 2) := by decide +kernel
theorem dL_isTold_245 : decode cL_isTold 245 = .ok (.imul, 1) := by decide +kernel
theorem dL_isTold_246 : decode cL_isTold 246 = .ok (.iadd, 1) := by decide +kernel
theorem dL_isTold_247 : decode cL_isTold 247 = .ok (.iload 12, 2) := by decide +kernel
theorem dL_isTold_249 : decode cL_isTold 249 = .ok (.iadd, 1) := by decide +kernel
theorem dL_isTold_250 : decode cL_isTold 250 = .ok (.laload, 1) := by decide +kernel
theorem dL_isTold_251 : decode cL_isTold 251 = .ok (.goto 4, 3) := by decide +kernel
theorem dL_isTold_254 : decode cL_isTold 254 = .ok (.lconst 0, 1) := by decide +kernel
theorem dL_isTold_255 : decode cL_isTold 255 = .ok (.lcmp, 1) := by decide +kernel
theorem dL_isTold_256 : decode cL_isTold 256 = .ok (.ifCond .eq 5, 3) := by decide +kernel
theorem dL_isTold_259 : decode cL_isTold 259 = .ok (.iconst 0, 1) := by decide +kernel
theorem dL_isTold_260 : decode cL_isTold 260 = .ok (.ireturn, 1) := by decide +kernel
theorem dL_isTold_261 : decode cL_isTold 261 = .ok (.iinc 14 1, 3) := by decide +kernel
theorem dL_isTold_264 : decode cL_isTold 264 = .ok (.goto (-61), 3) := by decide +kernel
theorem dL_isTold_267 : decode cL_isTold 267 = .ok (.iinc 12 1, 3) := by decide +kernel
theorem dL_isTold_270 : decode cL_isTold 270 = .ok (.goto (-114), 3) := by decide +kernel
theorem dL_isTold_273 : decode cL_isTold 273 = .ok (.iinc 11 1, 3) := by decide +kernel
theorem dL_isTold_276 : decode cL_isTold 276 = .ok (.goto (-156), 3) := by decide +kernel
theorem dL_isTold_279 : decode cL_isTold 279 = .ok (.iload_n 1, 1) := by decide +kernel
theorem dL_isTold_280 : decode cL_isTold 280 = .ok (.sipush 401, 3) := by decide +kernel
theorem dL_isTold_283 : decode cL_isTold 283 = .ok (.invokestatic 99, 3) := by decide +kernel
theorem dL_isTold_286 : decode cL_isTold 286 = .ok (.istore 11, 2) := by decide +kernel
theorem dL_isTold_288 : decode cL_isTold 288 = .ok (.iconst 0, 1) := by decide +kernel
theorem dL_isTold_289 : decode cL_isTold 289 = .ok (.istore 12, 2) := by decide +kernel
theorem dL_isTold_291 : decode cL_isTold 291 = .ok (.iload 12, 2) := by decide +kernel
theorem dL_isTold_293 : decode cL_isTold 293 = .ok (.iconst 2, 1) := by decide +kernel
theorem dL_isTold_294 : decode cL_isTold 294 = .ok (.if_icmp .ge 46, 3) := by decide +kernel
theorem dL_isTold_297 : decode cL_isTold 297 = .ok (.aload_n 0, 1) := by decide +kernel
theorem dL_isTold_298 : decode cL_isTold 298 = .ok (.iload 12, 2) := by decide +kernel
theorem dL_isTold_300 : decode cL_isTold 300 = .ok (.iload 11, 2) := by decide +kernel
theorem dL_isTold_302 : decode cL_isTold 302 = .ok (.invokestatic 162, 3) := by decide +kernel
theorem dL_isTold_305 : decode cL_isTold 305 = .ok (.aload 7, 2) := by decide +kernel
theorem dL_isTold_307 : decode cL_isTold 307 = .ok (.iload 12, 2) := by decide +kernel
theorem dL_isTold_309 : decode cL_isTold 309 = .ok (.iload 11, 2) := by decide +kernel
theorem dL_isTold_311 : decode cL_isTold 311 = .ok (.invokestatic 83, 3) := by decide +kernel
theorem dL_isTold_314 : decode cL_isTold 314 = .ok (.if_icmp .ne 18, 3) := by decide +kernel
theorem dL_isTold_317 : decode cL_isTold 317 = .ok (.aload_n 0, 1) := by decide +kernel
theorem dL_isTold_318 : decode cL_isTold 318 = .ok (.iload 12, 2) := by decide +kernel
theorem dL_isTold_320 : decode cL_isTold 320 = .ok (.iconst 0, 1) := by decide +kernel
theorem dL_isTold_321 : decode cL_isTold 321 = .ok (.invokestatic 162, 3) := by decide +kernel
theorem dL_isTold_324 : decode cL_isTold 324 = .ok (.aload 7, 2) := by decide +kernel
theorem dL_isTold_326 : decode cL_isTold 326 = .ok (.iload 12, 2) := by decide +kernel
theorem dL_isTold_328 : decode cL_isTold 328 = .ok (.iaload, 1) := by decide +kernel
theorem dL_isTold_329 : decode cL_isTold 329 = .ok (.if_icmp .eq 5, 3) := by decide +kernel
theorem dL_isTold_332 : decode cL_isTold 332 = .ok (.iconst 0, 1) := by decide +kernel
theorem dL_isTold_333 : decode cL_isTold 333 = .ok (.ireturn, 1) := by decide +kernel
theorem dL_isTold_334 : decode cL_isTold 334 = .ok (.iinc 12 1, 3) := by decide +kernel
theorem dL_isTold_337 : decode cL_isTold 337 = .ok (.goto (-46), 3) := by decide +kernel
theorem dL_isTold_340 : decode cL_isTold 340 = .ok (.aload_n 0, 1) := by decide +kernel
theorem dL_isTold_341 : decode cL_isTold 341 = .ok (.invokevirtual 116, 3) := by decide +kernel
theorem dL_isTold_344 : decode cL_isTold 344 = .ok (.aload 10, 2) := by decide +kernel
theorem dL_isTold_346 : decode cL_isTold 346 = .ok (.iconst 0, 1) := by decide +kernel
theorem dL_isTold_347 : decode cL_isTold 347 = .ok (.iaload, 1) := by decide +kernel
theorem dL_isTold_348 : decode cL_isTold 348 = .ok (.if_icmp .ne 215, 3) := by decide +kernel
theorem dL_isTold_351 : decode cL_isTold 351 = .ok (.aload_n 0, 1) := by decide +kernel
theorem dL_isTold_352 : decode cL_isTold 352 = .ok (.invokevirtual 164, 3) := by decide +kernel
theorem dL_isTold_355 : decode cL_isTold 355 = .ok (.aload 10, 2) := by decide +kernel
theorem dL_isTold_357 : decode cL_isTold 357 = .ok (.iconst 0, 1) := by decide +kernel
theorem dL_isTold_358 : decode cL_isTold 358 = .ok (.iaload, 1) := by decide +kernel
theorem dL_isTold_359 : decode cL_isTold 359 = .ok (.aload 10, 2) := by decide +kernel
theorem dL_isTold_361 : decode cL_isTold 361 = .ok (.invokestatic 95, 3) := by decide +kernel
theorem dL_isTold_364 : decode cL_isTold 364 = .ok (.iadd, 1) := by decide +kernel
theorem dL_isTold_365 : decode cL_isTold 365 = .ok (.if_icmp .ne 198, 3) := by decide +kernel
theorem dL_isTold_368 : decode cL_isTold 368 = .ok (.aload_n 0, 1) := by decide +kernel
theorem dL_isTold_369 : decode cL_isTold 369 = .ok (.aload 10, 2) := by decide +kernel
theorem dL_isTold_371 : decode cL_isTold 371 = .ok (.iconst 1, 1) := by decide +kernel
theorem dL_isTold_372 : decode cL_isTold 372 = .ok (.iaload, 1) := by decide +kernel
theorem dL_isTold_373 : decode cL_isTold 373 = .ok (.invokestatic 143, 3) := by decide +kernel
theorem dL_isTold_376 : decode cL_isTold 376 = .ok (.ldc 16, 2) := by decide +kernel
theorem dL_isTold_378 : decode cL_isTold 378 = .ok (.if_icmp .ne 185, 3) := by decide +kernel
theorem dL_isTold_381 : decode cL_isTold 381 = .ok (.aload_n 0, 1) := by decide +kernel
theorem dL_isTold_382 : decode cL_isTold 382 = .ok (.iconst (-1), 1) := by decide +kernel
theorem dL_isTold_383 : decode cL_isTold 383 = .ok (.invokestatic 143, 3) := by decide +kernel
theorem dL_isTold_386 : decode cL_isTold 386 = .ok (.ldc 16, 2) := by decide +kernel
theorem dL_isTold_388 : decode cL_isTold 388 = .ok (.if_icmp .ne 175, 3) := by decide +kernel
theorem dL_isTold_391 : decode cL_isTold 391 = .ok (.aload_n 0, 1) := by decide +kernel
theorem dL_isTold_392 : decode cL_isTold 392 = .ok (.iconst 5, 1) := by decide +kernel
theorem dL_isTold_393 : decode cL_isTold 393 = .ok (.invokestatic 154, 3) := by decide +kernel
theorem dL_isTold_396 : decode cL_isTold 396 = .ok (.ldc2_w 51, 3) := by decide +kernel
theorem dL_isTold_399 : decode cL_isTold 399 = .ok (.lcmp, 1) := by decide +kernel
theorem dL_isTold_400 : decode cL_isTold 400 = .ok (.ifCond .ne 163, 3) := by decide +kernel
theorem dL_isTold_403 : decode cL_isTold 403 = .ok (.aload_n 0, 1) := by decide +kernel
theorem dL_isTold_404 : decode cL_isTold 404 = .ok (.iconst 3, 1) := by decide +kernel
theorem dL_isTold_405 : decode cL_isTold 405 = .ok (.invokestatic 154, 3) := by decide +kernel
theorem dL_isTold_408 : decode cL_isTold 408 = .ok (.lconst 0, 1) := by decide +kernel
theorem dL_isTold_409 : decode cL_isTold 409 = .ok (.lcmp, 1) := by decide +kernel
theorem dL_isTold_410 : decode cL_isTold 410 = .ok (.ifCond .ne 153, 3) := by decide +kernel
theorem dL_isTold_413 : decode cL_isTold 413 = .ok (.aload_n 0, 1) := by decide +kernel
theorem dL_isTold_414 : decode cL_isTold 414 = .ok (.iconst 5, 1) := by decide +kernel
theorem dL_isTold_415 : decode cL_isTold 415 = .ok (.bipush 9, 2) := by decide +kernel
theorem dL_isTold_417 : decode cL_isTold 417 = .ok (.iconst 0, 1) := by decide +kernel
theorem dL_isTold_418 : decode cL_isTold 418 = .ok (.invokestatic 159, 3) := by decide +kernel
theorem dL_isTold_421 : decode cL_isTold 421 = .ok (.ldc2_w 51, 3) := by decide +kernel
theorem dL_isTold_424 : decode cL_isTold 424 = .ok (.lcmp, 1) := by decide +kernel
theorem dL_isTold_425 : decode cL_isTold 425 = .ok (.ifCond .ne 138, 3) := by decide +kernel
theorem dL_isTold_428 : decode cL_isTold 428 = .ok (.aload_n 0, 1) := by decide +kernel
theorem dL_isTold_429 : decode cL_isTold 429 = .ok (.iconst 0, 1) := by decide +kernel
theorem dL_isTold_430 : decode cL_isTold 430 = .ok (.iconst 5, 1) := by decide +kernel
theorem dL_isTold_431 : decode cL_isTold 431 = .ok (.iconst 1, 1) := by decide +kernel
theorem dL_isTold_432 : decode cL_isTold 432 = .ok (.invokestatic 159, 3) := by decide +kernel
theorem dL_isTold_435 : decode cL_isTold 435 = .ok (.ldc2_w 66, 3) := by decide +kernel
theorem dL_isTold_438 : decode cL_isTold 438 = .ok (.lcmp, 1) := by decide +kernel
theorem dL_isTold_439 : decode cL_isTold 439 = .ok (.ifCond .ne 124, 3) := by decide +kernel
theorem dL_isTold_442 : decode cL_isTold 442 = .ok (.aload_n 0, 1) := by decide +kernel
theorem dL_isTold_443 : decode cL_isTold 443 = .ok (.iconst 0, 1) := by decide +kernel
theorem dL_isTold_444 : decode cL_isTold 444 = .ok (.iconst 0, 1) := by decide +kernel
theorem dL_isTold_445 : decode cL_isTold 445 = .ok (.iconst 0, 1) := by decide +kernel
theorem dL_isTold_446 : decode cL_isTold 446 = .ok (.invokestatic 159, 3) := by decide +kernel
theorem dL_isTold_449 : decode cL_isTold 449 = .ok (.ldc2_w 66, 3) := by decide +kernel
theorem dL_isTold_452 : decode cL_isTold 452 = .ok (.lcmp, 1) := by decide +kernel
theorem dL_isTold_453 : decode cL_isTold 453 = .ok (.ifCond .ne 110, 3) := by decide +kernel
theorem dL_isTold_456 : decode cL_isTold 456 = .ok (.aload_n 0, 1) := by decide +kernel
theorem dL_isTold_457 : decode cL_isTold 457 = .ok (.iconst 0, 1) := by decide +kernel
theorem dL_isTold_458 : decode cL_isTold 458 = .ok (.iconst 0, 1) := by decide +kernel
theorem dL_isTold_459 : decode cL_isTold 459 = .ok (.bipush 21, 2) := by decide +kernel
theorem dL_isTold_461 : decode cL_isTold 461 = .ok (.invokestatic 159, 3) := by decide +kernel
theorem dL_isTold_464 : decode cL_isTold 464 = .ok (.ldc2_w 66, 3) := by decide +kernel
theorem dL_isTold_467 : decode cL_isTold 467 = .ok (.lcmp, 1) := by decide +kernel
theorem dL_isTold_468 : decode cL_isTold 468 = .ok (.ifCond .ne 95, 3) := by decide +kernel
theorem dL_isTold_471 : decode cL_isTold 471 = .ok (.aload_n 0, 1) := by decide +kernel
theorem dL_isTold_472 : decode cL_isTold 472 = .ok (.iconst (-1), 1) := by decide +kernel
theorem dL_isTold_473 : decode cL_isTold 473 = .ok (.bipush 9, 2) := by decide +kernel
theorem dL_isTold_475 : decode cL_isTold 475 = .ok (.invokestatic 156, 3) := by decide +kernel
theorem dL_isTold_478 : decode cL_isTold 478 = .ok (.ldc2_w 51, 3) := by decide +kernel
theorem dL_isTold_481 : decode cL_isTold 481 = .ok (.lcmp, 1) := by decide +kernel
theorem dL_isTold_482 : decode cL_isTold 482 = .ok (.ifCond .ne 81, 3) := by decide +kernel
theorem dL_isTold_485 : decode cL_isTold 485 = .ok (.aload_n 0, 1) := by decide +kernel
theorem dL_isTold_486 : decode cL_isTold 486 = .ok (.iconst 0, 1) := by decide +kernel
theorem dL_isTold_487 : decode cL_isTold 487 = .ok (.iconst 5, 1) := by decide +kernel
theorem dL_isTold_488 : decode cL_isTold 488 = .ok (.invokestatic 156, 3) := by decide +kernel
theorem dL_isTold_491 : decode cL_isTold 491 = .ok (.ldc2_w 66, 3) := by decide +kernel
theorem dL_isTold_494 : decode cL_isTold 494 = .ok (.lcmp, 1) := by decide +kernel
theorem dL_isTold_495 : decode cL_isTold 495 = .ok (.ifCond .ne 68, 3) := by decide +kernel
theorem dL_isTold_498 : decode cL_isTold 498 = .ok (.aload_n 0, 1) := by decide +kernel
theorem dL_isTold_499 : decode cL_isTold 499 = .ok (.iconst 0, 1) := by decide +kernel
theorem dL_isTold_500 : decode cL_isTold 500 = .ok (.iconst (-1), 1) := by decide +kernel
theorem dL_isTold_501 : decode cL_isTold 501 = .ok (.invokestatic 156, 3) := by decide +kernel
theorem dL_isTold_504 : decode cL_isTold 504 = .ok (.ldc2_w 66, 3) := by decide +kernel
theorem dL_isTold_507 : decode cL_isTold 507 = .ok (.lcmp, 1) := by decide +kernel
theorem dL_isTold_508 : decode cL_isTold 508 = .ok (.ifCond .ne 55, 3) := by decide +kernel
theorem dL_isTold_511 : decode cL_isTold 511 = .ok (.aload_n 0, 1) := by decide +kernel
theorem dL_isTold_512 : decode cL_isTold 512 = .ok (.iconst 2, 1) := by decide +kernel
theorem dL_isTold_513 : decode cL_isTold 513 = .ok (.iconst 4, 1) := by decide +kernel
theorem dL_isTold_514 : decode cL_isTold 514 = .ok (.invokestatic 156, 3) := by decide +kernel
theorem dL_isTold_517 : decode cL_isTold 517 = .ok (.lconst 0, 1) := by decide +kernel
theorem dL_isTold_518 : decode cL_isTold 518 = .ok (.lcmp, 1) := by decide +kernel
theorem dL_isTold_519 : decode cL_isTold 519 = .ok (.ifCond .ne 44, 3) := by decide +kernel
theorem dL_isTold_522 : decode cL_isTold 522 = .ok (.aload_n 0, 1) := by decide +kernel
theorem dL_isTold_523 : decode cL_isTold 523 = .ok (.iconst 4, 1) := by decide +kernel
theorem dL_isTold_524 : decode cL_isTold 524 = .ok (.sipush 401, 3) := by decide +kernel
theorem dL_isTold_527 : decode cL_isTold 527 = .ok (.invokestatic 162, 3) := by decide +kernel
theorem dL_isTold_530 : decode cL_isTold 530 = .ok (.ldc 16, 2) := by decide +kernel
theorem dL_isTold_532 : decode cL_isTold 532 = .ok (.if_icmp .ne 31, 3) := by decide +kernel
theorem dL_isTold_535 : decode cL_isTold 535 = .ok (.aload_n 0, 1) := by decide +kernel
theorem dL_isTold_536 : decode cL_isTold 536 = .ok (.iconst 0, 1) := by decide +kernel
theorem dL_isTold_537 : decode cL_isTold 537 = .ok (.sipush 401, 3) := by decide +kernel
theorem dL_isTold_540 : decode cL_isTold 540 = .ok (.invokestatic 162, 3) := by decide +kernel
theorem dL_isTold_543 : decode cL_isTold 543 = .ok (.ldc 19, 2) := by decide +kernel
theorem dL_isTold_545 : decode cL_isTold 545 = .ok (.if_icmp .ne 18, 3) := by decide +kernel
theorem dL_isTold_548 : decode cL_isTold 548 = .ok (.aload_n 0, 1) := by decide +kernel
theorem dL_isTold_549 : decode cL_isTold 549 = .ok (.iconst 0, 1) := by decide +kernel
theorem dL_isTold_550 : decode cL_isTold 550 = .ok (.iconst (-1), 1) := by decide +kernel
theorem dL_isTold_551 : decode cL_isTold 551 = .ok (.invokestatic 162, 3) := by decide +kernel
theorem dL_isTold_554 : decode cL_isTold 554 = .ok (.ldc 19, 2) := by decide +kernel
theorem dL_isTold_556 : decode cL_isTold 556 = .ok (.if_icmp .ne 7, 3) := by decide +kernel
theorem dL_isTold_559 : decode cL_isTold 559 = .ok (.iconst 1, 1) := by decide +kernel
theorem dL_isTold_560 : decode cL_isTold 560 = .ok (.goto 4, 3) := by decide +kernel
theorem dL_isTold_563 : decode cL_isTold 563 = .ok (.iconst 0, 1) := by decide +kernel
theorem dL_isTold_564 : decode cL_isTold 564 = .ok (.ireturn, 1) := by decide +kernel
set_option maxRecDepth 20000 in
theorem ggL_law_X5_init : GoodIn wsL_law wsX5_init := goodIn_r _ [8, 9, 10, 11, 12, 13, 14, 15, 16, 17, 18, 19, 20, 21, 22, 23, 24, 25, 26, 27, 28, 29, 30, 31, 32, 33, 34, 35, 36, 37, 38, 39, 40, 41, 42, 43, 44, 45, 46, 47, 48, 49, 4, 50, 390, 391, 385, 386, 387, 388, 389, 392, 393, 394, 395, 396, 397, 398] (by decide +kernel) (by decide +kernel)
set_option maxRecDepth 20000 in
theorem gL_law_X5_init : GoodIn wsL_law (wsX5_init) := ggL_law_X5_init
set_option maxRecDepth 20000 in
theorem ggL_law_L_isTold : GoodIn wsL_law wsL_isTold := goodIn_ca (goodIn_ca (goodIn_r _ [54, 55, 56, 57, 58, 59, 60, 53, 61, 62, 63, 64, 65, 66, 67, 68, 69, 70, 71, 72, 73, 74, 75, 76, 77, 78, 2, 79, 80, 81, 82, 83, 84, 85, 25, 86, 87, 88, 89, 90, 91, 92, 93, 94, 95, 96, 97, 98, 99, 100, 15, 101, 102, 103, 104, 105, 106, 107, 108, 109, 110, 111, 112, 113, 114, 19, 115, 35, 116, 117, 118, 119, 120, 121, 122, 123, 124, 125, 126, 127, 128, 129, 130, 131, 132, 133, 134, 135, 136, 137, 138, 139, 140, 141, 142, 143, 144, 145, 21, 146, 147, 148, 149, 150, 151, 152, 153, 154, 155, 156, 157, 158, 159, 160, 161, 162, 163, 164, 165, 166, 167, 168, 169, 170, 171, 172, 173, 174, 175, 176, 177, 178, 179, 45, 180, 50, 181, 182, 183, 184, 185, 186, 187, 188, 189, 190, 23, 191, 192, 193, 194, 195, 43, 196, 197, 198, 199, 200, 201, 202, 203, 204, 205, 206, 207, 208, 209, 210, 17, 211, 212, 213, 214, 215, 216, 217, 218, 219, 220, 221, 222, 14, 223, 224, 225, 226, 227, 228, 30, 229, 230, 231, 399, 400, 401, 402, 403, 404, 405, 385, 386, 387, 388, 389, 390, 391, 392, 393, 394, 395, 396, 397, 398] rfl (by decide +kernel)) (goodIn_sub (fun _ h => List.mem_append_left _ (List.mem_append_left _ (List.mem_append_right _ h))) (by decide +kernel))) (goodIn_sub (fun _ h => List.mem_append_left _ (List.mem_append_right _ h)) (by decide +kernel))
set_option maxRecDepth 20000 in
theorem gL_law_L_isTold : GoodIn wsL_law (va_wsS RL 168 yL_isTold wsL_isTold) := goodIn_app (goodIn_of _ (by decide +kernel)) ggL_law_L_isTold
set_option maxRecDepth 20000 in
theorem ggL_law_L_cell : GoodIn wsL_law wsL_cell := goodIn_r _ [234, 235] (by decide +kernel) (by decide +kernel)
set_option maxRecDepth 20000 in
theorem gL_law_L_cell : GoodIn wsL_law (va_wsS RL 172 yL_cell wsL_cell) := goodIn_app (goodIn_of _ (by decide +kernel)) ggL_law_L_cell
set_option maxRecDepth 20000 in
theorem ggL_law_L_low : GoodIn wsL_law wsL_low := goodIn_r _ [199] (by decide +kernel) (by decide +kernel)
set_option maxRecDepth 20000 in
theorem gL_law_L_low : GoodIn wsL_law (va_wsS RL 99 yL_low wsL_low) := goodIn_app (goodIn_of _ (by decide +kernel)) ggL_law_L_low
set_option maxRecDepth 20000 in
theorem ggL_law_L_markets : GoodIn wsL_law wsL_markets := goodIn_ca (goodIn_ca (goodIn_ca (goodIn_r _ [238, 239, 55, 58, 240, 241, 242, 243, 197, 198, 53, 199, 244, 245, 246, 75, 167, 247, 248, 249, 2, 250, 251, 207, 208, 209, 210, 84, 85, 17, 86, 87, 88, 172, 173, 174, 175, 176, 252, 253, 254, 255, 256, 257, 258, 259, 260, 261, 262, 263, 264, 265, 266, 142, 143, 144, 145, 21, 267, 268, 269, 270, 271, 272, 273, 274, 275, 276, 15, 277, 278, 279, 14, 280, 30, 212, 213, 214, 215, 392, 393, 394, 385, 386, 387, 388, 389, 395, 396, 397, 390, 391] rfl (by decide +kernel)) (goodIn_sub (fun _ h => List.mem_append_left _ (List.mem_append_left _ (List.mem_append_right _ h))) (by decide +kernel))) (goodIn_sub (fun _ h => List.mem_append_left _ (List.mem_append_right _ h)) (by decide +kernel))) (goodIn_sub (fun _ h => List.mem_append_right _ h) (by decide +kernel))
set_option maxRecDepth 20000 in
theorem gL_law_L_markets : GoodIn wsL_law (va_wsS RL 176 yL_markets wsL_markets) := goodIn_app (goodIn_of _ (by decide +kernel)) ggL_law_L_markets
set_option maxRecDepth 20000 in
theorem ggL_law_L_deals : GoodIn wsL_law wsL_deals := goodIn_ca (goodIn_ca (goodIn_ca (goodIn_r _ [283, 5, 55, 58, 284, 243, 56, 285, 197, 198, 53, 199, 286, 287, 288, 75, 167, 270, 289, 290, 291, 2, 292, 275, 276, 293, 294, 25, 15, 24, 295, 104, 142, 143, 144, 145, 84, 85, 21, 86, 87, 88, 207, 208, 209, 210, 17, 172, 173, 174, 175, 176, 211, 113, 114, 19, 115, 35, 116, 117, 118, 119, 120, 121, 122, 123, 124, 296, 297, 298, 299, 10, 11, 300, 110, 131, 129, 130, 301, 111, 302, 303, 304, 305, 146, 147, 148, 149, 150, 151, 152, 153, 154, 106, 107, 108, 109, 112, 125, 126, 127, 128, 132, 133, 134, 155, 156, 157, 158, 159, 160, 62, 63, 64, 161, 162, 163, 59, 60, 61, 65, 66, 67, 68, 69, 70, 71, 306, 307, 308, 309, 310, 311, 312, 80, 81, 82, 83, 313, 314, 315, 316, 317, 318, 220, 221, 222, 14, 223, 224, 225, 226, 227, 228, 30, 319, 320, 321, 23, 322, 43, 42, 44, 45, 47, 48, 49, 4, 50, 323, 324, 325, 326, 327, 328, 329, 330, 331, 332, 333, 334, 335, 336, 337, 338, 339, 340, 101, 102, 103, 105, 341, 342, 343, 344, 345, 346, 347, 348, 349, 350, 351, 352, 353, 354, 355, 356, 229, 230, 231, 385, 386, 387, 388, 389, 390, 391, 399, 400, 401, 402, 403, 404, 405, 395, 396, 397, 392, 393, 394, 398] rfl (by decide +kernel)) (goodIn_sub (fun _ h => List.mem_append_right _ h) (by decide +kernel))) (goodIn_sub (fun _ h => List.mem_append_left _ (List.mem_append_left _ (List.mem_append_right _ h))) (by decide +kernel))) (goodIn_sub (fun _ h => List.mem_append_left _ (List.mem_append_right _ h)) (by decide +kernel))
set_option maxRecDepth 20000 in
theorem gL_law_L_deals : GoodIn wsL_law (va_wsS RL 180 yL_deals wsL_deals) := goodIn_app (goodIn_of _ (by decide +kernel)) ggL_law_L_deals
set_option maxRecDepth 20000 in
theorem ggL_law_L_passes : GoodIn wsL_law wsL_passes := goodIn_ca (goodIn_ca (goodIn_r _ [359, 58, 243, 360, 361, 53, 362, 167, 270, 363, 364, 365, 2, 366, 275, 276, 15, 172, 173, 174, 175, 176, 367, 368, 369, 370, 25, 337, 338, 339, 340, 101, 102, 103, 104, 105, 106, 107, 108, 109, 110, 111, 112, 113, 114, 19, 115, 35, 116, 117, 118, 119, 120, 121, 122, 123, 124, 125, 126, 127, 128, 129, 130, 131, 132, 133, 134, 220, 221, 222, 14, 223, 224, 225, 226, 227, 228, 30, 87, 88, 319, 320, 321, 23, 322, 43, 42, 44, 45, 47, 48, 49, 10, 11, 4, 50, 323, 324, 325, 326, 371, 372, 373, 374, 21, 375, 376, 377, 378, 46, 192, 193, 194, 195, 379, 380, 381, 382, 383, 178, 179, 180, 384, 65, 66, 67, 68, 69, 70, 71, 354, 355, 356, 229, 230, 231, 385, 386, 387, 388, 389, 390, 391, 399, 400, 401, 402, 403, 404, 405, 392, 393, 394, 395, 396, 397, 398] rfl (by decide +kernel)) (goodIn_sub (fun _ h => List.mem_append_right _ h) (by decide +kernel))) (goodIn_sub (fun _ h => List.mem_append_left _ (List.mem_append_right _ h)) (by decide +kernel))
set_option maxRecDepth 20000 in
theorem gL_law_L_passes : GoodIn wsL_law (va_wsS RL 184 yL_passes wsL_passes) := goodIn_app (goodIn_of _ (by decide +kernel)) ggL_law_L_passes
