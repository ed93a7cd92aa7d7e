/-! the law, decoded (0) -/
theorem d_Law_law_0 : decode code 0 = .ok (.new 14, 3) := by decide +kernel
theorem d_Law_law_3 : decode code 3 = .ok (.dup, 1) := by decide +kernel
theorem d_Law_law_4 : decode code 4 = .ok (.invokespecial 130, 3) := by decide +kernel
theorem d_Law_law_7 : decode code 7 = .ok (.astore_n 1, 1) := by decide +kernel
theorem d_Law_law_8 : decode code 8 = .ok (.aload_n 1, 1) := by decide +kernel
theorem d_Law_law_9 : decode code 9 = .ok (.aload_n 0, 1) := by decide +kernel
theorem d_Law_law_10 : decode code 10 = .ok (.invokestatic 131, 3) := by decide +kernel
theorem d_Law_law_13 : decode code 13 = .ok (.iconst 0, 1) := by decide +kernel
theorem d_Law_law_14 : decode code 14 = .ok (.istore_n 2, 1) := by decide +kernel
theorem d_Law_law_15 : decode code 15 = .ok (.iload_n 2, 1) := by decide +kernel
theorem d_Law_law_16 : decode code 16 = .ok (.iconst 3, 1) := by decide +kernel
theorem d_Law_law_17 : decode code 17 = .ok (.if_icmp .ge 1590, 3) := by decide +kernel
theorem d_Law_law_20 : decode code 20 = .ok (.iconst 0, 1) := by decide +kernel
theorem d_Law_law_21 : decode code 21 = .ok (.istore_n 3, 1) := by decide +kernel
theorem d_Law_law_22 : decode code 22 = .ok (.iconst 0, 1) := by decide +kernel
theorem d_Law_law_23 : decode code 23 = .ok (.istore 4, 2) := by decide +kernel
theorem d_Law_law_25 : decode code 25 = .ok (.iconst 0, 1) := by decide +kernel
theorem d_Law_law_26 : decode code 26 = .ok (.istore 5, 2) := by decide +kernel
theorem d_Law_law_28 : decode code 28 = .ok (.aload_n 1, 1) := by decide +kernel
theorem d_Law_law_29 : decode code 29 = .ok (.invokevirtual 95, 3) := by decide +kernel
theorem d_Law_law_32 : decode code 32 = .ok (.istore 6, 2) := by decide +kernel
theorem d_Law_law_34 : decode code 34 = .ok (.bipush 8, 2) := by decide +kernel
theorem d_Law_law_36 : decode code 36 = .ok (.anewarray 120, 3) := by decide +kernel
theorem d_Law_law_39 : decode code 39 = .ok (.astore 7, 2) := by decide +kernel
theorem d_Law_law_41 : decode code 41 = .ok (.iconst 0, 1) := by decide +kernel
theorem d_Law_law_42 : decode code 42 = .ok (.istore 8, 2) := by decide +kernel
theorem d_Law_law_44 : decode code 44 = .ok (.iload 8, 2) := by decide +kernel
theorem d_Law_law_46 : decode code 46 = .ok (.bipush 8, 2) := by decide +kernel
theorem d_Law_law_48 : decode code 48 = .ok (.if_icmp .ge 180, 3) := by decide +kernel
theorem d_Law_law_51 : decode code 51 = .ok (.iload 8, 2) := by decide +kernel
theorem d_Law_law_53 : decode code 53 = .ok (.invokestatic 75, 3) := by decide +kernel
theorem d_Law_law_56 : decode code 56 = .ok (.istore 9, 2) := by decide +kernel
theorem d_Law_law_58 : decode code 58 = .ok (.aload_n 1, 1) := by decide +kernel
theorem d_Law_law_59 : decode code 59 = .ok (.iload 9, 2) := by decide +kernel
theorem d_Law_law_61 : decode code 61 = .ok (.invokevirtual 135, 3) := by decide +kernel
theorem d_Law_law_64 : decode code 64 = .ok (.istore 10, 2) := by decide +kernel
theorem d_Law_law_66 : decode code 66 = .ok (.aload_n 1, 1) := by decide +kernel
theorem d_Law_law_67 : decode code 67 = .ok (.iload 9, 2) := by decide +kernel
theorem d_Law_law_69 : decode code 69 = .ok (.invokevirtual 138, 3) := by decide +kernel
theorem d_Law_law_72 : decode code 72 = .ok (.istore 11, 2) := by decide +kernel
theorem d_Law_law_74 : decode code 74 = .ok (.ldc 141, 2) := by decide +kernel
theorem d_Law_law_76 : decode code 76 = .ok (.astore 12, 2) := by decide +kernel
theorem d_Law_law_78 : decode code 78 = .ok (.iload 10, 2) := by decide +kernel
theorem d_Law_law_80 : decode code 80 = .ok (.iconst 1, 1) := by decide +kernel
theorem d_Law_law_81 : decode code 81 = .ok (.isub, 1) := by decide +kernel
theorem d_Law_law_82 : decode code 82 = .ok (.istore 13, 2) := by decide +kernel
theorem d_Law_law_84 : decode code 84 = .ok (.iload 13, 2) := by decide +kernel
theorem d_Law_law_86 : decode code 86 = .ok (.ifCond .lt 36, 3) := by decide +kernel
theorem d_Law_law_89 : decode code 89 = .ok (.new 143, 3) := by decide +kernel
theorem d_Law_law_92 : decode code 92 = .ok (.dup, 1) := by decide +kernel
theorem d_Law_law_93 : decode code 93 = .ok (.invokespecial 145, 3) := by decide +kernel
theorem d_Law_law_96 : decode code 96 = .ok (.aload 12, 2) := by decide +kernel
theorem d_Law_law_98 : decode code 98 = .ok (.invokevirtual 146, 3) := by decide +kernel
theorem d_Law_law_101 : decode code 101 = .ok (.iload 11, 2) := by decide +kernel
theorem d_Law_law_103 : decode code 103 = .ok (.iload 13, 2) := by decide +kernel
theorem d_Law_law_105 : decode code 105 = .ok (.ishr, 1) := by decide +kernel
theorem d_Law_law_106 : decode code 106 = .ok (.iconst 1, 1) := by decide +kernel
theorem d_Law_law_107 : decode code 107 = .ok (.iand, 1) := by decide +kernel
theorem d_Law_law_108 : decode code 108 = .ok (.invokevirtual 150, 3) := by decide +kernel
theorem d_Law_law_111 : decode code 111 = .ok (.invokevirtual 153, 3) := by decide +kernel
theorem d_Law_law_114 : decode code 114 = .ok (.astore 12, 2) := by decide +kernel
theorem d_Law_law_116 : decode code 116 = .ok (.iinc 13 (-1), 3) := by decide +kernel
theorem d_Law_law_119 : decode code 119 = .ok (.goto (-35), 3) := by decide +kernel
theorem d_Law_law_122 : decode code 122 = .ok (.aload 7, 2) := by decide +kernel
theorem d_Law_law_124 : decode code 124 = .ok (.iload 8, 2) := by decide +kernel
theorem d_Law_law_126 : decode code 126 = .ok (.aload 12, 2) := by decide +kernel
theorem d_Law_law_128 : decode code 128 = .ok (.aastore, 1) := by decide +kernel
theorem d_Law_law_129 : decode code 129 = .ok (.iload 10, 2) := by decide +kernel
theorem d_Law_law_131 : decode code 131 = .ok (.iconst 1, 1) := by decide +kernel
theorem d_Law_law_132 : decode code 132 = .ok (.if_icmp .lt 56, 3) := by decide +kernel
theorem d_Law_law_135 : decode code 135 = .ok (.iload 10, 2) := by decide +kernel
theorem d_Law_law_137 : decode code 137 = .ok (.bipush 7, 2) := by decide +kernel
theorem d_Law_law_139 : decode code 139 = .ok (.if_icmp .gt 49, 3) := by decide +kernel
theorem d_Law_law_142 : decode code 142 = .ok (.iload 11, 2) := by decide +kernel
theorem d_Law_law_144 : decode code 144 = .ok (.iload 10, 2) := by decide +kernel
theorem d_Law_law_146 : decode code 146 = .ok (.ishr, 1) := by decide +kernel
theorem d_Law_law_147 : decode code 147 = .ok (.ifCond .ne 41, 3) := by decide +kernel
theorem d_Law_law_150 : decode code 150 = .ok (.aload_n 1, 1) := by decide +kernel
theorem d_Law_law_151 : decode code 151 = .ok (.aload_n 1, 1) := by decide +kernel
theorem d_Law_law_152 : decode code 152 = .ok (.iload 9, 2) := by decide +kernel
theorem d_Law_law_154 : decode code 154 = .ok (.invokevirtual 157, 3) := by decide +kernel
theorem d_Law_law_157 : decode code 157 = .ok (.new 143, 3) := by decide +kernel
theorem d_Law_law_160 : decode code 160 = .ok (.dup, 1) := by decide +kernel
theorem d_Law_law_161 : decode code 161 = .ok (.invokespecial 145, 3) := by decide +kernel
theorem d_Law_law_164 : decode code 164 = .ok (.iload 9, 2) := by decide +kernel
theorem d_Law_law_166 : decode code 166 = .ok (.invokevirtual 160, 3) := by decide +kernel
theorem d_Law_law_169 : decode code 169 = .ok (.ldc 163, 2) := by decide +kernel
theorem d_Law_law_171 : decode code 171 = .ok (.invokevirtual 146, 3) := by decide +kernel
theorem d_Law_law_174 : decode code 174 = .ok (.aload 12, 2) := by decide +kernel
theorem d_Law_law_176 : decode code 176 = .ok (.invokevirtual 146, 3) := by decide +kernel
theorem d_Law_law_179 : decode code 179 = .ok (.invokevirtual 153, 3) := by decide +kernel
theorem d_Law_law_182 : decode code 182 = .ok (.invokestatic 165, 3) := by decide +kernel
theorem d_Law_law_185 : decode code 185 = .ok (.ifCond .ne 5, 3) := by decide +kernel
theorem d_Law_law_188 : decode code 188 = .ok (.iconst 0, 1) := by decide +kernel
theorem d_Law_law_189 : decode code 189 = .ok (.ireturn, 1) := by decide +kernel
theorem d_Law_law_190 : decode code 190 = .ok (.iload_n 3, 1) := by decide +kernel
theorem d_Law_law_191 : decode code 191 = .ok (.aload_n 1, 1) := by decide +kernel
theorem d_Law_law_192 : decode code 192 = .ok (.iload 9, 2) := by decide +kernel
theorem d_Law_law_194 : decode code 194 = .ok (.invokevirtual 169, 3) := by decide +kernel
theorem d_Law_law_197 : decode code 197 = .ok (.iload 10, 2) := by decide +kernel
theorem d_Law_law_199 : decode code 199 = .ok (.imul, 1) := by decide +kernel
theorem d_Law_law_200 : decode code 200 = .ok (.iadd, 1) := by decide +kernel
theorem d_Law_law_201 : decode code 201 = .ok (.istore_n 3, 1) := by decide +kernel
theorem d_Law_law_202 : decode code 202 = .ok (.iload 4, 2) := by decide +kernel
theorem d_Law_law_204 : decode code 204 = .ok (.aload_n 1, 1) := by decide +kernel
theorem d_Law_law_205 : decode code 205 = .ok (.iload 9, 2) := by decide +kernel
theorem d_Law_law_207 : decode code 207 = .ok (.invokevirtual 169, 3) := by decide +kernel
theorem d_Law_law_210 : decode code 210 = .ok (.iadd, 1) := by decide +kernel
theorem d_Law_law_211 : decode code 211 = .ok (.istore 4, 2) := by decide +kernel
theorem d_Law_law_213 : decode code 213 = .ok (.iload 5, 2) := by decide +kernel
theorem d_Law_law_215 : decode code 215 = .ok (.iload 10, 2) := by decide +kernel
theorem d_Law_law_217 : decode code 217 = .ok (.invokestatic 172, 3) := by decide +kernel
theorem d_Law_law_220 : decode code 220 = .ok (.istore 5, 2) := by decide +kernel
theorem d_Law_law_222 : decode code 222 = .ok (.iinc 8 1, 3) := by decide +kernel
theorem d_Law_law_225 : decode code 225 = .ok (.goto (-181), 3) := by decide +kernel
theorem d_Law_law_228 : decode code 228 = .ok (.iconst 0, 1) := by decide +kernel
theorem d_Law_law_229 : decode code 229 = .ok (.istore 8, 2) := by decide +kernel
theorem d_Law_law_231 : decode code 231 = .ok (.iload 8, 2) := by decide +kernel
theorem d_Law_law_233 : decode code 233 = .ok (.bipush 8, 2) := by decide +kernel
theorem d_Law_law_235 : decode code 235 = .ok (.if_icmp .ge 170, 3) := by decide +kernel
theorem d_Law_law_238 : decode code 238 = .ok (.iconst 0, 1) := by decide +kernel
theorem d_Law_law_239 : decode code 239 = .ok (.istore 9, 2) := by decide +kernel
theorem d_Law_law_241 : decode code 241 = .ok (.iload 9, 2) := by decide +kernel
theorem d_Law_law_243 : decode code 243 = .ok (.bipush 8, 2) := by decide +kernel
theorem d_Law_law_245 : decode code 245 = .ok (.if_icmp .ge 74, 3) := by decide +kernel
theorem d_Law_law_248 : decode code 248 = .ok (.iload 9, 2) := by decide +kernel
theorem d_Law_law_250 : decode code 250 = .ok (.iload 8, 2) := by decide +kernel
theorem d_Law_law_252 : decode code 252 = .ok (.if_icmp .eq 61, 3) := by decide +kernel
theorem d_Law_law_255 : decode code 255 = .ok (.aload 7, 2) := by decide +kernel
theorem d_Law_law_257 : decode code 257 = .ok (.iload 9, 2) := by decide +kernel
theorem d_Law_law_259 : decode code 259 = .ok (.aaload, 1) := by decide +kernel
theorem d_Law_law_260 : decode code 260 = .ok (.aload 7, 2) := by decide +kernel
theorem d_Law_law_262 : decode code 262 = .ok (.iload 8, 2) := by decide +kernel
theorem d_Law_law_264 : decode code 264 = .ok (.aaload, 1) := by decide +kernel
theorem d_Law_law_265 : decode code 265 = .ok (.invokevirtual 177, 3) := by decide +kernel
theorem d_Law_law_268 : decode code 268 = .ok (.ifCond .ne 43, 3) := by decide +kernel
theorem d_Law_law_271 : decode code 271 = .ok (.aload_n 1, 1) := by decide +kernel
theorem d_Law_law_272 : decode code 272 = .ok (.iload 8, 2) := by decide +kernel
theorem d_Law_law_274 : decode code 274 = .ok (.invokestatic 75, 3) := by decide +kernel
theorem d_Law_law_277 : decode code 277 = .ok (.invokevirtual 169, 3) := by decide +kernel
theorem d_Law_law_280 : decode code 280 = .ok (.aload_n 1, 1) := by decide +kernel
theorem d_Law_law_281 : decode code 281 = .ok (.iload 9, 2) := by decide +kernel
theorem d_Law_law_283 : decode code 283 = .ok (.invokestatic 75, 3) := by decide +kernel
theorem d_Law_law_286 : decode code 286 = .ok (.invokevirtual 169, 3) := by decide +kernel
theorem d_Law_law_289 : decode code 289 = .ok (.if_icmp .le 24, 3) := by decide +kernel
theorem d_Law_law_292 : decode code 292 = .ok (.aload 7, 2) := by decide +kernel
theorem d_Law_law_294 : decode code 294 = .ok (.iload 8, 2) := by decide +kernel
theorem d_Law_law_296 : decode code 296 = .ok (.aaload, 1) := by decide +kernel
theorem d_Law_law_297 : decode code 297 = .ok (.invokevirtual 119, 3) := by decide +kernel
theorem d_Law_law_300 : decode code 300 = .ok (.aload 7, 2) := by decide +kernel
theorem d_Law_law_302 : decode code 302 = .ok (.iload 9, 2) := by decide +kernel
theorem d_Law_law_304 : decode code 304 = .ok (.aaload, 1) := by decide +kernel
theorem d_Law_law_305 : decode code 305 = .ok (.invokevirtual 119, 3) := by decide +kernel
theorem d_Law_law_308 : decode code 308 = .ok (.if_icmp .le 5, 3) := by decide +kernel
theorem d_Law_law_311 : decode code 311 = .ok (.iconst 0, 1) := by decide +kernel
theorem d_Law_law_312 : decode code 312 = .ok (.ireturn, 1) := by decide +kernel
theorem d_Law_law_313 : decode code 313 = .ok (.iinc 9 1, 3) := by decide +kernel
theorem d_Law_law_316 : decode code 316 = .ok (.goto (-75), 3) := by decide +kernel
theorem d_Law_law_319 : decode code 319 = .ok (.iload 8, 2) := by decide +kernel
theorem d_Law_law_321 : decode code 321 = .ok (.ifCond .ne 6, 3) := by decide +kernel
theorem d_Law_law_324 : decode code 324 = .ok (.goto 75, 3) := by decide +kernel
theorem d_Law_law_327 : decode code 327 = .ok (.aload_n 1, 1) := by decide +kernel
theorem d_Law_law_328 : decode code 328 = .ok (.iload 8, 2) := by decide +kernel
theorem d_Law_law_330 : decode code 330 = .ok (.iconst 1, 1) := by decide +kernel
theorem d_Law_law_331 : decode code 331 = .ok (.isub, 1) := by decide +kernel
theorem d_Law_law_332 : decode code 332 = .ok (.invokevirtual 181, 3) := by decide +kernel
theorem d_Law_law_335 : decode code 335 = .ok (.istore 9, 2) := by decide +kernel
theorem d_Law_law_337 : decode code 337 = .ok (.aload_n 1, 1) := by decide +kernel
theorem d_Law_law_338 : decode code 338 = .ok (.iload 8, 2) := by decide +kernel
theorem d_Law_law_340 : decode code 340 = .ok (.invokevirtual 181, 3) := by decide +kernel
theorem d_Law_law_343 : decode code 343 = .ok (.istore 10, 2) := by decide +kernel
theorem d_Law_law_345 : decode code 345 = .ok (.aload_n 1, 1) := by decide +kernel
theorem d_Law_law_346 : decode code 346 = .ok (.iload 10, 2) := by decide +kernel
theorem d_Law_law_348 : decode code 348 = .ok (.invokevirtual 135, 3) := by decide +kernel
theorem d_Law_law_351 : decode code 351 = .ok (.aload_n 1, 1) := by decide +kernel
theorem d_Law_law_352 : decode code 352 = .ok (.iload 9, 2) := by decide +kernel
theorem d_Law_law_354 : decode code 354 = .ok (.invokevirtual 135, 3) := by decide +kernel
theorem d_Law_law_357 : decode code 357 = .ok (.isub, 1) := by decide +kernel
theorem d_Law_law_358 : decode code 358 = .ok (.istore 11, 2) := by decide +kernel
theorem d_Law_law_360 : decode code 360 = .ok (.iload 11, 2) := by decide +kernel
theorem d_Law_law_362 : decode code 362 = .ok (.ifCond .lt 35, 3) := by decide +kernel
theorem d_Law_law_365 : decode code 365 = .ok (.iload 11, 2) := by decide +kernel
theorem d_Law_law_367 : decode code 367 = .ok (.ifCond .ne 10, 3) := by decide +kernel
theorem d_Law_law_370 : decode code 370 = .ok (.iload 9, 2) := by decide +kernel
theorem d_Law_law_372 : decode code 372 = .ok (.iload 10, 2) := by decide +kernel
theorem d_Law_law_374 : decode code 374 = .ok (.if_icmp .gt 23, 3) := by decide +kernel
theorem d_Law_law_377 : decode code 377 = .ok (.aload_n 1, 1) := by decide +kernel
theorem d_Law_law_378 : decode code 378 = .ok (.iload 10, 2) := by decide +kernel
theorem d_Law_law_380 : decode code 380 = .ok (.invokevirtual 138, 3) := by decide +kernel
theorem d_Law_law_383 : decode code 383 = .ok (.aload_n 1, 1) := by decide +kernel
theorem d_Law_law_384 : decode code 384 = .ok (.iload 9, 2) := by decide +kernel
theorem d_Law_law_386 : decode code 386 = .ok (.invokevirtual 138, 3) := by decide +kernel
theorem d_Law_law_389 : decode code 389 = .ok (.iconst 1, 1) := by decide +kernel
theorem d_Law_law_390 : decode code 390 = .ok (.iadd, 1) := by decide +kernel
theorem d_Law_law_391 : decode code 391 = .ok (.iload 11, 2) := by decide +kernel
theorem d_Law_law_393 : decode code 393 = .ok (.ishl, 1) := by decide +kernel
theorem d_Law_law_394 : decode code 394 = .ok (.if_icmp .eq 5, 3) := by decide +kernel
theorem d_Law_law_397 : decode code 397 = .ok (.iconst 0, 1) := by decide +kernel
theorem d_Law_law_398 : decode code 398 = .ok (.ireturn, 1) := by decide +kernel
theorem d_Law_law_399 : decode code 399 = .ok (.iinc 8 1, 3) := by decide +kernel
theorem d_Law_law_402 : decode code 402 = .ok (.goto (-171), 3) := by decide +kernel
theorem d_Law_law_405 : decode code 405 = .ok (.aload_n 1, 1) := by decide +kernel
theorem d_Law_law_406 : decode code 406 = .ok (.aload_n 1, 1) := by decide +kernel
