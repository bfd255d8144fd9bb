theorem dL_adds_104 : decode cL_adds 104 = .ok (.iconst 0, 1) := by decide +kernel
theorem dL_adds_105 : decode cL_adds 105 = .ok (.istore_n 3, 1) := by decide +kernel
theorem dL_adds_106 : decode cL_adds 106 = .ok (.iload 5, 2) := by decide +kernel
theorem dL_adds_108 : decode cL_adds 108 = .ok (.istore 4, 2) := by decide +kernel
theorem dL_adds_110 : decode cL_adds 110 = .ok (.iinc 5 1, 3) := by decide +kernel
theorem dL_adds_113 : decode cL_adds 113 = .ok (.goto (-64), 3) := by decide +kernel
theorem dL_adds_116 : decode cL_adds 116 = .ok (.iload_n 3, 1) := by decide +kernel
theorem dL_adds_117 : decode cL_adds 117 = .ok (.ifCond .eq 30, 3) := by decide +kernel
theorem dL_adds_120 : decode cL_adds 120 = .ok (.aload_n 0, 1) := by decide +kernel
theorem dL_adds_121 : decode cL_adds 121 = .ok (.invokestatic 86, 3) := by decide +kernel
theorem dL_adds_124 : decode cL_adds 124 = .ok (.ifCond .eq 23, 3) := by decide +kernel
theorem dL_adds_127 : decode cL_adds 127 = .ok (.aload_n 0, 1) := by decide +kernel
theorem dL_adds_128 : decode cL_adds 128 = .ok (.iload 4, 2) := by decide +kernel
theorem dL_adds_130 : decode cL_adds 130 = .ok (.invokestatic 97, 3) := by decide +kernel
theorem dL_adds_133 : decode cL_adds 133 = .ok (.ifCond .ne 14, 3) := by decide +kernel
theorem dL_adds_136 : decode cL_adds 136 = .ok (.aload_n 0, 1) := by decide +kernel
theorem dL_adds_137 : decode cL_adds 137 = .ok (.invokevirtual 79, 3) := by decide +kernel
theorem dL_adds_140 : decode cL_adds 140 = .ok (.ifCond .ne 7, 3) := by decide +kernel
theorem dL_adds_143 : decode cL_adds 143 = .ok (.iconst 1, 1) := by decide +kernel
theorem dL_adds_144 : decode cL_adds 144 = .ok (.goto 4, 3) := by decide +kernel
theorem dL_adds_147 : decode cL_adds 147 = .ok (.iconst 0, 1) := by decide +kernel
theorem dL_adds_148 : decode cL_adds 148 = .ok (.istore_n 3, 1) := by decide +kernel
theorem dL_adds_149 : decode cL_adds 149 = .ok (.iload_n 3, 1) := by decide +kernel
theorem dL_adds_150 : decode cL_adds 150 = .ok (.ireturn, 1) := by decide +kernel
theorem dL_law_0 : decode cL_law 0 = .ok (.new 10, 3) := by decide +kernel
theorem dL_law_3 : decode cL_law 3 = .ok (.dup, 1) := by decide +kernel
theorem dL_law_4 : decode cL_law 4 = .ok (.invokespecial 99, 3) := by decide +kernel
theorem dL_law_7 : decode cL_law 7 = .ok (.astore_n 1, 1) := by decide +kernel
theorem dL_law_8 : decode cL_law 8 = .ok (.bipush 12, 2) := by decide +kernel
theorem dL_law_10 : decode cL_law 10 = .ok (.newarray .int, 2) := by decide +kernel
theorem dL_law_12 : decode cL_law 12 = .ok (.astore_n 2, 1) := by decide +kernel
theorem dL_law_13 : decode cL_law 13 = .ok (.iconst 5, 1) := by decide +kernel
theorem dL_law_14 : decode cL_law 14 = .ok (.newarray .int, 2) := by decide +kernel
theorem dL_law_16 : decode cL_law 16 = .ok (.astore_n 3, 1) := by decide +kernel
theorem dL_law_17 : decode cL_law 17 = .ok (.iconst 5, 1) := by decide +kernel
theorem dL_law_18 : decode cL_law 18 = .ok (.newarray .int, 2) := by decide +kernel
theorem dL_law_20 : decode cL_law 20 = .ok (.astore 4, 2) := by decide +kernel
theorem dL_law_22 : decode cL_law 22 = .ok (.iconst 0, 1) := by decide +kernel
theorem dL_law_23 : decode cL_law 23 = .ok (.istore 5, 2) := by decide +kernel
theorem dL_law_25 : decode cL_law 25 = .ok (.iconst 0, 1) := by decide +kernel
theorem dL_law_26 : decode cL_law 26 = .ok (.istore 6, 2) := by decide +kernel
theorem dL_law_28 : decode cL_law 28 = .ok (.iconst 0, 1) := by decide +kernel
theorem dL_law_29 : decode cL_law 29 = .ok (.istore 7, 2) := by decide +kernel
theorem dL_law_31 : decode cL_law 31 = .ok (.iconst 0, 1) := by decide +kernel
theorem dL_law_32 : decode cL_law 32 = .ok (.istore 8, 2) := by decide +kernel
theorem dL_law_34 : decode cL_law 34 = .ok (.aload_n 1, 1) := by decide +kernel
theorem dL_law_35 : decode cL_law 35 = .ok (.invokestatic 86, 3) := by decide +kernel
theorem dL_law_38 : decode cL_law 38 = .ok (.ifCond .eq 14, 3) := by decide +kernel
theorem dL_law_41 : decode cL_law 41 = .ok (.aload_n 1, 1) := by decide +kernel
theorem dL_law_42 : decode cL_law 42 = .ok (.invokevirtual 79, 3) := by decide +kernel
theorem dL_law_45 : decode cL_law 45 = .ok (.ifCond .ne 7, 3) := by decide +kernel
theorem dL_law_48 : decode cL_law 48 = .ok (.iconst 1, 1) := by decide +kernel
theorem dL_law_49 : decode cL_law 49 = .ok (.goto 4, 3) := by decide +kernel
theorem dL_law_52 : decode cL_law 52 = .ok (.iconst 0, 1) := by decide +kernel
theorem dL_law_53 : decode cL_law 53 = .ok (.istore 9, 2) := by decide +kernel
theorem dL_law_55 : decode cL_law 55 = .ok (.iconst 0, 1) := by decide +kernel
theorem dL_law_56 : decode cL_law 56 = .ok (.istore 10, 2) := by decide +kernel
theorem dL_law_58 : decode cL_law 58 = .ok (.iload 10, 2) := by decide +kernel
theorem dL_law_60 : decode cL_law 60 = .ok (.bipush 50, 2) := by decide +kernel
theorem dL_law_62 : decode cL_law 62 = .ok (.if_icmp .ge 1392, 3) := by decide +kernel
theorem dL_law_65 : decode cL_law 65 = .ok (.iload 9, 2) := by decide +kernel
theorem dL_law_67 : decode cL_law 67 = .ok (.ifCond .eq 1387, 3) := by decide +kernel
theorem dL_law_70 : decode cL_law 70 = .ok (.aload_n 0, 1) := by decide +kernel
theorem dL_law_71 : decode cL_law 71 = .ok (.iload 10, 2) := by decide +kernel
theorem dL_law_73 : decode cL_law 73 = .ok (.invokestatic 100, 3) := by decide +kernel
theorem dL_law_76 : decode cL_law 76 = .ok (.istore 11, 2) := by decide +kernel
theorem dL_law_78 : decode cL_law 78 = .ok (.iload 11, 2) := by decide +kernel
theorem dL_law_80 : decode cL_law 80 = .ok (.bipush 16, 2) := by decide +kernel
theorem dL_law_82 : decode cL_law 82 = .ok (.idiv, 1) := by decide +kernel
theorem dL_law_83 : decode cL_law 83 = .ok (.istore 12, 2) := by decide +kernel
theorem dL_law_85 : decode cL_law 85 = .ok (.iload 11, 2) := by decide +kernel
theorem dL_law_87 : decode cL_law 87 = .ok (.bipush 16, 2) := by decide +kernel
theorem dL_law_89 : decode cL_law 89 = .ok (.irem, 1) := by decide +kernel
theorem dL_law_90 : decode cL_law 90 = .ok (.istore 13, 2) := by decide +kernel
theorem dL_law_92 : decode cL_law 92 = .ok (.iload 5, 2) := by decide +kernel
theorem dL_law_94 : decode cL_law 94 = .ok (.ifCond .ne 7, 3) := by decide +kernel
theorem dL_law_97 : decode cL_law 97 = .ok (.iconst 0, 1) := by decide +kernel
theorem dL_law_98 : decode cL_law 98 = .ok (.goto 8, 3) := by decide +kernel
theorem dL_law_101 : decode cL_law 101 = .ok (.iload 12, 2) := by decide +kernel
theorem dL_law_103 : decode cL_law 103 = .ok (.iload 5, 2) := by decide +kernel
theorem dL_law_105 : decode cL_law 105 = .ok (.irem, 1) := by decide +kernel
theorem dL_law_106 : decode cL_law 106 = .ok (.istore 14, 2) := by decide +kernel
theorem dL_law_108 : decode cL_law 108 = .ok (.iload 13, 2) := by decide +kernel
theorem dL_law_110 : decode cL_law 110 = .ok (.iconst 4, 1) := by decide +kernel
theorem dL_law_111 : decode cL_law 111 = .ok (.if_icmp .lt 9, 3) := by decide +kernel
theorem dL_law_114 : decode cL_law 114 = .ok (.iload 5, 2) := by decide +kernel
theorem dL_law_116 : decode cL_law 116 = .ok (.iconst 2, 1) := by decide +kernel
theorem dL_law_117 : decode cL_law 117 = .ok (.if_icmp .ge 115, 3) := by decide +kernel
theorem dL_law_120 : decode cL_law 120 = .ok (.iconst 1, 1) := by decide +kernel
theorem dL_law_121 : decode cL_law 121 = .ok (.iload 12, 2) := by decide +kernel
theorem dL_law_123 : decode cL_law 123 = .ok (.sipush 2000, 3) := by decide +kernel
theorem dL_law_126 : decode cL_law 126 = .ok (.irem, 1) := by decide +kernel
theorem dL_law_127 : decode cL_law 127 = .ok (.iadd, 1) := by decide +kernel
theorem dL_law_128 : decode cL_law 128 = .ok (.istore 15, 2) := by decide +kernel
theorem dL_law_130 : decode cL_law 130 = .ok (.sipush 300, 3) := by decide +kernel
theorem dL_law_133 : decode cL_law 133 = .ok (.iload 12, 2) := by decide +kernel
theorem dL_law_135 : decode cL_law 135 = .ok (.bipush 11, 2) := by decide +kernel
theorem dL_law_137 : decode cL_law 137 = .ok (.idiv, 1) := by decide +kernel
theorem dL_law_138 : decode cL_law 138 = .ok (.sipush 300, 3) := by decide +kernel
theorem dL_law_141 : decode cL_law 141 = .ok (.irem, 1) := by decide +kernel
theorem dL_law_142 : decode cL_law 142 = .ok (.iadd, 1) := by decide +kernel
theorem dL_law_143 : decode cL_law 143 = .ok (.istore 16, 2) := by decide +kernel
theorem dL_law_145 : decode cL_law 145 = .ok (.aload_n 1, 1) := by decide +kernel
theorem dL_law_146 : decode cL_law 146 = .ok (.iload 15, 2) := by decide +kernel
theorem dL_law_148 : decode cL_law 148 = .ok (.iload 12, 2) := by decide +kernel
theorem dL_law_150 : decode cL_law 150 = .ok (.bipush 7, 2) := by decide +kernel
theorem dL_law_152 : decode cL_law 152 = .ok (.idiv, 1) := by decide +kernel
theorem dL_law_153 : decode cL_law 153 = .ok (.sipush 3000, 3) := by decide +kernel
theorem dL_law_156 : decode cL_law 156 = .ok (.irem, 1) := by decide +kernel
theorem dL_law_157 : decode cL_law 157 = .ok (.iconst 1, 1) := by decide +kernel
theorem dL_law_158 : decode cL_law 158 = .ok (.iload 12, 2) := by decide +kernel
theorem dL_law_160 : decode cL_law 160 = .ok (.iconst 3, 1) := by decide +kernel
theorem dL_law_161 : decode cL_law 161 = .ok (.idiv, 1) := by decide +kernel
theorem dL_law_162 : decode cL_law 162 = .ok (.iconst 5, 1) := by decide +kernel
theorem dL_law_163 : decode cL_law 163 = .ok (.irem, 1) := by decide +kernel
theorem dL_law_164 : decode cL_law 164 = .ok (.iadd, 1) := by decide +kernel
theorem dL_law_165 : decode cL_law 165 = .ok (.iload 16, 2) := by decide +kernel
theorem dL_law_167 : decode cL_law 167 = .ok (.invokestatic 104, 3) := by decide +kernel
theorem dL_law_170 : decode cL_law 170 = .ok (.iload 16, 2) := by decide +kernel
theorem dL_law_172 : decode cL_law 172 = .ok (.iload 8, 2) := by decide +kernel
theorem dL_law_174 : decode cL_law 174 = .ok (.if_icmp .gt 8, 3) := by decide +kernel
theorem dL_law_177 : decode cL_law 177 = .ok (.bipush (-102), 2) := by decide +kernel
theorem dL_law_179 : decode cL_law 179 = .ok (.goto 17, 3) := by decide +kernel
theorem dL_law_182 : decode cL_law 182 = .ok (.iload 5, 2) := by decide +kernel
theorem dL_law_184 : decode cL_law 184 = .ok (.bipush 12, 2) := by decide +kernel
theorem dL_law_186 : decode cL_law 186 = .ok (.if_icmp .ge 8, 3) := by decide +kernel
theorem dL_law_189 : decode cL_law 189 = .ok (.iload 5, 2) := by decide +kernel
theorem dL_law_191 : decode cL_law 191 = .ok (.goto 5, 3) := by decide +kernel
theorem dL_law_194 : decode cL_law 194 = .ok (.bipush (-103), 2) := by decide +kernel
theorem dL_law_196 : decode cL_law 196 = .ok (.if_icmp .ne 7, 3) := by decide +kernel
theorem dL_law_199 : decode cL_law 199 = .ok (.iconst 1, 1) := by decide +kernel
theorem dL_law_200 : decode cL_law 200 = .ok (.goto 4, 3) := by decide +kernel
theorem dL_law_203 : decode cL_law 203 = .ok (.iconst 0, 1) := by decide +kernel
theorem dL_law_204 : decode cL_law 204 = .ok (.istore 9, 2) := by decide +kernel
theorem dL_law_206 : decode cL_law 206 = .ok (.iload 5, 2) := by decide +kernel
theorem dL_law_208 : decode cL_law 208 = .ok (.bipush 12, 2) := by decide +kernel
theorem dL_law_210 : decode cL_law 210 = .ok (.if_icmp .ge 19, 3) := by decide +kernel
theorem dL_law_213 : decode cL_law 213 = .ok (.iload 16, 2) := by decide +kernel
theorem dL_law_215 : decode cL_law 215 = .ok (.iload 8, 2) := by decide +kernel
theorem dL_law_217 : decode cL_law 217 = .ok (.if_icmp .le 12, 3) := by decide +kernel
theorem dL_law_220 : decode cL_law 220 = .ok (.aload_n 2, 1) := by decide +kernel
theorem dL_law_221 : decode cL_law 221 = .ok (.iload 5, 2) := by decide +kernel
theorem dL_law_223 : decode cL_law 223 = .ok (.iload 15, 2) := by decide +kernel
theorem dL_law_225 : decode cL_law 225 = .ok (.iastore, 1) := by decide +kernel
theorem dL_law_226 : decode cL_law 226 = .ok (.iinc 5 1, 3) := by decide +kernel
theorem dL_law_229 : decode cL_law 229 = .ok (.goto 1008, 3) := by decide +kernel
theorem dL_law_232 : decode cL_law 232 = .ok (.iload 13, 2) := by decide +kernel
theorem dL_law_234 : decode cL_law 234 = .ok (.iconst 4, 1) := by decide +kernel
theorem dL_law_235 : decode cL_law 235 = .ok (.if_icmp .ne 120, 3) := by decide +kernel
theorem dL_law_238 : decode cL_law 238 = .ok (.sipush 260, 3) := by decide +kernel
theorem dL_law_241 : decode cL_law 241 = .ok (.iload 12, 2) := by decide +kernel
theorem dL_law_243 : decode cL_law 243 = .ok (.sipush 340, 3) := by decide +kernel
theorem dL_law_246 : decode cL_law 246 = .ok (.irem, 1) := by decide +kernel
theorem dL_law_247 : decode cL_law 247 = .ok (.iadd, 1) := by decide +kernel
theorem dL_law_248 : decode cL_law 248 = .ok (.istore 15, 2) := by decide +kernel
theorem dL_law_250 : decode cL_law 250 = .ok (.aload_n 1, 1) := by decide +kernel
theorem dL_law_251 : decode cL_law 251 = .ok (.iconst 1, 1) := by decide +kernel
theorem dL_law_252 : decode cL_law 252 = .ok (.iload 12, 2) := by decide +kernel
theorem dL_law_254 : decode cL_law 254 = .ok (.sipush 340, 3) := by decide +kernel
theorem dL_law_257 : decode cL_law 257 = .ok (.idiv, 1) := by decide +kernel
theorem dL_law_258 : decode cL_law 258 = .ok (.sipush 2500, 3) := by decide +kernel
theorem dL_law_261 : decode cL_law 261 = .ok (.irem, 1) := by decide +kernel
theorem dL_law_262 : decode cL_law 262 = .ok (.iadd, 1) := by decide +kernel
theorem dL_law_263 : decode cL_law 263 = .ok (.iload 15, 2) := by decide +kernel
theorem dL_law_265 : decode cL_law 265 = .ok (.invokestatic 107, 3) := by decide +kernel
theorem dL_law_268 : decode cL_law 268 = .ok (.iload 15, 2) := by decide +kernel
theorem dL_law_270 : decode cL_law 270 = .ok (.iload 8, 2) := by decide +kernel
theorem dL_law_272 : decode cL_law 272 = .ok (.if_icmp .gt 8, 3) := by decide +kernel
theorem dL_law_275 : decode cL_law 275 = .ok (.bipush (-102), 2) := by decide +kernel
theorem dL_law_277 : decode cL_law 277 = .ok (.goto 16, 3) := by decide +kernel
theorem dL_law_280 : decode cL_law 280 = .ok (.iload 6, 2) := by decide +kernel
theorem dL_law_282 : decode cL_law 282 = .ok (.iconst 5, 1) := by decide +kernel
theorem dL_law_283 : decode cL_law 283 = .ok (.if_icmp .ge 8, 3) := by decide +kernel
theorem dL_law_286 : decode cL_law 286 = .ok (.iload 6, 2) := by decide +kernel
theorem dL_law_288 : decode cL_law 288 = .ok (.goto 5, 3) := by decide +kernel
theorem dL_law_291 : decode cL_law 291 = .ok (.bipush (-103), 2) := by decide +kernel
theorem dL_law_293 : decode cL_law 293 = .ok (.if_icmp .ne 7, 3) := by decide +kernel
theorem dL_law_296 : decode cL_law 296 = .ok (.iconst 1, 1) := by decide +kernel
theorem dL_law_297 : decode cL_law 297 = .ok (.goto 4, 3) := by decide +kernel
theorem dL_law_300 : decode cL_law 300 = .ok (.iconst 0, 1) := by decide +kernel
theorem dL_law_301 : decode cL_law 301 = .ok (.istore 9, 2) := by decide +kernel
theorem dL_law_303 : decode cL_law 303 = .ok (.iload 6, 2) := by decide +kernel
theorem dL_law_305 : decode cL_law 305 = .ok (.iconst 5, 1) := by decide +kernel
theorem dL_law_306 : decode cL_law 306 = .ok (.if_icmp .ge 46, 3) := by decide +kernel
theorem dL_law_309 : decode cL_law 309 = .ok (.iload 15, 2) := by decide +kernel
theorem dL_law_311 : decode cL_law 311 = .ok (.iload 8, 2) := by decide +kernel
theorem dL_law_313 : decode cL_law 313 = .ok (.if_icmp .le 39, 3) := by decide +kernel
theorem dL_law_316 : decode cL_law 316 = .ok (.aload 4, 2) := by decide +kernel
theorem dL_law_318 : decode cL_law 318 = .ok (.iload 6, 2) := by decide +kernel
theorem dL_law_320 : decode cL_law 320 = .ok (.iconst 1, 1) := by decide +kernel
theorem dL_law_321 : decode cL_law 321 = .ok (.iload 12, 2) := by decide +kernel
theorem dL_law_323 : decode cL_law 323 = .ok (.sipush 340, 3) := by decide +kernel
theorem dL_law_326 : decode cL_law 326 = .ok (.idiv, 1) := by decide +kernel
theorem dL_law_327 : decode cL_law 327 = .ok (.sipush 2500, 3) := by decide +kernel
theorem dL_law_330 : decode cL_law 330 = .ok (.irem, 1) := by decide +kernel
theorem dL_law_331 : decode cL_law 331 = .ok (.iadd, 1) := by decide +kernel
theorem dL_law_332 : decode cL_law 332 = .ok (.iastore, 1) := by decide +kernel
theorem dL_law_333 : decode cL_law 333 = .ok (.aload_n 3, 1) := by decide +kernel
theorem dL_law_334 : decode cL_law 334 = .ok (.iload 6, 2) := by decide +kernel
theorem dL_law_336 : decode cL_law 336 = .ok (.iload 15, 2) := by decide +kernel
theorem dL_law_338 : decode cL_law 338 = .ok (.iastore, 1) := by decide +kernel
theorem dL_law_339 : decode cL_law 339 = .ok (.iload 7, 2) := by decide +kernel
theorem dL_law_341 : decode cL_law 341 = .ok (.aload 4, 2) := by decide +kernel
theorem dL_law_343 : decode cL_law 343 = .ok (.iload 6, 2) := by decide +kernel
theorem dL_law_345 : decode cL_law 345 = .ok (.iaload, 1) := by decide +kernel
theorem dL_law_346 : decode cL_law 346 = .ok (.iadd, 1) := by decide +kernel
theorem dL_law_347 : decode cL_law 347 = .ok (.istore 7, 2) := by decide +kernel
theorem dL_law_349 : decode cL_law 349 = .ok (.iinc 6 1, 3) := by decide +kernel
theorem dL_law_352 : decode cL_law 352 = .ok (.goto 885, 3) := by decide +kernel
theorem dL_law_355 : decode cL_law 355 = .ok (.iload 13, 2) := by decide +kernel
theorem dL_law_357 : decode cL_law 357 = .ok (.bipush 8, 2) := by decide +kernel
theorem dL_law_359 : decode cL_law 359 = .ok (.if_icmp .ge 70, 3) := by decide +kernel
theorem dL_law_362 : decode cL_law 362 = .ok (.aload_n 1, 1) := by decide +kernel
theorem dL_law_363 : decode cL_law 363 = .ok (.iload 14, 2) := by decide +kernel
theorem dL_law_365 : decode cL_law 365 = .ok (.invokestatic 90, 3) := by decide +kernel
theorem dL_law_368 : decode cL_law 368 = .ok (.istore 15, 2) := by decide +kernel
theorem dL_law_370 : decode cL_law 370 = .ok (.iload 15, 2) := by decide +kernel
theorem dL_law_372 : decode cL_law 372 = .ok (.ifCond .ne 36, 3) := by decide +kernel
theorem dL_law_375 : decode cL_law 375 = .ok (.aload_n 1, 1) := by decide +kernel
theorem dL_law_376 : decode cL_law 376 = .ok (.iload 14, 2) := by decide +kernel
theorem dL_law_378 : decode cL_law 378 = .ok (.invokestatic 93, 3) := by decide +kernel
theorem dL_law_381 : decode cL_law 381 = .ok (.aload_n 1, 1) := by decide +kernel
theorem dL_law_382 : decode cL_law 382 = .ok (.iload 14, 2) := by decide +kernel
theorem dL_law_384 : decode cL_law 384 = .ok (.invokestatic 95, 3) := by decide +kernel
theorem dL_law_387 : decode cL_law 387 = .ok (.if_icmp .ne 17, 3) := by decide +kernel
theorem dL_law_390 : decode cL_law 390 = .ok (.aload_n 1, 1) := by decide +kernel
theorem dL_law_391 : decode cL_law 391 = .ok (.iload 14, 2) := by decide +kernel
theorem dL_law_393 : decode cL_law 393 = .ok (.invokestatic 90, 3) := by decide +kernel
theorem dL_law_396 : decode cL_law 396 = .ok (.iconst 1, 1) := by decide +kernel
theorem dL_law_397 : decode cL_law 397 = .ok (.if_icmp .ne 7, 3) := by decide +kernel
theorem dL_law_400 : decode cL_law 400 = .ok (.iconst 1, 1) := by decide +kernel
theorem dL_law_401 : decode cL_law 401 = .ok (.goto 23, 3) := by decide +kernel
theorem dL_law_404 : decode cL_law 404 = .ok (.iconst 0, 1) := by decide +kernel
theorem dL_law_405 : decode cL_law 405 = .ok (.goto 19, 3) := by decide +kernel
theorem dL_law_408 : decode cL_law 408 = .ok (.aload_n 1, 1) := by decide +kernel
theorem dL_law_409 : decode cL_law 409 = .ok (.iload 14, 2) := by decide +kernel
theorem dL_law_411 : decode cL_law 411 = .ok (.invokestatic 93, 3) := by decide +kernel
theorem dL_law_414 : decode cL_law 414 = .ok (.bipush (-103), 2) := by decide +kernel
theorem dL_law_416 : decode cL_law 416 = .ok (.if_icmp .ne 7, 3) := by decide +kernel
theorem dL_law_419 : decode cL_law 419 = .ok (.iconst 1, 1) := by decide +kernel
theorem dL_law_420 : decode cL_law 420 = .ok (.goto 4, 3) := by decide +kernel
theorem dL_law_423 : decode cL_law 423 = .ok (.iconst 0, 1) := by decide +kernel
theorem dL_law_424 : decode cL_law 424 = .ok (.istore 9, 2) := by decide +kernel
theorem dL_law_426 : decode cL_law 426 = .ok (.goto 811, 3) := by decide +kernel
theorem dL_law_429 : decode cL_law 429 = .ok (.iload 13, 2) := by decide +kernel
theorem dL_law_431 : decode cL_law 431 = .ok (.bipush 8, 2) := by decide +kernel
theorem dL_law_433 : decode cL_law 433 = .ok (.if_icmp .ne 81, 3) := by decide +kernel
theorem dL_law_436 : decode cL_law 436 = .ok (.aload_n 1, 1) := by decide +kernel
theorem dL_law_437 : decode cL_law 437 = .ok (.iload 14, 2) := by decide +kernel
theorem dL_law_439 : decode cL_law 439 = .ok (.invokestatic 90, 3) := by decide +kernel
theorem dL_law_442 : decode cL_law 442 = .ok (.istore 15, 2) := by decide +kernel
theorem dL_law_444 : decode cL_law 444 = .ok (.aload_n 1, 1) := by decide +kernel
theorem dL_law_445 : decode cL_law 445 = .ok (.iload 14, 2) := by decide +kernel
theorem dL_law_447 : decode cL_law 447 = .ok (.invokestatic 97, 3) := by decide +kernel
theorem dL_law_450 : decode cL_law 450 = .ok (.istore 16, 2) := by decide +kernel
