theorem dM_in_0 : decode cM_in 0 = .ok (.iload_n 0, 1) := by decide +kernel
theorem dM_in_1 : decode cM_in 1 = .ok (.iload_n 1, 1) := by decide +kernel
theorem dM_in_2 : decode cM_in 2 = .ok (.if_icmp .lt 12, 3) := by decide +kernel
theorem dM_in_5 : decode cM_in 5 = .ok (.iload_n 0, 1) := by decide +kernel
theorem dM_in_6 : decode cM_in 6 = .ok (.iload_n 2, 1) := by decide +kernel
theorem dM_in_7 : decode cM_in 7 = .ok (.if_icmp .gt 7, 3) := by decide +kernel
theorem dM_in_10 : decode cM_in 10 = .ok (.iconst 1, 1) := by decide +kernel
theorem dM_in_11 : decode cM_in 11 = .ok (.goto 4, 3) := by decide +kernel
theorem dM_in_14 : decode cM_in 14 = .ok (.iconst 0, 1) := by decide +kernel
theorem dM_in_15 : decode cM_in 15 = .ok (.ireturn, 1) := by decide +kernel
theorem dM_find_0 : decode cM_find 0 = .ok (.iload_n 2, 1) := by decide +kernel
theorem dM_find_1 : decode cM_find 1 = .ok (.ifCond .ge 8, 3) := by decide +kernel
theorem dM_find_4 : decode cM_find 4 = .ok (.ldc 68, 2) := by decide +kernel
theorem dM_find_6 : decode cM_find 6 = .ok (.goto 14, 3) := by decide +kernel
theorem dM_find_9 : decode cM_find 9 = .ok (.aload_n 0, 1) := by decide +kernel
theorem dM_find_10 : decode cM_find 10 = .ok (.getfield 13, 3) := by decide +kernel
theorem dM_find_13 : decode cM_find 13 = .ok (.bipush 24, 2) := by decide +kernel
theorem dM_find_15 : decode cM_find 15 = .ok (.iload_n 2, 1) := by decide +kernel
theorem dM_find_16 : decode cM_find 16 = .ok (.imul, 1) := by decide +kernel
theorem dM_find_17 : decode cM_find 17 = .ok (.iload_n 3, 1) := by decide +kernel
theorem dM_find_18 : decode cM_find 18 = .ok (.iadd, 1) := by decide +kernel
theorem dM_find_19 : decode cM_find 19 = .ok (.iaload, 1) := by decide +kernel
theorem dM_find_20 : decode cM_find 20 = .ok (.istore 4, 2) := by decide +kernel
theorem dM_find_22 : decode cM_find 22 = .ok (.iload_n 2, 1) := by decide +kernel
theorem dM_find_23 : decode cM_find 23 = .ok (.ifCond .lt 16, 3) := by decide +kernel
theorem dM_find_26 : decode cM_find 26 = .ok (.aload_n 0, 1) := by decide +kernel
theorem dM_find_27 : decode cM_find 27 = .ok (.getfield 13, 3) := by decide +kernel
theorem dM_find_30 : decode cM_find 30 = .ok (.bipush 24, 2) := by decide +kernel
theorem dM_find_32 : decode cM_find 32 = .ok (.iload_n 2, 1) := by decide +kernel
theorem dM_find_33 : decode cM_find 33 = .ok (.imul, 1) := by decide +kernel
theorem dM_find_34 : decode cM_find 34 = .ok (.iload_n 3, 1) := by decide +kernel
theorem dM_find_35 : decode cM_find 35 = .ok (.iadd, 1) := by decide +kernel
theorem dM_find_36 : decode cM_find 36 = .ok (.ldc 68, 2) := by decide +kernel
theorem dM_find_38 : decode cM_find 38 = .ok (.iastore, 1) := by decide +kernel
theorem dM_find_39 : decode cM_find 39 = .ok (.iconst 0, 1) := by decide +kernel
theorem dM_find_40 : decode cM_find 40 = .ok (.istore 5, 2) := by decide +kernel
theorem dM_find_42 : decode cM_find 42 = .ok (.iload 5, 2) := by decide +kernel
theorem dM_find_44 : decode cM_find 44 = .ok (.aload_n 0, 1) := by decide +kernel
theorem dM_find_45 : decode cM_find 45 = .ok (.getfield 72, 3) := by decide +kernel
theorem dM_find_48 : decode cM_find 48 = .ok (.if_icmp .ge 165, 3) := by decide +kernel
theorem dM_find_51 : decode cM_find 51 = .ok (.iconst 0, 1) := by decide +kernel
theorem dM_find_52 : decode cM_find 52 = .ok (.istore 6, 2) := by decide +kernel
theorem dM_find_54 : decode cM_find 54 = .ok (.iload 6, 2) := by decide +kernel
theorem dM_find_56 : decode cM_find 56 = .ok (.aload_n 0, 1) := by decide +kernel
theorem dM_find_57 : decode cM_find 57 = .ok (.getfield 72, 3) := by decide +kernel
theorem dM_find_60 : decode cM_find 60 = .ok (.if_icmp .ge 147, 3) := by decide +kernel
theorem dM_find_63 : decode cM_find 63 = .ok (.iload 5, 2) := by decide +kernel
theorem dM_find_65 : decode cM_find 65 = .ok (.ifCond .ne 13, 3) := by decide +kernel
theorem dM_find_68 : decode cM_find 68 = .ok (.iload 6, 2) := by decide +kernel
theorem dM_find_70 : decode cM_find 70 = .ok (.iload_n 1, 1) := by decide +kernel
theorem dM_find_71 : decode cM_find 71 = .ok (.if_icmp .ne 7, 3) := by decide +kernel
theorem dM_find_74 : decode cM_find 74 = .ok (.iconst 0, 1) := by decide +kernel
theorem dM_find_75 : decode cM_find 75 = .ok (.goto 5, 3) := by decide +kernel
theorem dM_find_78 : decode cM_find 78 = .ok (.ldc 68, 2) := by decide +kernel
theorem dM_find_80 : decode cM_find 80 = .ok (.istore 7, 2) := by decide +kernel
theorem dM_find_82 : decode cM_find 82 = .ok (.iconst 0, 1) := by decide +kernel
theorem dM_find_83 : decode cM_find 83 = .ok (.istore 8, 2) := by decide +kernel
theorem dM_find_85 : decode cM_find 85 = .ok (.iload 8, 2) := by decide +kernel
theorem dM_find_87 : decode cM_find 87 = .ok (.aload_n 0, 1) := by decide +kernel
theorem dM_find_88 : decode cM_find 88 = .ok (.getfield 72, 3) := by decide +kernel
theorem dM_find_91 : decode cM_find 91 = .ok (.if_icmp .ge 95, 3) := by decide +kernel
theorem dM_find_94 : decode cM_find 94 = .ok (.iload 5, 2) := by decide +kernel
theorem dM_find_96 : decode cM_find 96 = .ok (.ifCond .le 90, 3) := by decide +kernel
theorem dM_find_99 : decode cM_find 99 = .ok (.aload_n 0, 1) := by decide +kernel
theorem dM_find_100 : decode cM_find 100 = .ok (.getfield 44, 3) := by decide +kernel
theorem dM_find_103 : decode cM_find 103 = .ok (.bipush 24, 2) := by decide +kernel
theorem dM_find_105 : decode cM_find 105 = .ok (.iload 5, 2) := by decide +kernel
theorem dM_find_107 : decode cM_find 107 = .ok (.iconst 1, 1) := by decide +kernel
theorem dM_find_108 : decode cM_find 108 = .ok (.isub, 1) := by decide +kernel
theorem dM_find_109 : decode cM_find 109 = .ok (.imul, 1) := by decide +kernel
theorem dM_find_110 : decode cM_find 110 = .ok (.iload 8, 2) := by decide +kernel
theorem dM_find_112 : decode cM_find 112 = .ok (.iadd, 1) := by decide +kernel
theorem dM_find_113 : decode cM_find 113 = .ok (.iaload, 1) := by decide +kernel
theorem dM_find_114 : decode cM_find 114 = .ok (.istore 9, 2) := by decide +kernel
theorem dM_find_116 : decode cM_find 116 = .ok (.iload 9, 2) := by decide +kernel
theorem dM_find_118 : decode cM_find 118 = .ok (.ldc 68, 2) := by decide +kernel
theorem dM_find_120 : decode cM_find 120 = .ok (.if_icmp .eq 60, 3) := by decide +kernel
theorem dM_find_123 : decode cM_find 123 = .ok (.aload_n 0, 1) := by decide +kernel
theorem dM_find_124 : decode cM_find 124 = .ok (.getfield 13, 3) := by decide +kernel
theorem dM_find_127 : decode cM_find 127 = .ok (.bipush 24, 2) := by decide +kernel
theorem dM_find_129 : decode cM_find 129 = .ok (.iload 8, 2) := by decide +kernel
theorem dM_find_131 : decode cM_find 131 = .ok (.imul, 1) := by decide +kernel
theorem dM_find_132 : decode cM_find 132 = .ok (.iload 6, 2) := by decide +kernel
theorem dM_find_134 : decode cM_find 134 = .ok (.iadd, 1) := by decide +kernel
theorem dM_find_135 : decode cM_find 135 = .ok (.iaload, 1) := by decide +kernel
theorem dM_find_136 : decode cM_find 136 = .ok (.ldc 68, 2) := by decide +kernel
theorem dM_find_138 : decode cM_find 138 = .ok (.if_icmp .eq 42, 3) := by decide +kernel
theorem dM_find_141 : decode cM_find 141 = .ok (.iload 9, 2) := by decide +kernel
theorem dM_find_143 : decode cM_find 143 = .ok (.aload_n 0, 1) := by decide +kernel
theorem dM_find_144 : decode cM_find 144 = .ok (.getfield 13, 3) := by decide +kernel
theorem dM_find_147 : decode cM_find 147 = .ok (.bipush 24, 2) := by decide +kernel
theorem dM_find_149 : decode cM_find 149 = .ok (.iload 8, 2) := by decide +kernel
theorem dM_find_151 : decode cM_find 151 = .ok (.imul, 1) := by decide +kernel
theorem dM_find_152 : decode cM_find 152 = .ok (.iload 6, 2) := by decide +kernel
theorem dM_find_154 : decode cM_find 154 = .ok (.iadd, 1) := by decide +kernel
theorem dM_find_155 : decode cM_find 155 = .ok (.iaload, 1) := by decide +kernel
theorem dM_find_156 : decode cM_find 156 = .ok (.iadd, 1) := by decide +kernel
theorem dM_find_157 : decode cM_find 157 = .ok (.iload 7, 2) := by decide +kernel
theorem dM_find_159 : decode cM_find 159 = .ok (.if_icmp .ge 21, 3) := by decide +kernel
theorem dM_find_162 : decode cM_find 162 = .ok (.iload 9, 2) := by decide +kernel
theorem dM_find_164 : decode cM_find 164 = .ok (.aload_n 0, 1) := by decide +kernel
theorem dM_find_165 : decode cM_find 165 = .ok (.getfield 13, 3) := by decide +kernel
theorem dM_find_168 : decode cM_find 168 = .ok (.bipush 24, 2) := by decide +kernel
theorem dM_find_170 : decode cM_find 170 = .ok (.iload 8, 2) := by decide +kernel
theorem dM_find_172 : decode cM_find 172 = .ok (.imul, 1) := by decide +kernel
theorem dM_find_173 : decode cM_find 173 = .ok (.iload 6, 2) := by decide +kernel
theorem dM_find_175 : decode cM_find 175 = .ok (.iadd, 1) := by decide +kernel
theorem dM_find_176 : decode cM_find 176 = .ok (.iaload, 1) := by decide +kernel
theorem dM_find_177 : decode cM_find 177 = .ok (.iadd, 1) := by decide +kernel
theorem dM_find_178 : decode cM_find 178 = .ok (.istore 7, 2) := by decide +kernel
theorem dM_find_180 : decode cM_find 180 = .ok (.iinc 8 1, 3) := by decide +kernel
theorem dM_find_183 : decode cM_find 183 = .ok (.goto (-98), 3) := by decide +kernel
theorem dM_find_186 : decode cM_find 186 = .ok (.aload_n 0, 1) := by decide +kernel
theorem dM_find_187 : decode cM_find 187 = .ok (.getfield 44, 3) := by decide +kernel
theorem dM_find_190 : decode cM_find 190 = .ok (.bipush 24, 2) := by decide +kernel
theorem dM_find_192 : decode cM_find 192 = .ok (.iload 5, 2) := by decide +kernel
theorem dM_find_194 : decode cM_find 194 = .ok (.imul, 1) := by decide +kernel
theorem dM_find_195 : decode cM_find 195 = .ok (.iload 6, 2) := by decide +kernel
theorem dM_find_197 : decode cM_find 197 = .ok (.iadd, 1) := by decide +kernel
theorem dM_find_198 : decode cM_find 198 = .ok (.iload 7, 2) := by decide +kernel
theorem dM_find_200 : decode cM_find 200 = .ok (.iastore, 1) := by decide +kernel
theorem dM_find_201 : decode cM_find 201 = .ok (.iinc 6 1, 3) := by decide +kernel
theorem dM_find_204 : decode cM_find 204 = .ok (.goto (-150), 3) := by decide +kernel
theorem dM_find_207 : decode cM_find 207 = .ok (.iinc 5 1, 3) := by decide +kernel
theorem dM_find_210 : decode cM_find 210 = .ok (.goto (-168), 3) := by decide +kernel
theorem dM_find_213 : decode cM_find 213 = .ok (.iconst 0, 1) := by decide +kernel
theorem dM_find_214 : decode cM_find 214 = .ok (.istore 5, 2) := by decide +kernel
theorem dM_find_216 : decode cM_find 216 = .ok (.iload 5, 2) := by decide +kernel
theorem dM_find_218 : decode cM_find 218 = .ok (.aload_n 0, 1) := by decide +kernel
theorem dM_find_219 : decode cM_find 219 = .ok (.getfield 72, 3) := by decide +kernel
theorem dM_find_222 : decode cM_find 222 = .ok (.if_icmp .ge 106, 3) := by decide +kernel
theorem dM_find_225 : decode cM_find 225 = .ok (.aload_n 0, 1) := by decide +kernel
theorem dM_find_226 : decode cM_find 226 = .ok (.getfield 47, 3) := by decide +kernel
theorem dM_find_229 : decode cM_find 229 = .ok (.iload 5, 2) := by decide +kernel
theorem dM_find_231 : decode cM_find 231 = .ok (.ldc 68, 2) := by decide +kernel
theorem dM_find_233 : decode cM_find 233 = .ok (.iastore, 1) := by decide +kernel
theorem dM_find_234 : decode cM_find 234 = .ok (.aload_n 0, 1) := by decide +kernel
theorem dM_find_235 : decode cM_find 235 = .ok (.getfield 50, 3) := by decide +kernel
theorem dM_find_238 : decode cM_find 238 = .ok (.iload 5, 2) := by decide +kernel
theorem dM_find_240 : decode cM_find 240 = .ok (.ldc 79, 2) := by decide +kernel
theorem dM_find_242 : decode cM_find 242 = .ok (.iastore, 1) := by decide +kernel
theorem dM_find_243 : decode cM_find 243 = .ok (.aload_n 0, 1) := by decide +kernel
theorem dM_find_244 : decode cM_find 244 = .ok (.getfield 53, 3) := by decide +kernel
theorem dM_find_247 : decode cM_find 247 = .ok (.iload 5, 2) := by decide +kernel
theorem dM_find_249 : decode cM_find 249 = .ok (.ldc 79, 2) := by decide +kernel
theorem dM_find_251 : decode cM_find 251 = .ok (.iastore, 1) := by decide +kernel
theorem dM_find_252 : decode cM_find 252 = .ok (.iconst 0, 1) := by decide +kernel
theorem dM_find_253 : decode cM_find 253 = .ok (.istore 6, 2) := by decide +kernel
theorem dM_find_255 : decode cM_find 255 = .ok (.iload 6, 2) := by decide +kernel
theorem dM_find_257 : decode cM_find 257 = .ok (.aload_n 0, 1) := by decide +kernel
theorem dM_find_258 : decode cM_find 258 = .ok (.getfield 72, 3) := by decide +kernel
theorem dM_find_261 : decode cM_find 261 = .ok (.if_icmp .ge 61, 3) := by decide +kernel
theorem dM_find_264 : decode cM_find 264 = .ok (.aload_n 0, 1) := by decide +kernel
theorem dM_find_265 : decode cM_find 265 = .ok (.getfield 44, 3) := by decide +kernel
theorem dM_find_268 : decode cM_find 268 = .ok (.bipush 24, 2) := by decide +kernel
theorem dM_find_270 : decode cM_find 270 = .ok (.iload 6, 2) := by decide +kernel
theorem dM_find_272 : decode cM_find 272 = .ok (.imul, 1) := by decide +kernel
theorem dM_find_273 : decode cM_find 273 = .ok (.iload 5, 2) := by decide +kernel
theorem dM_find_275 : decode cM_find 275 = .ok (.iadd, 1) := by decide +kernel
theorem dM_find_276 : decode cM_find 276 = .ok (.iaload, 1) := by decide +kernel
theorem dM_find_277 : decode cM_find 277 = .ok (.aload_n 0, 1) := by decide +kernel
theorem dM_find_278 : decode cM_find 278 = .ok (.getfield 47, 3) := by decide +kernel
theorem dM_find_281 : decode cM_find 281 = .ok (.iload 5, 2) := by decide +kernel
theorem dM_find_283 : decode cM_find 283 = .ok (.iaload, 1) := by decide +kernel
theorem dM_find_284 : decode cM_find 284 = .ok (.if_icmp .ge 32, 3) := by decide +kernel
theorem dM_find_287 : decode cM_find 287 = .ok (.aload_n 0, 1) := by decide +kernel
theorem dM_find_288 : decode cM_find 288 = .ok (.getfield 47, 3) := by decide +kernel
theorem dM_find_291 : decode cM_find 291 = .ok (.iload 5, 2) := by decide +kernel
theorem dM_find_293 : decode cM_find 293 = .ok (.aload_n 0, 1) := by decide +kernel
theorem dM_find_294 : decode cM_find 294 = .ok (.getfield 44, 3) := by decide +kernel
theorem dM_find_297 : decode cM_find 297 = .ok (.bipush 24, 2) := by decide +kernel
theorem dM_find_299 : decode cM_find 299 = .ok (.iload 6, 2) := by decide +kernel
theorem dM_find_301 : decode cM_find 301 = .ok (.imul, 1) := by decide +kernel
theorem dM_find_302 : decode cM_find 302 = .ok (.iload 5, 2) := by decide +kernel
theorem dM_find_304 : decode cM_find 304 = .ok (.iadd, 1) := by decide +kernel
theorem dM_find_305 : decode cM_find 305 = .ok (.iaload, 1) := by decide +kernel
theorem dM_find_306 : decode cM_find 306 = .ok (.iastore, 1) := by decide +kernel
theorem dM_find_307 : decode cM_find 307 = .ok (.aload_n 0, 1) := by decide +kernel
theorem dM_find_308 : decode cM_find 308 = .ok (.getfield 50, 3) := by decide +kernel
theorem dM_find_311 : decode cM_find 311 = .ok (.iload 5, 2) := by decide +kernel
theorem dM_find_313 : decode cM_find 313 = .ok (.iload 6, 2) := by decide +kernel
theorem dM_find_315 : decode cM_find 315 = .ok (.iastore, 1) := by decide +kernel
theorem dM_find_316 : decode cM_find 316 = .ok (.iinc 6 1, 3) := by decide +kernel
theorem dM_find_319 : decode cM_find 319 = .ok (.goto (-64), 3) := by decide +kernel
theorem dM_find_322 : decode cM_find 322 = .ok (.iinc 5 1, 3) := by decide +kernel
theorem dM_find_325 : decode cM_find 325 = .ok (.goto (-109), 3) := by decide +kernel
theorem dM_find_328 : decode cM_find 328 = .ok (.iconst 0, 1) := by decide +kernel
theorem dM_find_329 : decode cM_find 329 = .ok (.istore 5, 2) := by decide +kernel
theorem dM_find_331 : decode cM_find 331 = .ok (.iload 5, 2) := by decide +kernel
theorem dM_find_333 : decode cM_find 333 = .ok (.aload_n 0, 1) := by decide +kernel
theorem dM_find_334 : decode cM_find 334 = .ok (.getfield 72, 3) := by decide +kernel
theorem dM_find_337 : decode cM_find 337 = .ok (.if_icmp .ge 145, 3) := by decide +kernel
theorem dM_find_340 : decode cM_find 340 = .ok (.aload_n 0, 1) := by decide +kernel
theorem dM_find_341 : decode cM_find 341 = .ok (.getfield 72, 3) := by decide +kernel
theorem dM_find_344 : decode cM_find 344 = .ok (.iconst 1, 1) := by decide +kernel
theorem dM_find_345 : decode cM_find 345 = .ok (.isub, 1) := by decide +kernel
theorem dM_find_346 : decode cM_find 346 = .ok (.istore 6, 2) := by decide +kernel
theorem dM_find_348 : decode cM_find 348 = .ok (.iload 6, 2) := by decide +kernel
theorem dM_find_350 : decode cM_find 350 = .ok (.ifCond .lt 126, 3) := by decide +kernel
theorem dM_find_353 : decode cM_find 353 = .ok (.iload 5, 2) := by decide +kernel
theorem dM_find_355 : decode cM_find 355 = .ok (.iload_n 1, 1) := by decide +kernel
theorem dM_find_356 : decode cM_find 356 = .ok (.if_icmp .eq 120, 3) := by decide +kernel
theorem dM_find_359 : decode cM_find 359 = .ok (.aload_n 0, 1) := by decide +kernel
theorem dM_find_360 : decode cM_find 360 = .ok (.getfield 47, 3) := by decide +kernel
theorem dM_find_363 : decode cM_find 363 = .ok (.iload 6, 2) := by decide +kernel
theorem dM_find_365 : decode cM_find 365 = .ok (.iaload, 1) := by decide +kernel
theorem dM_find_366 : decode cM_find 366 = .ok (.ldc 68, 2) := by decide +kernel
theorem dM_find_368 : decode cM_find 368 = .ok (.if_icmp .eq 56, 3) := by decide +kernel
theorem dM_find_371 : decode cM_find 371 = .ok (.aload_n 0, 1) := by decide +kernel
theorem dM_find_372 : decode cM_find 372 = .ok (.getfield 13, 3) := by decide +kernel
theorem dM_find_375 : decode cM_find 375 = .ok (.bipush 24, 2) := by decide +kernel
theorem dM_find_377 : decode cM_find 377 = .ok (.iload 6, 2) := by decide +kernel
theorem dM_find_379 : decode cM_find 379 = .ok (.imul, 1) := by decide +kernel
theorem dM_find_380 : decode cM_find 380 = .ok (.iload 5, 2) := by decide +kernel
theorem dM_find_382 : decode cM_find 382 = .ok (.iadd, 1) := by decide +kernel
theorem dM_find_383 : decode cM_find 383 = .ok (.iaload, 1) := by decide +kernel
theorem dM_find_384 : decode cM_find 384 = .ok (.ldc 68, 2) := by decide +kernel
theorem dM_find_386 : decode cM_find 386 = .ok (.if_icmp .eq 38, 3) := by decide +kernel
theorem dM_find_389 : decode cM_find 389 = .ok (.aload_n 0, 1) := by decide +kernel
theorem dM_find_390 : decode cM_find 390 = .ok (.getfield 47, 3) := by decide +kernel
theorem dM_find_393 : decode cM_find 393 = .ok (.iload 6, 2) := by decide +kernel
theorem dM_find_395 : decode cM_find 395 = .ok (.iaload, 1) := by decide +kernel
theorem dM_find_396 : decode cM_find 396 = .ok (.aload_n 0, 1) := by decide +kernel
theorem dM_find_397 : decode cM_find 397 = .ok (.getfield 13, 3) := by decide +kernel
theorem dM_find_400 : decode cM_find 400 = .ok (.bipush 24, 2) := by decide +kernel
theorem dM_find_402 : decode cM_find 402 = .ok (.iload 6, 2) := by decide +kernel
theorem dM_find_404 : decode cM_find 404 = .ok (.imul, 1) := by decide +kernel
theorem dM_find_405 : decode cM_find 405 = .ok (.iload 5, 2) := by decide +kernel
theorem dM_find_407 : decode cM_find 407 = .ok (.iadd, 1) := by decide +kernel
theorem dM_find_408 : decode cM_find 408 = .ok (.iaload, 1) := by decide +kernel
theorem dM_find_409 : decode cM_find 409 = .ok (.iadd, 1) := by decide +kernel
theorem dM_find_410 : decode cM_find 410 = .ok (.aload_n 0, 1) := by decide +kernel
theorem dM_find_411 : decode cM_find 411 = .ok (.getfield 47, 3) := by decide +kernel
theorem dM_find_414 : decode cM_find 414 = .ok (.iload 5, 2) := by decide +kernel
theorem dM_find_416 : decode cM_find 416 = .ok (.iaload, 1) := by decide +kernel
theorem dM_find_417 : decode cM_find 417 = .ok (.if_icmp .ne 7, 3) := by decide +kernel
theorem dM_find_420 : decode cM_find 420 = .ok (.iconst 1, 1) := by decide +kernel
theorem dM_find_421 : decode cM_find 421 = .ok (.goto 4, 3) := by decide +kernel
theorem dM_find_424 : decode cM_find 424 = .ok (.iconst 0, 1) := by decide +kernel
theorem dM_find_425 : decode cM_find 425 = .ok (.istore 7, 2) := by decide +kernel
theorem dM_find_427 : decode cM_find 427 = .ok (.aload_n 0, 1) := by decide +kernel
theorem dM_find_428 : decode cM_find 428 = .ok (.getfield 53, 3) := by decide +kernel
theorem dM_find_431 : decode cM_find 431 = .ok (.iload 5, 2) := by decide +kernel
theorem dM_find_433 : decode cM_find 433 = .ok (.iload 7, 2) := by decide +kernel
theorem dM_find_435 : decode cM_find 435 = .ok (.ifCond .eq 27, 3) := by decide +kernel
theorem dM_find_438 : decode cM_find 438 = .ok (.aload_n 0, 1) := by decide +kernel
theorem dM_find_439 : decode cM_find 439 = .ok (.getfield 50, 3) := by decide +kernel
theorem dM_find_442 : decode cM_find 442 = .ok (.iload 6, 2) := by decide +kernel
theorem dM_find_444 : decode cM_find 444 = .ok (.iaload, 1) := by decide +kernel
theorem dM_find_445 : decode cM_find 445 = .ok (.iconst 1, 1) := by decide +kernel
theorem dM_find_446 : decode cM_find 446 = .ok (.iadd, 1) := by decide +kernel
theorem dM_find_447 : decode cM_find 447 = .ok (.aload_n 0, 1) := by decide +kernel
theorem dM_find_448 : decode cM_find 448 = .ok (.getfield 50, 3) := by decide +kernel
theorem dM_find_451 : decode cM_find 451 = .ok (.iload 5, 2) := by decide +kernel
theorem dM_find_453 : decode cM_find 453 = .ok (.iaload, 1) := by decide +kernel
theorem dM_find_454 : decode cM_find 454 = .ok (.if_icmp .ne 8, 3) := by decide +kernel
theorem dM_find_457 : decode cM_find 457 = .ok (.iload 6, 2) := by decide +kernel
theorem dM_find_459 : decode cM_find 459 = .ok (.goto 10, 3) := by decide +kernel
theorem dM_find_462 : decode cM_find 462 = .ok (.aload_n 0, 1) := by decide +kernel
theorem dM_find_463 : decode cM_find 463 = .ok (.getfield 53, 3) := by decide +kernel
theorem dM_find_466 : decode cM_find 466 = .ok (.iload 5, 2) := by decide +kernel
theorem dM_find_468 : decode cM_find 468 = .ok (.iaload, 1) := by decide +kernel
theorem dM_find_469 : decode cM_find 469 = .ok (.iastore, 1) := by decide +kernel
theorem dM_find_470 : decode cM_find 470 = .ok (.iinc 6 (-1), 3) := by decide +kernel
theorem dM_find_473 : decode cM_find 473 = .ok (.goto (-125), 3) := by decide +kernel
theorem dM_find_476 : decode cM_find 476 = .ok (.iinc 5 1, 3) := by decide +kernel
theorem dM_find_479 : decode cM_find 479 = .ok (.goto (-148), 3) := by decide +kernel
theorem dM_find_482 : decode cM_find 482 = .ok (.iload_n 2, 1) := by decide +kernel
theorem dM_find_483 : decode cM_find 483 = .ok (.ifCond .lt 16, 3) := by decide +kernel
theorem dM_find_486 : decode cM_find 486 = .ok (.aload_n 0, 1) := by decide +kernel
theorem dM_find_487 : decode cM_find 487 = .ok (.getfield 13, 3) := by decide +kernel
theorem dM_find_490 : decode cM_find 490 = .ok (.bipush 24, 2) := by decide +kernel
theorem dM_find_492 : decode cM_find 492 = .ok (.iload_n 2, 1) := by decide +kernel
theorem dM_find_493 : decode cM_find 493 = .ok (.imul, 1) := by decide +kernel
theorem dM_find_494 : decode cM_find 494 = .ok (.iload_n 3, 1) := by decide +kernel
theorem dM_find_495 : decode cM_find 495 = .ok (.iadd, 1) := by decide +kernel
theorem dM_find_496 : decode cM_find 496 = .ok (.iload 4, 2) := by decide +kernel
theorem dM_find_498 : decode cM_find 498 = .ok (.iastore, 1) := by decide +kernel
theorem dM_find_499 : decode cM_find 499 = .ok (.return_, 1) := by decide +kernel
