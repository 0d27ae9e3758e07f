theorem dW_law_0 : decode code 0 = .ok (.new 7, 3) := by decide +kernel
theorem dW_law_3 : decode code 3 = .ok (.dup, 1) := by decide +kernel
theorem dW_law_4 : decode code 4 = .ok (.invokespecial 9, 3) := by decide +kernel
theorem dW_law_7 : decode code 7 = .ok (.astore_n 1, 1) := by decide +kernel
theorem dW_law_8 : decode code 8 = .ok (.new 10, 3) := by decide +kernel
theorem dW_law_11 : decode code 11 = .ok (.dup, 1) := by decide +kernel
theorem dW_law_12 : decode code 12 = .ok (.invokespecial 12, 3) := by decide +kernel
theorem dW_law_15 : decode code 15 = .ok (.astore_n 2, 1) := by decide +kernel
theorem dW_law_16 : decode code 16 = .ok (.iconst 0, 1) := by decide +kernel
theorem dW_law_17 : decode code 17 = .ok (.istore_n 3, 1) := by decide +kernel
theorem dW_law_18 : decode code 18 = .ok (.iload_n 3, 1) := by decide +kernel
theorem dW_law_19 : decode code 19 = .ok (.aload_n 0, 1) := by decide +kernel
theorem dW_law_20 : decode code 20 = .ok (.arraylength, 1) := by decide +kernel
theorem dW_law_21 : decode code 21 = .ok (.iconst 4, 1) := by decide +kernel
theorem dW_law_22 : decode code 22 = .ok (.isub, 1) := by decide +kernel
theorem dW_law_23 : decode code 23 = .ok (.if_icmp .gt 523, 3) := by decide +kernel
theorem dW_law_26 : decode code 26 = .ok (.aload_n 0, 1) := by decide +kernel
theorem dW_law_27 : decode code 27 = .ok (.iload_n 3, 1) := by decide +kernel
theorem dW_law_28 : decode code 28 = .ok (.iaload, 1) := by decide +kernel
theorem dW_law_29 : decode code 29 = .ok (.bipush 15, 2) := by decide +kernel
theorem dW_law_31 : decode code 31 = .ok (.iand, 1) := by decide +kernel
theorem dW_law_32 : decode code 32 = .ok (.tableswitch 508 0 15 #[80, 93, 126, 169, 202, 235, 248, 261, 274, 307, 340, 373, 416, 439, 462, 485], 80) := by decide +kernel
theorem dW_law_112 : decode code 112 = .ok (.aload_n 1, 1) := by decide +kernel
theorem dW_law_113 : decode code 113 = .ok (.invokevirtual 13, 3) := by decide +kernel
theorem dW_law_116 : decode code 116 = .ok (.aload_n 2, 1) := by decide +kernel
theorem dW_law_117 : decode code 117 = .ok (.invokevirtual 17, 3) := by decide +kernel
theorem dW_law_120 : decode code 120 = .ok (.if_icmp .eq 420, 3) := by decide +kernel
theorem dW_law_123 : decode code 123 = .ok (.iconst 0, 1) := by decide +kernel
theorem dW_law_124 : decode code 124 = .ok (.ireturn, 1) := by decide +kernel
theorem dW_law_125 : decode code 125 = .ok (.aload_n 1, 1) := by decide +kernel
theorem dW_law_126 : decode code 126 = .ok (.aload_n 0, 1) := by decide +kernel
theorem dW_law_127 : decode code 127 = .ok (.iload_n 3, 1) := by decide +kernel
theorem dW_law_128 : decode code 128 = .ok (.iconst 1, 1) := by decide +kernel
theorem dW_law_129 : decode code 129 = .ok (.iadd, 1) := by decide +kernel
theorem dW_law_130 : decode code 130 = .ok (.iaload, 1) := by decide +kernel
theorem dW_law_131 : decode code 131 = .ok (.aload_n 0, 1) := by decide +kernel
theorem dW_law_132 : decode code 132 = .ok (.iload_n 3, 1) := by decide +kernel
theorem dW_law_133 : decode code 133 = .ok (.iconst 2, 1) := by decide +kernel
theorem dW_law_134 : decode code 134 = .ok (.iadd, 1) := by decide +kernel
theorem dW_law_135 : decode code 135 = .ok (.iaload, 1) := by decide +kernel
theorem dW_law_136 : decode code 136 = .ok (.invokevirtual 18, 3) := by decide +kernel
theorem dW_law_139 : decode code 139 = .ok (.aload_n 2, 1) := by decide +kernel
theorem dW_law_140 : decode code 140 = .ok (.aload_n 0, 1) := by decide +kernel
theorem dW_law_141 : decode code 141 = .ok (.iload_n 3, 1) := by decide +kernel
theorem dW_law_142 : decode code 142 = .ok (.iconst 1, 1) := by decide +kernel
theorem dW_law_143 : decode code 143 = .ok (.iadd, 1) := by decide +kernel
theorem dW_law_144 : decode code 144 = .ok (.iaload, 1) := by decide +kernel
theorem dW_law_145 : decode code 145 = .ok (.aload_n 0, 1) := by decide +kernel
theorem dW_law_146 : decode code 146 = .ok (.iload_n 3, 1) := by decide +kernel
theorem dW_law_147 : decode code 147 = .ok (.iconst 2, 1) := by decide +kernel
theorem dW_law_148 : decode code 148 = .ok (.iadd, 1) := by decide +kernel
theorem dW_law_149 : decode code 149 = .ok (.iaload, 1) := by decide +kernel
theorem dW_law_150 : decode code 150 = .ok (.invokevirtual 22, 3) := by decide +kernel
theorem dW_law_153 : decode code 153 = .ok (.if_icmp .eq 387, 3) := by decide +kernel
theorem dW_law_156 : decode code 156 = .ok (.iconst 0, 1) := by decide +kernel
theorem dW_law_157 : decode code 157 = .ok (.ireturn, 1) := by decide +kernel
theorem dW_law_158 : decode code 158 = .ok (.aload_n 1, 1) := by decide +kernel
theorem dW_law_159 : decode code 159 = .ok (.aload_n 0, 1) := by decide +kernel
theorem dW_law_160 : decode code 160 = .ok (.iload_n 3, 1) := by decide +kernel
theorem dW_law_161 : decode code 161 = .ok (.iconst 1, 1) := by decide +kernel
theorem dW_law_162 : decode code 162 = .ok (.iadd, 1) := by decide +kernel
theorem dW_law_163 : decode code 163 = .ok (.iaload, 1) := by decide +kernel
theorem dW_law_164 : decode code 164 = .ok (.aload_n 0, 1) := by decide +kernel
theorem dW_law_165 : decode code 165 = .ok (.iload_n 3, 1) := by decide +kernel
theorem dW_law_166 : decode code 166 = .ok (.iconst 2, 1) := by decide +kernel
theorem dW_law_167 : decode code 167 = .ok (.iadd, 1) := by decide +kernel
theorem dW_law_168 : decode code 168 = .ok (.iaload, 1) := by decide +kernel
theorem dW_law_169 : decode code 169 = .ok (.aload_n 0, 1) := by decide +kernel
theorem dW_law_170 : decode code 170 = .ok (.iload_n 3, 1) := by decide +kernel
theorem dW_law_171 : decode code 171 = .ok (.iconst 3, 1) := by decide +kernel
theorem dW_law_172 : decode code 172 = .ok (.iadd, 1) := by decide +kernel
theorem dW_law_173 : decode code 173 = .ok (.iaload, 1) := by decide +kernel
theorem dW_law_174 : decode code 174 = .ok (.invokevirtual 23, 3) := by decide +kernel
theorem dW_law_177 : decode code 177 = .ok (.aload_n 2, 1) := by decide +kernel
theorem dW_law_178 : decode code 178 = .ok (.aload_n 0, 1) := by decide +kernel
theorem dW_law_179 : decode code 179 = .ok (.iload_n 3, 1) := by decide +kernel
theorem dW_law_180 : decode code 180 = .ok (.iconst 1, 1) := by decide +kernel
theorem dW_law_181 : decode code 181 = .ok (.iadd, 1) := by decide +kernel
theorem dW_law_182 : decode code 182 = .ok (.iaload, 1) := by decide +kernel
theorem dW_law_183 : decode code 183 = .ok (.aload_n 0, 1) := by decide +kernel
theorem dW_law_184 : decode code 184 = .ok (.iload_n 3, 1) := by decide +kernel
theorem dW_law_185 : decode code 185 = .ok (.iconst 2, 1) := by decide +kernel
theorem dW_law_186 : decode code 186 = .ok (.iadd, 1) := by decide +kernel
theorem dW_law_187 : decode code 187 = .ok (.iaload, 1) := by decide +kernel
theorem dW_law_188 : decode code 188 = .ok (.aload_n 0, 1) := by decide +kernel
theorem dW_law_189 : decode code 189 = .ok (.iload_n 3, 1) := by decide +kernel
theorem dW_law_190 : decode code 190 = .ok (.iconst 3, 1) := by decide +kernel
theorem dW_law_191 : decode code 191 = .ok (.iadd, 1) := by decide +kernel
theorem dW_law_192 : decode code 192 = .ok (.iaload, 1) := by decide +kernel
theorem dW_law_193 : decode code 193 = .ok (.invokevirtual 27, 3) := by decide +kernel
theorem dW_law_196 : decode code 196 = .ok (.if_icmp .eq 344, 3) := by decide +kernel
theorem dW_law_199 : decode code 199 = .ok (.iconst 0, 1) := by decide +kernel
theorem dW_law_200 : decode code 200 = .ok (.ireturn, 1) := by decide +kernel
theorem dW_law_201 : decode code 201 = .ok (.aload_n 1, 1) := by decide +kernel
theorem dW_law_202 : decode code 202 = .ok (.aload_n 0, 1) := by decide +kernel
theorem dW_law_203 : decode code 203 = .ok (.iload_n 3, 1) := by decide +kernel
theorem dW_law_204 : decode code 204 = .ok (.iconst 1, 1) := by decide +kernel
theorem dW_law_205 : decode code 205 = .ok (.iadd, 1) := by decide +kernel
theorem dW_law_206 : decode code 206 = .ok (.iaload, 1) := by decide +kernel
theorem dW_law_207 : decode code 207 = .ok (.aload_n 0, 1) := by decide +kernel
theorem dW_law_208 : decode code 208 = .ok (.iload_n 3, 1) := by decide +kernel
theorem dW_law_209 : decode code 209 = .ok (.iconst 2, 1) := by decide +kernel
theorem dW_law_210 : decode code 210 = .ok (.iadd, 1) := by decide +kernel
theorem dW_law_211 : decode code 211 = .ok (.iaload, 1) := by decide +kernel
theorem dW_law_212 : decode code 212 = .ok (.invokevirtual 28, 3) := by decide +kernel
theorem dW_law_215 : decode code 215 = .ok (.aload_n 2, 1) := by decide +kernel
theorem dW_law_216 : decode code 216 = .ok (.aload_n 0, 1) := by decide +kernel
theorem dW_law_217 : decode code 217 = .ok (.iload_n 3, 1) := by decide +kernel
theorem dW_law_218 : decode code 218 = .ok (.iconst 1, 1) := by decide +kernel
theorem dW_law_219 : decode code 219 = .ok (.iadd, 1) := by decide +kernel
theorem dW_law_220 : decode code 220 = .ok (.iaload, 1) := by decide +kernel
theorem dW_law_221 : decode code 221 = .ok (.aload_n 0, 1) := by decide +kernel
theorem dW_law_222 : decode code 222 = .ok (.iload_n 3, 1) := by decide +kernel
theorem dW_law_223 : decode code 223 = .ok (.iconst 2, 1) := by decide +kernel
theorem dW_law_224 : decode code 224 = .ok (.iadd, 1) := by decide +kernel
theorem dW_law_225 : decode code 225 = .ok (.iaload, 1) := by decide +kernel
theorem dW_law_226 : decode code 226 = .ok (.invokevirtual 31, 3) := by decide +kernel
theorem dW_law_229 : decode code 229 = .ok (.if_icmp .eq 311, 3) := by decide +kernel
theorem dW_law_232 : decode code 232 = .ok (.iconst 0, 1) := by decide +kernel
theorem dW_law_233 : decode code 233 = .ok (.ireturn, 1) := by decide +kernel
theorem dW_law_234 : decode code 234 = .ok (.aload_n 1, 1) := by decide +kernel
theorem dW_law_235 : decode code 235 = .ok (.aload_n 0, 1) := by decide +kernel
theorem dW_law_236 : decode code 236 = .ok (.iload_n 3, 1) := by decide +kernel
theorem dW_law_237 : decode code 237 = .ok (.iconst 1, 1) := by decide +kernel
theorem dW_law_238 : decode code 238 = .ok (.iadd, 1) := by decide +kernel
theorem dW_law_239 : decode code 239 = .ok (.iaload, 1) := by decide +kernel
theorem dW_law_240 : decode code 240 = .ok (.aload_n 0, 1) := by decide +kernel
theorem dW_law_241 : decode code 241 = .ok (.iload_n 3, 1) := by decide +kernel
theorem dW_law_242 : decode code 242 = .ok (.iconst 2, 1) := by decide +kernel
theorem dW_law_243 : decode code 243 = .ok (.iadd, 1) := by decide +kernel
theorem dW_law_244 : decode code 244 = .ok (.iaload, 1) := by decide +kernel
theorem dW_law_245 : decode code 245 = .ok (.invokevirtual 32, 3) := by decide +kernel
theorem dW_law_248 : decode code 248 = .ok (.aload_n 2, 1) := by decide +kernel
theorem dW_law_249 : decode code 249 = .ok (.aload_n 0, 1) := by decide +kernel
theorem dW_law_250 : decode code 250 = .ok (.iload_n 3, 1) := by decide +kernel
theorem dW_law_251 : decode code 251 = .ok (.iconst 1, 1) := by decide +kernel
theorem dW_law_252 : decode code 252 = .ok (.iadd, 1) := by decide +kernel
theorem dW_law_253 : decode code 253 = .ok (.iaload, 1) := by decide +kernel
theorem dW_law_254 : decode code 254 = .ok (.aload_n 0, 1) := by decide +kernel
theorem dW_law_255 : decode code 255 = .ok (.iload_n 3, 1) := by decide +kernel
theorem dW_law_256 : decode code 256 = .ok (.iconst 2, 1) := by decide +kernel
theorem dW_law_257 : decode code 257 = .ok (.iadd, 1) := by decide +kernel
theorem dW_law_258 : decode code 258 = .ok (.iaload, 1) := by decide +kernel
theorem dW_law_259 : decode code 259 = .ok (.invokevirtual 35, 3) := by decide +kernel
theorem dW_law_262 : decode code 262 = .ok (.if_icmp .eq 278, 3) := by decide +kernel
theorem dW_law_265 : decode code 265 = .ok (.iconst 0, 1) := by decide +kernel
theorem dW_law_266 : decode code 266 = .ok (.ireturn, 1) := by decide +kernel
theorem dW_law_267 : decode code 267 = .ok (.aload_n 1, 1) := by decide +kernel
theorem dW_law_268 : decode code 268 = .ok (.invokevirtual 36, 3) := by decide +kernel
theorem dW_law_271 : decode code 271 = .ok (.aload_n 2, 1) := by decide +kernel
theorem dW_law_272 : decode code 272 = .ok (.invokevirtual 39, 3) := by decide +kernel
theorem dW_law_275 : decode code 275 = .ok (.if_icmp .eq 265, 3) := by decide +kernel
theorem dW_law_278 : decode code 278 = .ok (.iconst 0, 1) := by decide +kernel
theorem dW_law_279 : decode code 279 = .ok (.ireturn, 1) := by decide +kernel
theorem dW_law_280 : decode code 280 = .ok (.aload_n 1, 1) := by decide +kernel
theorem dW_law_281 : decode code 281 = .ok (.invokevirtual 40, 3) := by decide +kernel
theorem dW_law_284 : decode code 284 = .ok (.aload_n 2, 1) := by decide +kernel
theorem dW_law_285 : decode code 285 = .ok (.invokevirtual 43, 3) := by decide +kernel
theorem dW_law_288 : decode code 288 = .ok (.if_icmp .eq 252, 3) := by decide +kernel
theorem dW_law_291 : decode code 291 = .ok (.iconst 0, 1) := by decide +kernel
theorem dW_law_292 : decode code 292 = .ok (.ireturn, 1) := by decide +kernel
theorem dW_law_293 : decode code 293 = .ok (.aload_n 1, 1) := by decide +kernel
theorem dW_law_294 : decode code 294 = .ok (.invokevirtual 44, 3) := by decide +kernel
theorem dW_law_297 : decode code 297 = .ok (.aload_n 2, 1) := by decide +kernel
theorem dW_law_298 : decode code 298 = .ok (.invokevirtual 47, 3) := by decide +kernel
theorem dW_law_301 : decode code 301 = .ok (.if_icmp .eq 239, 3) := by decide +kernel
theorem dW_law_304 : decode code 304 = .ok (.iconst 0, 1) := by decide +kernel
theorem dW_law_305 : decode code 305 = .ok (.ireturn, 1) := by decide +kernel
theorem dW_law_306 : decode code 306 = .ok (.aload_n 1, 1) := by decide +kernel
theorem dW_law_307 : decode code 307 = .ok (.aload_n 0, 1) := by decide +kernel
theorem dW_law_308 : decode code 308 = .ok (.iload_n 3, 1) := by decide +kernel
theorem dW_law_309 : decode code 309 = .ok (.iconst 1, 1) := by decide +kernel
theorem dW_law_310 : decode code 310 = .ok (.iadd, 1) := by decide +kernel
theorem dW_law_311 : decode code 311 = .ok (.iaload, 1) := by decide +kernel
theorem dW_law_312 : decode code 312 = .ok (.aload_n 0, 1) := by decide +kernel
theorem dW_law_313 : decode code 313 = .ok (.iload_n 3, 1) := by decide +kernel
theorem dW_law_314 : decode code 314 = .ok (.iconst 2, 1) := by decide +kernel
theorem dW_law_315 : decode code 315 = .ok (.iadd, 1) := by decide +kernel
theorem dW_law_316 : decode code 316 = .ok (.iaload, 1) := by decide +kernel
theorem dW_law_317 : decode code 317 = .ok (.invokevirtual 48, 3) := by decide +kernel
theorem dW_law_320 : decode code 320 = .ok (.aload_n 2, 1) := by decide +kernel
theorem dW_law_321 : decode code 321 = .ok (.aload_n 0, 1) := by decide +kernel
theorem dW_law_322 : decode code 322 = .ok (.iload_n 3, 1) := by decide +kernel
theorem dW_law_323 : decode code 323 = .ok (.iconst 1, 1) := by decide +kernel
theorem dW_law_324 : decode code 324 = .ok (.iadd, 1) := by decide +kernel
theorem dW_law_325 : decode code 325 = .ok (.iaload, 1) := by decide +kernel
theorem dW_law_326 : decode code 326 = .ok (.aload_n 0, 1) := by decide +kernel
theorem dW_law_327 : decode code 327 = .ok (.iload_n 3, 1) := by decide +kernel
theorem dW_law_328 : decode code 328 = .ok (.iconst 2, 1) := by decide +kernel
theorem dW_law_329 : decode code 329 = .ok (.iadd, 1) := by decide +kernel
theorem dW_law_330 : decode code 330 = .ok (.iaload, 1) := by decide +kernel
theorem dW_law_331 : decode code 331 = .ok (.invokevirtual 51, 3) := by decide +kernel
theorem dW_law_334 : decode code 334 = .ok (.if_icmp .eq 206, 3) := by decide +kernel
theorem dW_law_337 : decode code 337 = .ok (.iconst 0, 1) := by decide +kernel
theorem dW_law_338 : decode code 338 = .ok (.ireturn, 1) := by decide +kernel
theorem dW_law_339 : decode code 339 = .ok (.aload_n 1, 1) := by decide +kernel
theorem dW_law_340 : decode code 340 = .ok (.aload_n 0, 1) := by decide +kernel
theorem dW_law_341 : decode code 341 = .ok (.iload_n 3, 1) := by decide +kernel
theorem dW_law_342 : decode code 342 = .ok (.iconst 1, 1) := by decide +kernel
theorem dW_law_343 : decode code 343 = .ok (.iadd, 1) := by decide +kernel
theorem dW_law_344 : decode code 344 = .ok (.iaload, 1) := by decide +kernel
theorem dW_law_345 : decode code 345 = .ok (.aload_n 0, 1) := by decide +kernel
theorem dW_law_346 : decode code 346 = .ok (.iload_n 3, 1) := by decide +kernel
theorem dW_law_347 : decode code 347 = .ok (.iconst 2, 1) := by decide +kernel
theorem dW_law_348 : decode code 348 = .ok (.iadd, 1) := by decide +kernel
theorem dW_law_349 : decode code 349 = .ok (.iaload, 1) := by decide +kernel
theorem dW_law_350 : decode code 350 = .ok (.invokevirtual 52, 3) := by decide +kernel
theorem dW_law_353 : decode code 353 = .ok (.aload_n 2, 1) := by decide +kernel
theorem dW_law_354 : decode code 354 = .ok (.aload_n 0, 1) := by decide +kernel
theorem dW_law_355 : decode code 355 = .ok (.iload_n 3, 1) := by decide +kernel
theorem dW_law_356 : decode code 356 = .ok (.iconst 1, 1) := by decide +kernel
theorem dW_law_357 : decode code 357 = .ok (.iadd, 1) := by decide +kernel
theorem dW_law_358 : decode code 358 = .ok (.iaload, 1) := by decide +kernel
theorem dW_law_359 : decode code 359 = .ok (.aload_n 0, 1) := by decide +kernel
theorem dW_law_360 : decode code 360 = .ok (.iload_n 3, 1) := by decide +kernel
theorem dW_law_361 : decode code 361 = .ok (.iconst 2, 1) := by decide +kernel
theorem dW_law_362 : decode code 362 = .ok (.iadd, 1) := by decide +kernel
theorem dW_law_363 : decode code 363 = .ok (.iaload, 1) := by decide +kernel
theorem dW_law_364 : decode code 364 = .ok (.invokevirtual 55, 3) := by decide +kernel
theorem dW_law_367 : decode code 367 = .ok (.if_icmp .eq 173, 3) := by decide +kernel
theorem dW_law_370 : decode code 370 = .ok (.iconst 0, 1) := by decide +kernel
theorem dW_law_371 : decode code 371 = .ok (.ireturn, 1) := by decide +kernel
theorem dW_law_372 : decode code 372 = .ok (.aload_n 1, 1) := by decide +kernel
theorem dW_law_373 : decode code 373 = .ok (.aload_n 0, 1) := by decide +kernel
theorem dW_law_374 : decode code 374 = .ok (.iload_n 3, 1) := by decide +kernel
theorem dW_law_375 : decode code 375 = .ok (.iconst 1, 1) := by decide +kernel
theorem dW_law_376 : decode code 376 = .ok (.iadd, 1) := by decide +kernel
theorem dW_law_377 : decode code 377 = .ok (.iaload, 1) := by decide +kernel
theorem dW_law_378 : decode code 378 = .ok (.aload_n 0, 1) := by decide +kernel
theorem dW_law_379 : decode code 379 = .ok (.iload_n 3, 1) := by decide +kernel
theorem dW_law_380 : decode code 380 = .ok (.iconst 2, 1) := by decide +kernel
theorem dW_law_381 : decode code 381 = .ok (.iadd, 1) := by decide +kernel
theorem dW_law_382 : decode code 382 = .ok (.iaload, 1) := by decide +kernel
theorem dW_law_383 : decode code 383 = .ok (.invokevirtual 56, 3) := by decide +kernel
theorem dW_law_386 : decode code 386 = .ok (.aload_n 2, 1) := by decide +kernel
theorem dW_law_387 : decode code 387 = .ok (.aload_n 0, 1) := by decide +kernel
theorem dW_law_388 : decode code 388 = .ok (.iload_n 3, 1) := by decide +kernel
theorem dW_law_389 : decode code 389 = .ok (.iconst 1, 1) := by decide +kernel
theorem dW_law_390 : decode code 390 = .ok (.iadd, 1) := by decide +kernel
theorem dW_law_391 : decode code 391 = .ok (.iaload, 1) := by decide +kernel
theorem dW_law_392 : decode code 392 = .ok (.aload_n 0, 1) := by decide +kernel
theorem dW_law_393 : decode code 393 = .ok (.iload_n 3, 1) := by decide +kernel
theorem dW_law_394 : decode code 394 = .ok (.iconst 2, 1) := by decide +kernel
theorem dW_law_395 : decode code 395 = .ok (.iadd, 1) := by decide +kernel
theorem dW_law_396 : decode code 396 = .ok (.iaload, 1) := by decide +kernel
theorem dW_law_397 : decode code 397 = .ok (.invokevirtual 59, 3) := by decide +kernel
theorem dW_law_400 : decode code 400 = .ok (.if_icmp .eq 140, 3) := by decide +kernel
theorem dW_law_403 : decode code 403 = .ok (.iconst 0, 1) := by decide +kernel
theorem dW_law_404 : decode code 404 = .ok (.ireturn, 1) := by decide +kernel
theorem dW_law_405 : decode code 405 = .ok (.aload_n 1, 1) := by decide +kernel
theorem dW_law_406 : decode code 406 = .ok (.aload_n 0, 1) := by decide +kernel
theorem dW_law_407 : decode code 407 = .ok (.iload_n 3, 1) := by decide +kernel
theorem dW_law_408 : decode code 408 = .ok (.iconst 1, 1) := by decide +kernel
theorem dW_law_409 : decode code 409 = .ok (.iadd, 1) := by decide +kernel
theorem dW_law_410 : decode code 410 = .ok (.iaload, 1) := by decide +kernel
theorem dW_law_411 : decode code 411 = .ok (.aload_n 0, 1) := by decide +kernel
theorem dW_law_412 : decode code 412 = .ok (.iload_n 3, 1) := by decide +kernel
theorem dW_law_413 : decode code 413 = .ok (.iconst 2, 1) := by decide +kernel
theorem dW_law_414 : decode code 414 = .ok (.iadd, 1) := by decide +kernel
theorem dW_law_415 : decode code 415 = .ok (.iaload, 1) := by decide +kernel
theorem dW_law_416 : decode code 416 = .ok (.aload_n 0, 1) := by decide +kernel
theorem dW_law_417 : decode code 417 = .ok (.iload_n 3, 1) := by decide +kernel
theorem dW_law_418 : decode code 418 = .ok (.iconst 3, 1) := by decide +kernel
theorem dW_law_419 : decode code 419 = .ok (.iadd, 1) := by decide +kernel
theorem dW_law_420 : decode code 420 = .ok (.iaload, 1) := by decide +kernel
theorem dW_law_421 : decode code 421 = .ok (.invokevirtual 60, 3) := by decide +kernel
theorem dW_law_424 : decode code 424 = .ok (.aload_n 2, 1) := by decide +kernel
theorem dW_law_425 : decode code 425 = .ok (.aload_n 0, 1) := by decide +kernel
theorem dW_law_426 : decode code 426 = .ok (.iload_n 3, 1) := by decide +kernel
theorem dW_law_427 : decode code 427 = .ok (.iconst 1, 1) := by decide +kernel
theorem dW_law_428 : decode code 428 = .ok (.iadd, 1) := by decide +kernel
theorem dW_law_429 : decode code 429 = .ok (.iaload, 1) := by decide +kernel
theorem dW_law_430 : decode code 430 = .ok (.aload_n 0, 1) := by decide +kernel
theorem dW_law_431 : decode code 431 = .ok (.iload_n 3, 1) := by decide +kernel
theorem dW_law_432 : decode code 432 = .ok (.iconst 2, 1) := by decide +kernel
theorem dW_law_433 : decode code 433 = .ok (.iadd, 1) := by decide +kernel
theorem dW_law_434 : decode code 434 = .ok (.iaload, 1) := by decide +kernel
theorem dW_law_435 : decode code 435 = .ok (.aload_n 0, 1) := by decide +kernel
theorem dW_law_436 : decode code 436 = .ok (.iload_n 3, 1) := by decide +kernel
theorem dW_law_437 : decode code 437 = .ok (.iconst 3, 1) := by decide +kernel
theorem dW_law_438 : decode code 438 = .ok (.iadd, 1) := by decide +kernel
theorem dW_law_439 : decode code 439 = .ok (.iaload, 1) := by decide +kernel
theorem dW_law_440 : decode code 440 = .ok (.invokevirtual 63, 3) := by decide +kernel
theorem dW_law_443 : decode code 443 = .ok (.if_icmp .eq 97, 3) := by decide +kernel
theorem dW_law_446 : decode code 446 = .ok (.iconst 0, 1) := by decide +kernel
theorem dW_law_447 : decode code 447 = .ok (.ireturn, 1) := by decide +kernel
theorem dW_law_448 : decode code 448 = .ok (.aload_n 1, 1) := by decide +kernel
theorem dW_law_449 : decode code 449 = .ok (.aload_n 0, 1) := by decide +kernel
theorem dW_law_450 : decode code 450 = .ok (.iload_n 3, 1) := by decide +kernel
theorem dW_law_451 : decode code 451 = .ok (.iconst 1, 1) := by decide +kernel
theorem dW_law_452 : decode code 452 = .ok (.iadd, 1) := by decide +kernel
theorem dW_law_453 : decode code 453 = .ok (.iaload, 1) := by decide +kernel
theorem dW_law_454 : decode code 454 = .ok (.invokevirtual 64, 3) := by decide +kernel
theorem dW_law_457 : decode code 457 = .ok (.aload_n 2, 1) := by decide +kernel
theorem dW_law_458 : decode code 458 = .ok (.aload_n 0, 1) := by decide +kernel
theorem dW_law_459 : decode code 459 = .ok (.iload_n 3, 1) := by decide +kernel
theorem dW_law_460 : decode code 460 = .ok (.iconst 1, 1) := by decide +kernel
theorem dW_law_461 : decode code 461 = .ok (.iadd, 1) := by decide +kernel
theorem dW_law_462 : decode code 462 = .ok (.iaload, 1) := by decide +kernel
theorem dW_law_463 : decode code 463 = .ok (.invokevirtual 68, 3) := by decide +kernel
theorem dW_law_466 : decode code 466 = .ok (.if_icmp .eq 74, 3) := by decide +kernel
theorem dW_law_469 : decode code 469 = .ok (.iconst 0, 1) := by decide +kernel
theorem dW_law_470 : decode code 470 = .ok (.ireturn, 1) := by decide +kernel
theorem dW_law_471 : decode code 471 = .ok (.aload_n 1, 1) := by decide +kernel
theorem dW_law_472 : decode code 472 = .ok (.aload_n 0, 1) := by decide +kernel
theorem dW_law_473 : decode code 473 = .ok (.iload_n 3, 1) := by decide +kernel
theorem dW_law_474 : decode code 474 = .ok (.iconst 1, 1) := by decide +kernel
theorem dW_law_475 : decode code 475 = .ok (.iadd, 1) := by decide +kernel
theorem dW_law_476 : decode code 476 = .ok (.iaload, 1) := by decide +kernel
theorem dW_law_477 : decode code 477 = .ok (.invokevirtual 69, 3) := by decide +kernel
theorem dW_law_480 : decode code 480 = .ok (.aload_n 2, 1) := by decide +kernel
theorem dW_law_481 : decode code 481 = .ok (.aload_n 0, 1) := by decide +kernel
theorem dW_law_482 : decode code 482 = .ok (.iload_n 3, 1) := by decide +kernel
theorem dW_law_483 : decode code 483 = .ok (.iconst 1, 1) := by decide +kernel
theorem dW_law_484 : decode code 484 = .ok (.iadd, 1) := by decide +kernel
theorem dW_law_485 : decode code 485 = .ok (.iaload, 1) := by decide +kernel
theorem dW_law_486 : decode code 486 = .ok (.invokevirtual 72, 3) := by decide +kernel
theorem dW_law_489 : decode code 489 = .ok (.if_icmp .eq 51, 3) := by decide +kernel
theorem dW_law_492 : decode code 492 = .ok (.iconst 0, 1) := by decide +kernel
theorem dW_law_493 : decode code 493 = .ok (.ireturn, 1) := by decide +kernel
theorem dW_law_494 : decode code 494 = .ok (.aload_n 1, 1) := by decide +kernel
theorem dW_law_495 : decode code 495 = .ok (.aload_n 0, 1) := by decide +kernel
theorem dW_law_496 : decode code 496 = .ok (.iload_n 3, 1) := by decide +kernel
theorem dW_law_497 : decode code 497 = .ok (.iconst 1, 1) := by decide +kernel
theorem dW_law_498 : decode code 498 = .ok (.iadd, 1) := by decide +kernel
theorem dW_law_499 : decode code 499 = .ok (.iaload, 1) := by decide +kernel
theorem dW_law_500 : decode code 500 = .ok (.invokevirtual 73, 3) := by decide +kernel
theorem dW_law_503 : decode code 503 = .ok (.aload_n 2, 1) := by decide +kernel
theorem dW_law_504 : decode code 504 = .ok (.aload_n 0, 1) := by decide +kernel
theorem dW_law_505 : decode code 505 = .ok (.iload_n 3, 1) := by decide +kernel
theorem dW_law_506 : decode code 506 = .ok (.iconst 1, 1) := by decide +kernel
theorem dW_law_507 : decode code 507 = .ok (.iadd, 1) := by decide +kernel
theorem dW_law_508 : decode code 508 = .ok (.iaload, 1) := by decide +kernel
theorem dW_law_509 : decode code 509 = .ok (.invokevirtual 76, 3) := by decide +kernel
theorem dW_law_512 : decode code 512 = .ok (.if_icmp .eq 28, 3) := by decide +kernel
theorem dW_law_515 : decode code 515 = .ok (.iconst 0, 1) := by decide +kernel
theorem dW_law_516 : decode code 516 = .ok (.ireturn, 1) := by decide +kernel
theorem dW_law_517 : decode code 517 = .ok (.aload_n 1, 1) := by decide +kernel
theorem dW_law_518 : decode code 518 = .ok (.aload_n 0, 1) := by decide +kernel
theorem dW_law_519 : decode code 519 = .ok (.iload_n 3, 1) := by decide +kernel
theorem dW_law_520 : decode code 520 = .ok (.iconst 1, 1) := by decide +kernel
theorem dW_law_521 : decode code 521 = .ok (.iadd, 1) := by decide +kernel
theorem dW_law_522 : decode code 522 = .ok (.iaload, 1) := by decide +kernel
theorem dW_law_523 : decode code 523 = .ok (.invokevirtual 77, 3) := by decide +kernel
theorem dW_law_526 : decode code 526 = .ok (.aload_n 2, 1) := by decide +kernel
theorem dW_law_527 : decode code 527 = .ok (.aload_n 0, 1) := by decide +kernel
theorem dW_law_528 : decode code 528 = .ok (.iload_n 3, 1) := by decide +kernel
theorem dW_law_529 : decode code 529 = .ok (.iconst 1, 1) := by decide +kernel
theorem dW_law_530 : decode code 530 = .ok (.iadd, 1) := by decide +kernel
theorem dW_law_531 : decode code 531 = .ok (.iaload, 1) := by decide +kernel
theorem dW_law_532 : decode code 532 = .ok (.invokevirtual 80, 3) := by decide +kernel
theorem dW_law_535 : decode code 535 = .ok (.if_icmp .eq 5, 3) := by decide +kernel
theorem dW_law_538 : decode code 538 = .ok (.iconst 0, 1) := by decide +kernel
theorem dW_law_539 : decode code 539 = .ok (.ireturn, 1) := by decide +kernel
theorem dW_law_540 : decode code 540 = .ok (.iinc 3 4, 3) := by decide +kernel
theorem dW_law_543 : decode code 543 = .ok (.goto (-525), 3) := by decide +kernel
theorem dW_law_546 : decode code 546 = .ok (.iconst 1, 1) := by decide +kernel
theorem dW_law_547 : decode code 547 = .ok (.ireturn, 1) := by decide +kernel
