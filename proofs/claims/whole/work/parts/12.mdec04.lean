theorem d_MMo_looks_100 : decode b_MMo_looks 100 = .ok (.bipush 9, 2) := by decide +kernel
theorem d_MMo_looks_102 : decode b_MMo_looks 102 = .ok (.invokevirtual 128, 3) := by decide +kernel
theorem d_MMo_looks_105 : decode b_MMo_looks 105 = .ok (.goto 379, 3) := by decide +kernel
theorem d_MMo_looks_108 : decode b_MMo_looks 108 = .ok (.aload_n 0, 1) := by decide +kernel
theorem d_MMo_looks_109 : decode b_MMo_looks 109 = .ok (.getfield 132, 3) := by decide +kernel
theorem d_MMo_looks_112 : decode b_MMo_looks 112 = .ok (.sipush 128, 3) := by decide +kernel
theorem d_MMo_looks_115 : decode b_MMo_looks 115 = .ok (.if_icmp .ge 10, 3) := by decide +kernel
theorem d_MMo_looks_118 : decode b_MMo_looks 118 = .ok (.aload_n 0, 1) := by decide +kernel
theorem d_MMo_looks_119 : decode b_MMo_looks 119 = .ok (.invokevirtual 169, 3) := by decide +kernel
theorem d_MMo_looks_122 : decode b_MMo_looks 122 = .ok (.goto 362, 3) := by decide +kernel
theorem d_MMo_looks_125 : decode b_MMo_looks 125 = .ok (.aload_n 0, 1) := by decide +kernel
theorem d_MMo_looks_126 : decode b_MMo_looks 126 = .ok (.getfield 132, 3) := by decide +kernel
theorem d_MMo_looks_129 : decode b_MMo_looks 129 = .ok (.sipush 192, 3) := by decide +kernel
theorem d_MMo_looks_132 : decode b_MMo_looks 132 = .ok (.if_icmp .ge 150, 3) := by decide +kernel
theorem d_MMo_looks_135 : decode b_MMo_looks 135 = .ok (.aload_n 0, 1) := by decide +kernel
theorem d_MMo_looks_136 : decode b_MMo_looks 136 = .ok (.invokevirtual 159, 3) := by decide +kernel
theorem d_MMo_looks_139 : decode b_MMo_looks 139 = .ok (.aload_n 0, 1) := by decide +kernel
theorem d_MMo_looks_140 : decode b_MMo_looks 140 = .ok (.invokevirtual 163, 3) := by decide +kernel
theorem d_MMo_looks_143 : decode b_MMo_looks 143 = .ok (.isub, 1) := by decide +kernel
theorem d_MMo_looks_144 : decode b_MMo_looks 144 = .ok (.bipush 16, 2) := by decide +kernel
theorem d_MMo_looks_146 : decode b_MMo_looks 146 = .ok (.iadd, 1) := by decide +kernel
theorem d_MMo_looks_147 : decode b_MMo_looks 147 = .ok (.bipush 15, 2) := by decide +kernel
theorem d_MMo_looks_149 : decode b_MMo_looks 149 = .ok (.iand, 1) := by decide +kernel
theorem d_MMo_looks_150 : decode b_MMo_looks 150 = .ok (.iconst 1, 1) := by decide +kernel
theorem d_MMo_looks_151 : decode b_MMo_looks 151 = .ok (.iadd, 1) := by decide +kernel
theorem d_MMo_looks_152 : decode b_MMo_looks 152 = .ok (.istore 4, 2) := by decide +kernel
theorem d_MMo_looks_154 : decode b_MMo_looks 154 = .ok (.aload_n 0, 1) := by decide +kernel
theorem d_MMo_looks_155 : decode b_MMo_looks 155 = .ok (.aload_n 0, 1) := by decide +kernel
theorem d_MMo_looks_156 : decode b_MMo_looks 156 = .ok (.getfield 132, 3) := by decide +kernel
theorem d_MMo_looks_159 : decode b_MMo_looks 159 = .ok (.sipush 144, 3) := by decide +kernel
theorem d_MMo_looks_162 : decode b_MMo_looks 162 = .ok (.if_icmp .eq 13, 3) := by decide +kernel
theorem d_MMo_looks_165 : decode b_MMo_looks 165 = .ok (.aload_n 0, 1) := by decide +kernel
theorem d_MMo_looks_166 : decode b_MMo_looks 166 = .ok (.getfield 132, 3) := by decide +kernel
theorem d_MMo_looks_169 : decode b_MMo_looks 169 = .ok (.sipush 152, 3) := by decide +kernel
theorem d_MMo_looks_172 : decode b_MMo_looks 172 = .ok (.if_icmp .ne 16, 3) := by decide +kernel
theorem d_MMo_looks_175 : decode b_MMo_looks 175 = .ok (.aload_n 0, 1) := by decide +kernel
theorem d_MMo_looks_176 : decode b_MMo_looks 176 = .ok (.getfield 152, 3) := by decide +kernel
theorem d_MMo_looks_179 : decode b_MMo_looks 179 = .ok (.iconst 3, 1) := by decide +kernel
theorem d_MMo_looks_180 : decode b_MMo_looks 180 = .ok (.iand, 1) := by decide +kernel
theorem d_MMo_looks_181 : decode b_MMo_looks 181 = .ok (.ifCond .le 7, 3) := by decide +kernel
theorem d_MMo_looks_184 : decode b_MMo_looks 184 = .ok (.iconst 1, 1) := by decide +kernel
theorem d_MMo_looks_185 : decode b_MMo_looks 185 = .ok (.goto 4, 3) := by decide +kernel
theorem d_MMo_looks_188 : decode b_MMo_looks 188 = .ok (.iconst 0, 1) := by decide +kernel
theorem d_MMo_looks_189 : decode b_MMo_looks 189 = .ok (.bipush 6, 2) := by decide +kernel
theorem d_MMo_looks_191 : decode b_MMo_looks 191 = .ok (.invokevirtual 128, 3) := by decide +kernel
theorem d_MMo_looks_194 : decode b_MMo_looks 194 = .ok (.aload_n 0, 1) := by decide +kernel
theorem d_MMo_looks_195 : decode b_MMo_looks 195 = .ok (.aload_n 0, 1) := by decide +kernel
theorem d_MMo_looks_196 : decode b_MMo_looks 196 = .ok (.getfield 132, 3) := by decide +kernel
theorem d_MMo_looks_199 : decode b_MMo_looks 199 = .ok (.sipush 144, 3) := by decide +kernel
theorem d_MMo_looks_202 : decode b_MMo_looks 202 = .ok (.if_icmp .eq 13, 3) := by decide +kernel
theorem d_MMo_looks_205 : decode b_MMo_looks 205 = .ok (.aload_n 0, 1) := by decide +kernel
theorem d_MMo_looks_206 : decode b_MMo_looks 206 = .ok (.getfield 132, 3) := by decide +kernel
theorem d_MMo_looks_209 : decode b_MMo_looks 209 = .ok (.sipush 152, 3) := by decide +kernel
theorem d_MMo_looks_212 : decode b_MMo_looks 212 = .ok (.if_icmp .ne 21, 3) := by decide +kernel
theorem d_MMo_looks_215 : decode b_MMo_looks 215 = .ok (.aload_n 0, 1) := by decide +kernel
theorem d_MMo_looks_216 : decode b_MMo_looks 216 = .ok (.getfield 152, 3) := by decide +kernel
theorem d_MMo_looks_219 : decode b_MMo_looks 219 = .ok (.iconst 4, 1) := by decide +kernel
theorem d_MMo_looks_220 : decode b_MMo_looks 220 = .ok (.iload 4, 2) := by decide +kernel
theorem d_MMo_looks_222 : decode b_MMo_looks 222 = .ok (.imul, 1) := by decide +kernel
theorem d_MMo_looks_223 : decode b_MMo_looks 223 = .ok (.invokestatic 53, 3) := by decide +kernel
theorem d_MMo_looks_226 : decode b_MMo_looks 226 = .ok (.ifCond .ne 7, 3) := by decide +kernel
theorem d_MMo_looks_229 : decode b_MMo_looks 229 = .ok (.iconst 1, 1) := by decide +kernel
theorem d_MMo_looks_230 : decode b_MMo_looks 230 = .ok (.goto 4, 3) := by decide +kernel
theorem d_MMo_looks_233 : decode b_MMo_looks 233 = .ok (.iconst 0, 1) := by decide +kernel
theorem d_MMo_looks_234 : decode b_MMo_looks 234 = .ok (.iconst 5, 1) := by decide +kernel
theorem d_MMo_looks_235 : decode b_MMo_looks 235 = .ok (.invokevirtual 128, 3) := by decide +kernel
theorem d_MMo_looks_238 : decode b_MMo_looks 238 = .ok (.aload_n 0, 1) := by decide +kernel
theorem d_MMo_looks_239 : decode b_MMo_looks 239 = .ok (.aload_n 0, 1) := by decide +kernel
theorem d_MMo_looks_240 : decode b_MMo_looks 240 = .ok (.getfield 132, 3) := by decide +kernel
theorem d_MMo_looks_243 : decode b_MMo_looks 243 = .ok (.sipush 144, 3) := by decide +kernel
theorem d_MMo_looks_246 : decode b_MMo_looks 246 = .ok (.if_icmp .le 28, 3) := by decide +kernel
theorem d_MMo_looks_249 : decode b_MMo_looks 249 = .ok (.aload_n 0, 1) := by decide +kernel
theorem d_MMo_looks_250 : decode b_MMo_looks 250 = .ok (.getfield 132, 3) := by decide +kernel
theorem d_MMo_looks_253 : decode b_MMo_looks 253 = .ok (.sipush 152, 3) := by decide +kernel
theorem d_MMo_looks_256 : decode b_MMo_looks 256 = .ok (.if_icmp .ge 18, 3) := by decide +kernel
theorem d_MMo_looks_259 : decode b_MMo_looks 259 = .ok (.aload_n 0, 1) := by decide +kernel
theorem d_MMo_looks_260 : decode b_MMo_looks 260 = .ok (.getfield 149, 3) := by decide +kernel
theorem d_MMo_looks_263 : decode b_MMo_looks 263 = .ok (.iconst 1, 1) := by decide +kernel
theorem d_MMo_looks_264 : decode b_MMo_looks 264 = .ok (.invokestatic 53, 3) := by decide +kernel
theorem d_MMo_looks_267 : decode b_MMo_looks 267 = .ok (.ifCond .ne 7, 3) := by decide +kernel
theorem d_MMo_looks_270 : decode b_MMo_looks 270 = .ok (.iconst 1, 1) := by decide +kernel
theorem d_MMo_looks_271 : decode b_MMo_looks 271 = .ok (.goto 4, 3) := by decide +kernel
theorem d_MMo_looks_274 : decode b_MMo_looks 274 = .ok (.iconst 0, 1) := by decide +kernel
theorem d_MMo_looks_275 : decode b_MMo_looks 275 = .ok (.iconst 5, 1) := by decide +kernel
theorem d_MMo_looks_276 : decode b_MMo_looks 276 = .ok (.invokevirtual 128, 3) := by decide +kernel
theorem d_MMo_looks_279 : decode b_MMo_looks 279 = .ok (.goto 205, 3) := by decide +kernel
theorem d_MMo_looks_282 : decode b_MMo_looks 282 = .ok (.aload_n 0, 1) := by decide +kernel
theorem d_MMo_looks_283 : decode b_MMo_looks 283 = .ok (.getfield 132, 3) := by decide +kernel
theorem d_MMo_looks_286 : decode b_MMo_looks 286 = .ok (.sipush 240, 3) := by decide +kernel
theorem d_MMo_looks_289 : decode b_MMo_looks 289 = .ok (.if_icmp .ge 83, 3) := by decide +kernel
theorem d_MMo_looks_292 : decode b_MMo_looks 292 = .ok (.aload_n 0, 1) := by decide +kernel
theorem d_MMo_looks_293 : decode b_MMo_looks 293 = .ok (.aload_n 0, 1) := by decide +kernel
theorem d_MMo_looks_294 : decode b_MMo_looks 294 = .ok (.getfield 149, 3) := by decide +kernel
theorem d_MMo_looks_297 : decode b_MMo_looks 297 = .ok (.iload_n 1, 1) := by decide +kernel
theorem d_MMo_looks_298 : decode b_MMo_looks 298 = .ok (.invokestatic 53, 3) := by decide +kernel
theorem d_MMo_looks_301 : decode b_MMo_looks 301 = .ok (.ifCond .eq 24, 3) := by decide +kernel
theorem d_MMo_looks_304 : decode b_MMo_looks 304 = .ok (.aload_n 0, 1) := by decide +kernel
theorem d_MMo_looks_305 : decode b_MMo_looks 305 = .ok (.getfield 132, 3) := by decide +kernel
theorem d_MMo_looks_308 : decode b_MMo_looks 308 = .ok (.sipush 220, 3) := by decide +kernel
theorem d_MMo_looks_311 : decode b_MMo_looks 311 = .ok (.if_icmp .eq 18, 3) := by decide +kernel
theorem d_MMo_looks_314 : decode b_MMo_looks 314 = .ok (.aload_n 0, 1) := by decide +kernel
theorem d_MMo_looks_315 : decode b_MMo_looks 315 = .ok (.getfield 152, 3) := by decide +kernel
theorem d_MMo_looks_318 : decode b_MMo_looks 318 = .ok (.iload_n 1, 1) := by decide +kernel
theorem d_MMo_looks_319 : decode b_MMo_looks 319 = .ok (.invokestatic 53, 3) := by decide +kernel
theorem d_MMo_looks_322 : decode b_MMo_looks 322 = .ok (.ifCond .ne 7, 3) := by decide +kernel
theorem d_MMo_looks_325 : decode b_MMo_looks 325 = .ok (.iconst 1, 1) := by decide +kernel
theorem d_MMo_looks_326 : decode b_MMo_looks 326 = .ok (.goto 4, 3) := by decide +kernel
theorem d_MMo_looks_329 : decode b_MMo_looks 329 = .ok (.iconst 0, 1) := by decide +kernel
theorem d_MMo_looks_330 : decode b_MMo_looks 330 = .ok (.iconst 5, 1) := by decide +kernel
theorem d_MMo_looks_331 : decode b_MMo_looks 331 = .ok (.invokevirtual 128, 3) := by decide +kernel
theorem d_MMo_looks_334 : decode b_MMo_looks 334 = .ok (.aload_n 0, 1) := by decide +kernel
theorem d_MMo_looks_335 : decode b_MMo_looks 335 = .ok (.getfield 132, 3) := by decide +kernel
theorem d_MMo_looks_338 : decode b_MMo_looks 338 = .ok (.sipush 220, 3) := by decide +kernel
theorem d_MMo_looks_341 : decode b_MMo_looks 341 = .ok (.if_icmp .ne 143, 3) := by decide +kernel
theorem d_MMo_looks_344 : decode b_MMo_looks 344 = .ok (.aload_n 0, 1) := by decide +kernel
theorem d_MMo_looks_345 : decode b_MMo_looks 345 = .ok (.getfield 86, 3) := by decide +kernel
theorem d_MMo_looks_348 : decode b_MMo_looks 348 = .ok (.ifCond .ne 136, 3) := by decide +kernel
theorem d_MMo_looks_351 : decode b_MMo_looks 351 = .ok (.aload_n 0, 1) := by decide +kernel
theorem d_MMo_looks_352 : decode b_MMo_looks 352 = .ok (.aload_n 0, 1) := by decide +kernel
theorem d_MMo_looks_353 : decode b_MMo_looks 353 = .ok (.iload_n 1, 1) := by decide +kernel
theorem d_MMo_looks_354 : decode b_MMo_looks 354 = .ok (.invokevirtual 172, 3) := by decide +kernel
theorem d_MMo_looks_357 : decode b_MMo_looks 357 = .ok (.ifCond .ne 7, 3) := by decide +kernel
theorem d_MMo_looks_360 : decode b_MMo_looks 360 = .ok (.iconst 1, 1) := by decide +kernel
theorem d_MMo_looks_361 : decode b_MMo_looks 361 = .ok (.goto 4, 3) := by decide +kernel
theorem d_MMo_looks_364 : decode b_MMo_looks 364 = .ok (.iconst 0, 1) := by decide +kernel
theorem d_MMo_looks_365 : decode b_MMo_looks 365 = .ok (.iconst 5, 1) := by decide +kernel
theorem d_MMo_looks_366 : decode b_MMo_looks 366 = .ok (.invokevirtual 128, 3) := by decide +kernel
theorem d_MMo_looks_369 : decode b_MMo_looks 369 = .ok (.goto 115, 3) := by decide +kernel
theorem d_MMo_looks_372 : decode b_MMo_looks 372 = .ok (.aload_n 0, 1) := by decide +kernel
theorem d_MMo_looks_373 : decode b_MMo_looks 373 = .ok (.getfield 132, 3) := by decide +kernel
theorem d_MMo_looks_376 : decode b_MMo_looks 376 = .ok (.sipush 243, 3) := by decide +kernel
theorem d_MMo_looks_379 : decode b_MMo_looks 379 = .ok (.if_icmp .le 7, 3) := by decide +kernel
theorem d_MMo_looks_382 : decode b_MMo_looks 382 = .ok (.iconst 1, 1) := by decide +kernel
theorem d_MMo_looks_383 : decode b_MMo_looks 383 = .ok (.goto 4, 3) := by decide +kernel
theorem d_MMo_looks_386 : decode b_MMo_looks 386 = .ok (.iconst 0, 1) := by decide +kernel
theorem d_MMo_looks_387 : decode b_MMo_looks 387 = .ok (.istore 4, 2) := by decide +kernel
theorem d_MMo_looks_389 : decode b_MMo_looks 389 = .ok (.aload_n 0, 1) := by decide +kernel
theorem d_MMo_looks_390 : decode b_MMo_looks 390 = .ok (.iload 4, 2) := by decide +kernel
theorem d_MMo_looks_392 : decode b_MMo_looks 392 = .ok (.ifCond .eq 15, 3) := by decide +kernel
theorem d_MMo_looks_395 : decode b_MMo_looks 395 = .ok (.iload_n 3, 1) := by decide +kernel
theorem d_MMo_looks_396 : decode b_MMo_looks 396 = .ok (.bipush 8, 2) := by decide +kernel
theorem d_MMo_looks_398 : decode b_MMo_looks 398 = .ok (.if_icmp .gt 26, 3) := by decide +kernel
theorem d_MMo_looks_401 : decode b_MMo_looks 401 = .ok (.iload_n 2, 1) := by decide +kernel
theorem d_MMo_looks_402 : decode b_MMo_looks 402 = .ok (.bipush 8, 2) := by decide +kernel
theorem d_MMo_looks_404 : decode b_MMo_looks 404 = .ok (.if_icmp .gt 20, 3) := by decide +kernel
theorem d_MMo_looks_407 : decode b_MMo_looks 407 = .ok (.aload_n 0, 1) := by decide +kernel
theorem d_MMo_looks_408 : decode b_MMo_looks 408 = .ok (.getfield 132, 3) := by decide +kernel
theorem d_MMo_looks_411 : decode b_MMo_looks 411 = .ok (.sipush 251, 3) := by decide +kernel
theorem d_MMo_looks_414 : decode b_MMo_looks 414 = .ok (.if_icmp .le 14, 3) := by decide +kernel
theorem d_MMo_looks_417 : decode b_MMo_looks 417 = .ok (.iload_n 2, 1) := by decide +kernel
theorem d_MMo_looks_418 : decode b_MMo_looks 418 = .ok (.iload_n 3, 1) := by decide +kernel
theorem d_MMo_looks_419 : decode b_MMo_looks 419 = .ok (.iconst 1, 1) := by decide +kernel
theorem d_MMo_looks_420 : decode b_MMo_looks 420 = .ok (.isub, 1) := by decide +kernel
theorem d_MMo_looks_421 : decode b_MMo_looks 421 = .ok (.if_icmp .le 7, 3) := by decide +kernel
theorem d_MMo_looks_424 : decode b_MMo_looks 424 = .ok (.iconst 1, 1) := by decide +kernel
theorem d_MMo_looks_425 : decode b_MMo_looks 425 = .ok (.goto 4, 3) := by decide +kernel
theorem d_MMo_looks_428 : decode b_MMo_looks 428 = .ok (.iconst 0, 1) := by decide +kernel
theorem d_MMo_looks_429 : decode b_MMo_looks 429 = .ok (.bipush 6, 2) := by decide +kernel
theorem d_MMo_looks_431 : decode b_MMo_looks 431 = .ok (.invokevirtual 128, 3) := by decide +kernel
theorem d_MMo_looks_434 : decode b_MMo_looks 434 = .ok (.aload_n 0, 1) := by decide +kernel
theorem d_MMo_looks_435 : decode b_MMo_looks 435 = .ok (.aload_n 0, 1) := by decide +kernel
theorem d_MMo_looks_436 : decode b_MMo_looks 436 = .ok (.getfield 149, 3) := by decide +kernel
theorem d_MMo_looks_439 : decode b_MMo_looks 439 = .ok (.iload_n 3, 1) := by decide +kernel
theorem d_MMo_looks_440 : decode b_MMo_looks 440 = .ok (.invokestatic 53, 3) := by decide +kernel
theorem d_MMo_looks_443 : decode b_MMo_looks 443 = .ok (.ifCond .eq 14, 3) := by decide +kernel
theorem d_MMo_looks_446 : decode b_MMo_looks 446 = .ok (.aload_n 0, 1) := by decide +kernel
theorem d_MMo_looks_447 : decode b_MMo_looks 447 = .ok (.getfield 152, 3) := by decide +kernel
theorem d_MMo_looks_450 : decode b_MMo_looks 450 = .ok (.iload_n 2, 1) := by decide +kernel
theorem d_MMo_looks_451 : decode b_MMo_looks 451 = .ok (.invokestatic 53, 3) := by decide +kernel
theorem d_MMo_looks_454 : decode b_MMo_looks 454 = .ok (.ifCond .ne 7, 3) := by decide +kernel
theorem d_MMo_looks_457 : decode b_MMo_looks 457 = .ok (.iconst 1, 1) := by decide +kernel
theorem d_MMo_looks_458 : decode b_MMo_looks 458 = .ok (.goto 4, 3) := by decide +kernel
theorem d_MMo_looks_461 : decode b_MMo_looks 461 = .ok (.iconst 0, 1) := by decide +kernel
theorem d_MMo_looks_462 : decode b_MMo_looks 462 = .ok (.iconst 5, 1) := by decide +kernel
theorem d_MMo_looks_463 : decode b_MMo_looks 463 = .ok (.invokevirtual 128, 3) := by decide +kernel
theorem d_MMo_looks_466 : decode b_MMo_looks 466 = .ok (.iload 4, 2) := by decide +kernel
theorem d_MMo_looks_468 : decode b_MMo_looks 468 = .ok (.ifCond .eq 16, 3) := by decide +kernel
theorem d_MMo_looks_471 : decode b_MMo_looks 471 = .ok (.aload_n 0, 1) := by decide +kernel
theorem d_MMo_looks_472 : decode b_MMo_looks 472 = .ok (.getfield 86, 3) := by decide +kernel
theorem d_MMo_looks_475 : decode b_MMo_looks 475 = .ok (.ifCond .ne 9, 3) := by decide +kernel
theorem d_MMo_looks_478 : decode b_MMo_looks 478 = .ok (.aload_n 0, 1) := by decide +kernel
theorem d_MMo_looks_479 : decode b_MMo_looks 479 = .ok (.iload_n 3, 1) := by decide +kernel
theorem d_MMo_looks_480 : decode b_MMo_looks 480 = .ok (.iload_n 2, 1) := by decide +kernel
theorem d_MMo_looks_481 : decode b_MMo_looks 481 = .ok (.invokevirtual 175, 3) := by decide +kernel
theorem d_MMo_looks_484 : decode b_MMo_looks 484 = .ok (.return_, 1) := by decide +kernel
theorem d_MMo_unpacks_0 : decode b_MMo_unpacks 0 = .ok (.iconst 0, 1) := by decide +kernel
theorem d_MMo_unpacks_1 : decode b_MMo_unpacks 1 = .ok (.istore 5, 2) := by decide +kernel
theorem d_MMo_unpacks_3 : decode b_MMo_unpacks 3 = .ok (.iload 5, 2) := by decide +kernel
theorem d_MMo_unpacks_5 : decode b_MMo_unpacks 5 = .ok (.iload_n 2, 1) := by decide +kernel
theorem d_MMo_unpacks_6 : decode b_MMo_unpacks 6 = .ok (.if_icmp .ge 71, 3) := by decide +kernel
theorem d_MMo_unpacks_9 : decode b_MMo_unpacks 9 = .ok (.iload_n 2, 1) := by decide +kernel
theorem d_MMo_unpacks_10 : decode b_MMo_unpacks 10 = .ok (.iconst 1, 1) := by decide +kernel
theorem d_MMo_unpacks_11 : decode b_MMo_unpacks 11 = .ok (.isub, 1) := by decide +kernel
theorem d_MMo_unpacks_12 : decode b_MMo_unpacks 12 = .ok (.iload 5, 2) := by decide +kernel
theorem d_MMo_unpacks_14 : decode b_MMo_unpacks 14 = .ok (.isub, 1) := by decide +kernel
theorem d_MMo_unpacks_15 : decode b_MMo_unpacks 15 = .ok (.istore 6, 2) := by decide +kernel
theorem d_MMo_unpacks_17 : decode b_MMo_unpacks 17 = .ok (.aload_n 3, 1) := by decide +kernel
theorem d_MMo_unpacks_18 : decode b_MMo_unpacks 18 = .ok (.iconst 2, 1) := by decide +kernel
theorem d_MMo_unpacks_19 : decode b_MMo_unpacks 19 = .ok (.iload 6, 2) := by decide +kernel
theorem d_MMo_unpacks_21 : decode b_MMo_unpacks 21 = .ok (.imul, 1) := by decide +kernel
theorem d_MMo_unpacks_22 : decode b_MMo_unpacks 22 = .ok (.iaload, 1) := by decide +kernel
theorem d_MMo_unpacks_23 : decode b_MMo_unpacks 23 = .ok (.istore 7, 2) := by decide +kernel
theorem d_MMo_unpacks_25 : decode b_MMo_unpacks 25 = .ok (.iload 6, 2) := by decide +kernel
theorem d_MMo_unpacks_27 : decode b_MMo_unpacks 27 = .ok (.ifCond .ne 18, 3) := by decide +kernel
theorem d_MMo_unpacks_30 : decode b_MMo_unpacks 30 = .ok (.iload 4, 2) := by decide +kernel
theorem d_MMo_unpacks_32 : decode b_MMo_unpacks 32 = .ok (.ifCond .eq 8, 3) := by decide +kernel
theorem d_MMo_unpacks_35 : decode b_MMo_unpacks 35 = .ok (.bipush 13, 2) := by decide +kernel
theorem d_MMo_unpacks_37 : decode b_MMo_unpacks 37 = .ok (.goto 16, 3) := by decide +kernel
theorem d_MMo_unpacks_40 : decode b_MMo_unpacks 40 = .ok (.bipush 12, 2) := by decide +kernel
theorem d_MMo_unpacks_42 : decode b_MMo_unpacks 42 = .ok (.goto 11, 3) := by decide +kernel
theorem d_MMo_unpacks_45 : decode b_MMo_unpacks 45 = .ok (.aload_n 3, 1) := by decide +kernel
theorem d_MMo_unpacks_46 : decode b_MMo_unpacks 46 = .ok (.iconst 2, 1) := by decide +kernel
theorem d_MMo_unpacks_47 : decode b_MMo_unpacks 47 = .ok (.iload 6, 2) := by decide +kernel
theorem d_MMo_unpacks_49 : decode b_MMo_unpacks 49 = .ok (.imul, 1) := by decide +kernel
theorem d_MMo_unpacks_50 : decode b_MMo_unpacks 50 = .ok (.iconst 1, 1) := by decide +kernel
theorem d_MMo_unpacks_51 : decode b_MMo_unpacks 51 = .ok (.isub, 1) := by decide +kernel
theorem d_MMo_unpacks_52 : decode b_MMo_unpacks 52 = .ok (.iaload, 1) := by decide +kernel
theorem d_MMo_unpacks_53 : decode b_MMo_unpacks 53 = .ok (.istore 8, 2) := by decide +kernel
theorem d_MMo_unpacks_55 : decode b_MMo_unpacks 55 = .ok (.aload_n 0, 1) := by decide +kernel
theorem d_MMo_unpacks_56 : decode b_MMo_unpacks 56 = .ok (.getfield 7, 3) := by decide +kernel
theorem d_MMo_unpacks_59 : decode b_MMo_unpacks 59 = .ok (.iload_n 1, 1) := by decide +kernel
theorem d_MMo_unpacks_60 : decode b_MMo_unpacks 60 = .ok (.iload 5, 2) := by decide +kernel
theorem d_MMo_unpacks_62 : decode b_MMo_unpacks 62 = .ok (.iadd, 1) := by decide +kernel
theorem d_MMo_unpacks_63 : decode b_MMo_unpacks 63 = .ok (.iload 7, 2) := by decide +kernel
theorem d_MMo_unpacks_65 : decode b_MMo_unpacks 65 = .ok (.iconst 4, 1) := by decide +kernel
theorem d_MMo_unpacks_66 : decode b_MMo_unpacks 66 = .ok (.ishl, 1) := by decide +kernel
theorem d_MMo_unpacks_67 : decode b_MMo_unpacks 67 = .ok (.iload 8, 2) := by decide +kernel
theorem d_MMo_unpacks_69 : decode b_MMo_unpacks 69 = .ok (.ior, 1) := by decide +kernel
theorem d_MMo_unpacks_70 : decode b_MMo_unpacks 70 = .ok (.iastore, 1) := by decide +kernel
theorem d_MMo_unpacks_71 : decode b_MMo_unpacks 71 = .ok (.iinc 5 1, 3) := by decide +kernel
theorem d_MMo_unpacks_74 : decode b_MMo_unpacks 74 = .ok (.goto (-71), 3) := by decide +kernel
theorem d_MMo_unpacks_77 : decode b_MMo_unpacks 77 = .ok (.return_, 1) := by decide +kernel
theorem d_MMo_against_0 : decode b_MMo_against 0 = .ok (.bipush 31, 2) := by decide +kernel
theorem d_MMo_against_2 : decode b_MMo_against 2 = .ok (.istore_n 2, 1) := by decide +kernel
theorem d_MMo_against_3 : decode b_MMo_against 3 = .ok (.iload_n 2, 1) := by decide +kernel
theorem d_MMo_against_4 : decode b_MMo_against 4 = .ok (.ifCond .lt 33, 3) := by decide +kernel
theorem d_MMo_against_7 : decode b_MMo_against 7 = .ok (.aload_n 0, 1) := by decide +kernel
theorem d_MMo_against_8 : decode b_MMo_against 8 = .ok (.iload_n 2, 1) := by decide +kernel
theorem d_MMo_against_9 : decode b_MMo_against 9 = .ok (.iaload, 1) := by decide +kernel
theorem d_MMo_against_10 : decode b_MMo_against 10 = .ok (.aload_n 1, 1) := by decide +kernel
theorem d_MMo_against_11 : decode b_MMo_against 11 = .ok (.iload_n 2, 1) := by decide +kernel
theorem d_MMo_against_12 : decode b_MMo_against 12 = .ok (.iaload, 1) := by decide +kernel
theorem d_MMo_against_13 : decode b_MMo_against 13 = .ok (.if_icmp .eq 18, 3) := by decide +kernel
theorem d_MMo_against_16 : decode b_MMo_against 16 = .ok (.aload_n 0, 1) := by decide +kernel
theorem d_MMo_against_17 : decode b_MMo_against 17 = .ok (.iload_n 2, 1) := by decide +kernel
theorem d_MMo_against_18 : decode b_MMo_against 18 = .ok (.iaload, 1) := by decide +kernel
theorem d_MMo_against_19 : decode b_MMo_against 19 = .ok (.aload_n 1, 1) := by decide +kernel
theorem d_MMo_against_20 : decode b_MMo_against 20 = .ok (.iload_n 2, 1) := by decide +kernel
theorem d_MMo_against_21 : decode b_MMo_against 21 = .ok (.iaload, 1) := by decide +kernel
theorem d_MMo_against_22 : decode b_MMo_against 22 = .ok (.if_icmp .ge 7, 3) := by decide +kernel
theorem d_MMo_against_25 : decode b_MMo_against 25 = .ok (.iconst (-1), 1) := by decide +kernel
theorem d_MMo_against_26 : decode b_MMo_against 26 = .ok (.goto 4, 3) := by decide +kernel
theorem d_MMo_against_29 : decode b_MMo_against 29 = .ok (.iconst 1, 1) := by decide +kernel
theorem d_MMo_against_30 : decode b_MMo_against 30 = .ok (.ireturn, 1) := by decide +kernel
theorem d_MMo_against_31 : decode b_MMo_against 31 = .ok (.iinc 2 (-1), 3) := by decide +kernel
theorem d_MMo_against_34 : decode b_MMo_against 34 = .ok (.goto (-31), 3) := by decide +kernel
theorem d_MMo_against_37 : decode b_MMo_against 37 = .ok (.iconst 0, 1) := by decide +kernel
theorem d_MMo_against_38 : decode b_MMo_against 38 = .ok (.ireturn, 1) := by decide +kernel
theorem d_MMo_decimal_0 : decode b_MMo_decimal 0 = .ok (.aload_n 0, 1) := by decide +kernel
theorem d_MMo_decimal_1 : decode b_MMo_decimal 1 = .ok (.getfield 25, 3) := by decide +kernel
theorem d_MMo_decimal_4 : decode b_MMo_decimal 4 = .ok (.invokestatic 199, 3) := by decide +kernel
theorem d_MMo_decimal_7 : decode b_MMo_decimal 7 = .ok (.istore_n 3, 1) := by decide +kernel
theorem d_MMo_decimal_8 : decode b_MMo_decimal 8 = .ok (.iconst 1, 1) := by decide +kernel
theorem d_MMo_decimal_9 : decode b_MMo_decimal 9 = .ok (.istore 4, 2) := by decide +kernel
theorem d_MMo_decimal_11 : decode b_MMo_decimal 11 = .ok (.iconst 2, 1) := by decide +kernel
theorem d_MMo_decimal_12 : decode b_MMo_decimal 12 = .ok (.iload_n 1, 1) := by decide +kernel
theorem d_MMo_decimal_13 : decode b_MMo_decimal 13 = .ok (.imul, 1) := by decide +kernel
theorem d_MMo_decimal_14 : decode b_MMo_decimal 14 = .ok (.iconst 1, 1) := by decide +kernel
theorem d_MMo_decimal_15 : decode b_MMo_decimal 15 = .ok (.isub, 1) := by decide +kernel
theorem d_MMo_decimal_16 : decode b_MMo_decimal 16 = .ok (.istore 5, 2) := by decide +kernel
theorem d_MMo_decimal_18 : decode b_MMo_decimal 18 = .ok (.iload 5, 2) := by decide +kernel
theorem d_MMo_decimal_20 : decode b_MMo_decimal 20 = .ok (.bipush 32, 2) := by decide +kernel
theorem d_MMo_decimal_22 : decode b_MMo_decimal 22 = .ok (.if_icmp .ge 29, 3) := by decide +kernel
theorem d_MMo_decimal_25 : decode b_MMo_decimal 25 = .ok (.iload 4, 2) := by decide +kernel
theorem d_MMo_decimal_27 : decode b_MMo_decimal 27 = .ok (.aload_n 0, 1) := by decide +kernel
theorem d_MMo_decimal_28 : decode b_MMo_decimal 28 = .ok (.getfield 25, 3) := by decide +kernel
theorem d_MMo_decimal_31 : decode b_MMo_decimal 31 = .ok (.iload 5, 2) := by decide +kernel
theorem d_MMo_decimal_33 : decode b_MMo_decimal 33 = .ok (.iaload, 1) := by decide +kernel
theorem d_MMo_decimal_34 : decode b_MMo_decimal 34 = .ok (.ifCond .ne 7, 3) := by decide +kernel
theorem d_MMo_decimal_37 : decode b_MMo_decimal 37 = .ok (.iconst 1, 1) := by decide +kernel
theorem d_MMo_decimal_38 : decode b_MMo_decimal 38 = .ok (.goto 4, 3) := by decide +kernel
theorem d_MMo_decimal_41 : decode b_MMo_decimal 41 = .ok (.iconst 0, 1) := by decide +kernel
theorem d_MMo_decimal_42 : decode b_MMo_decimal 42 = .ok (.iand, 1) := by decide +kernel
theorem d_MMo_decimal_43 : decode b_MMo_decimal 43 = .ok (.istore 4, 2) := by decide +kernel
theorem d_MMo_decimal_45 : decode b_MMo_decimal 45 = .ok (.iinc 5 1, 3) := by decide +kernel
theorem d_MMo_decimal_48 : decode b_MMo_decimal 48 = .ok (.goto (-30), 3) := by decide +kernel
theorem d_MMo_decimal_51 : decode b_MMo_decimal 51 = .ok (.aload_n 0, 1) := by decide +kernel
theorem d_MMo_decimal_52 : decode b_MMo_decimal 52 = .ok (.aload_n 0, 1) := by decide +kernel
theorem d_MMo_decimal_53 : decode b_MMo_decimal 53 = .ok (.getfield 149, 3) := by decide +kernel
theorem d_MMo_decimal_56 : decode b_MMo_decimal 56 = .ok (.iload_n 1, 1) := by decide +kernel
theorem d_MMo_decimal_57 : decode b_MMo_decimal 57 = .ok (.aload_n 0, 1) := by decide +kernel
theorem d_MMo_decimal_58 : decode b_MMo_decimal 58 = .ok (.getfield 25, 3) := by decide +kernel
theorem d_MMo_decimal_61 : decode b_MMo_decimal 61 = .ok (.iload_n 2, 1) := by decide +kernel
theorem d_MMo_decimal_62 : decode b_MMo_decimal 62 = .ok (.ifCond .eq 16, 3) := by decide +kernel
theorem d_MMo_decimal_65 : decode b_MMo_decimal 65 = .ok (.iload_n 3, 1) := by decide +kernel
theorem d_MMo_decimal_66 : decode b_MMo_decimal 66 = .ok (.ifCond .eq 8, 3) := by decide +kernel
theorem d_MMo_decimal_69 : decode b_MMo_decimal 69 = .ok (.iload 4, 2) := by decide +kernel
theorem d_MMo_decimal_71 : decode b_MMo_decimal 71 = .ok (.ifCond .ne 7, 3) := by decide +kernel
theorem d_MMo_decimal_74 : decode b_MMo_decimal 74 = .ok (.iconst 1, 1) := by decide +kernel
theorem d_MMo_decimal_75 : decode b_MMo_decimal 75 = .ok (.goto 4, 3) := by decide +kernel
theorem d_MMo_decimal_78 : decode b_MMo_decimal 78 = .ok (.iconst 0, 1) := by decide +kernel
theorem d_MMo_decimal_79 : decode b_MMo_decimal 79 = .ok (.invokevirtual 216, 3) := by decide +kernel
theorem d_MMo_decimal_82 : decode b_MMo_decimal 82 = .ok (.aload_n 0, 1) := by decide +kernel
theorem d_MMo_decimal_83 : decode b_MMo_decimal 83 = .ok (.iload 4, 2) := by decide +kernel
theorem d_MMo_decimal_85 : decode b_MMo_decimal 85 = .ok (.ifCond .ne 7, 3) := by decide +kernel
theorem d_MMo_decimal_88 : decode b_MMo_decimal 88 = .ok (.iconst 3, 1) := by decide +kernel
theorem d_MMo_decimal_89 : decode b_MMo_decimal 89 = .ok (.goto 20, 3) := by decide +kernel
theorem d_MMo_decimal_92 : decode b_MMo_decimal 92 = .ok (.iload_n 3, 1) := by decide +kernel
theorem d_MMo_decimal_93 : decode b_MMo_decimal 93 = .ok (.ifCond .eq 7, 3) := by decide +kernel
theorem d_MMo_decimal_96 : decode b_MMo_decimal 96 = .ok (.iconst 0, 1) := by decide +kernel
theorem d_MMo_decimal_97 : decode b_MMo_decimal 97 = .ok (.goto 12, 3) := by decide +kernel
theorem d_MMo_decimal_100 : decode b_MMo_decimal 100 = .ok (.iload_n 2, 1) := by decide +kernel
theorem d_MMo_decimal_101 : decode b_MMo_decimal 101 = .ok (.ifCond .eq 7, 3) := by decide +kernel
theorem d_MMo_decimal_104 : decode b_MMo_decimal 104 = .ok (.iconst 1, 1) := by decide +kernel
theorem d_MMo_decimal_105 : decode b_MMo_decimal 105 = .ok (.goto 4, 3) := by decide +kernel
theorem d_MMo_decimal_108 : decode b_MMo_decimal 108 = .ok (.iconst 2, 1) := by decide +kernel
theorem d_MMo_decimal_109 : decode b_MMo_decimal 109 = .ok (.putfield 73, 3) := by decide +kernel
theorem d_MMo_decimal_112 : decode b_MMo_decimal 112 = .ok (.iload 4, 2) := by decide +kernel
theorem d_MMo_decimal_114 : decode b_MMo_decimal 114 = .ok (.ifCond .ne 18, 3) := by decide +kernel
theorem d_MMo_decimal_117 : decode b_MMo_decimal 117 = .ok (.aload_n 0, 1) := by decide +kernel
theorem d_MMo_decimal_118 : decode b_MMo_decimal 118 = .ok (.getfield 70, 3) := by decide +kernel
theorem d_MMo_decimal_121 : decode b_MMo_decimal 121 = .ok (.iconst 2, 1) := by decide +kernel
theorem d_MMo_decimal_122 : decode b_MMo_decimal 122 = .ok (.iand, 1) := by decide +kernel
theorem d_MMo_decimal_123 : decode b_MMo_decimal 123 = .ok (.ifCond .le 9, 3) := by decide +kernel
theorem d_MMo_decimal_126 : decode b_MMo_decimal 126 = .ok (.aload_n 0, 1) := by decide +kernel
theorem d_MMo_decimal_127 : decode b_MMo_decimal 127 = .ok (.bipush 10, 2) := by decide +kernel
theorem d_MMo_decimal_129 : decode b_MMo_decimal 129 = .ok (.putfield 86, 3) := by decide +kernel
theorem d_MMo_decimal_132 : decode b_MMo_decimal 132 = .ok (.return_, 1) := by decide +kernel
theorem d_MMo_together_0 : decode b_MMo_together 0 = .ok (.iload_n 2, 1) := by decide +kernel
theorem d_MMo_together_1 : decode b_MMo_together 1 = .ok (.iload_n 3, 1) := by decide +kernel
theorem d_MMo_together_2 : decode b_MMo_together 2 = .ok (.if_icmp .ne 29, 3) := by decide +kernel
theorem d_MMo_together_5 : decode b_MMo_together 5 = .ok (.aload_n 0, 1) := by decide +kernel
theorem d_MMo_together_6 : decode b_MMo_together 6 = .ok (.getfield 25, 3) := by decide +kernel
theorem d_MMo_together_9 : decode b_MMo_together 9 = .ok (.aload_n 0, 1) := by decide +kernel
theorem d_MMo_together_10 : decode b_MMo_together 10 = .ok (.getfield 19, 3) := by decide +kernel
theorem d_MMo_together_13 : decode b_MMo_together 13 = .ok (.aload_n 0, 1) := by decide +kernel
theorem d_MMo_together_14 : decode b_MMo_together 14 = .ok (.getfield 22, 3) := by decide +kernel
theorem d_MMo_together_17 : decode b_MMo_together 17 = .ok (.iconst 1, 1) := by decide +kernel
theorem d_MMo_together_18 : decode b_MMo_together 18 = .ok (.iconst 0, 1) := by decide +kernel
theorem d_MMo_together_19 : decode b_MMo_together 19 = .ok (.invokestatic 212, 3) := by decide +kernel
theorem d_MMo_together_22 : decode b_MMo_together 22 = .ok (.aload_n 0, 1) := by decide +kernel
theorem d_MMo_together_23 : decode b_MMo_together 23 = .ok (.iload_n 1, 1) := by decide +kernel
theorem d_MMo_together_24 : decode b_MMo_together 24 = .ok (.iload_n 2, 1) := by decide +kernel
theorem d_MMo_together_25 : decode b_MMo_together 25 = .ok (.invokevirtual 220, 3) := by decide +kernel
theorem d_MMo_together_28 : decode b_MMo_together 28 = .ok (.goto 66, 3) := by decide +kernel
theorem d_MMo_together_31 : decode b_MMo_together 31 = .ok (.aload_n 0, 1) := by decide +kernel
theorem d_MMo_together_32 : decode b_MMo_together 32 = .ok (.getfield 19, 3) := by decide +kernel
theorem d_MMo_together_35 : decode b_MMo_together 35 = .ok (.aload_n 0, 1) := by decide +kernel
theorem d_MMo_together_36 : decode b_MMo_together 36 = .ok (.getfield 22, 3) := by decide +kernel
theorem d_MMo_together_39 : decode b_MMo_together 39 = .ok (.invokestatic 224, 3) := by decide +kernel
theorem d_MMo_together_42 : decode b_MMo_together 42 = .ok (.ifCond .ge 29, 3) := by decide +kernel
theorem d_MMo_together_45 : decode b_MMo_together 45 = .ok (.aload_n 0, 1) := by decide +kernel
theorem d_MMo_together_46 : decode b_MMo_together 46 = .ok (.getfield 25, 3) := by decide +kernel
theorem d_MMo_together_49 : decode b_MMo_together 49 = .ok (.aload_n 0, 1) := by decide +kernel
theorem d_MMo_together_50 : decode b_MMo_together 50 = .ok (.getfield 22, 3) := by decide +kernel
theorem d_MMo_together_53 : decode b_MMo_together 53 = .ok (.aload_n 0, 1) := by decide +kernel
theorem d_MMo_together_54 : decode b_MMo_together 54 = .ok (.getfield 19, 3) := by decide +kernel
theorem d_MMo_together_57 : decode b_MMo_together 57 = .ok (.iconst (-1), 1) := by decide +kernel
theorem d_MMo_together_58 : decode b_MMo_together 58 = .ok (.iconst 0, 1) := by decide +kernel
theorem d_MMo_together_59 : decode b_MMo_together 59 = .ok (.invokestatic 212, 3) := by decide +kernel
theorem d_MMo_together_62 : decode b_MMo_together 62 = .ok (.aload_n 0, 1) := by decide +kernel
theorem d_MMo_together_63 : decode b_MMo_together 63 = .ok (.iload_n 1, 1) := by decide +kernel
theorem d_MMo_together_64 : decode b_MMo_together 64 = .ok (.iload_n 3, 1) := by decide +kernel
theorem d_MMo_together_65 : decode b_MMo_together 65 = .ok (.invokevirtual 220, 3) := by decide +kernel
theorem d_MMo_together_68 : decode b_MMo_together 68 = .ok (.goto 26, 3) := by decide +kernel
theorem d_MMo_together_71 : decode b_MMo_together 71 = .ok (.aload_n 0, 1) := by decide +kernel
theorem d_MMo_together_72 : decode b_MMo_together 72 = .ok (.getfield 25, 3) := by decide +kernel
theorem d_MMo_together_75 : decode b_MMo_together 75 = .ok (.aload_n 0, 1) := by decide +kernel
theorem d_MMo_together_76 : decode b_MMo_together 76 = .ok (.getfield 19, 3) := by decide +kernel
theorem d_MMo_together_79 : decode b_MMo_together 79 = .ok (.aload_n 0, 1) := by decide +kernel
theorem d_MMo_together_80 : decode b_MMo_together 80 = .ok (.getfield 22, 3) := by decide +kernel
theorem d_MMo_together_83 : decode b_MMo_together 83 = .ok (.iconst (-1), 1) := by decide +kernel
theorem d_MMo_together_84 : decode b_MMo_together 84 = .ok (.iconst 0, 1) := by decide +kernel
theorem d_MMo_together_85 : decode b_MMo_together 85 = .ok (.invokestatic 212, 3) := by decide +kernel
theorem d_MMo_together_88 : decode b_MMo_together 88 = .ok (.aload_n 0, 1) := by decide +kernel
theorem d_MMo_together_89 : decode b_MMo_together 89 = .ok (.iload_n 1, 1) := by decide +kernel
theorem d_MMo_together_90 : decode b_MMo_together 90 = .ok (.iload_n 2, 1) := by decide +kernel
theorem d_MMo_together_91 : decode b_MMo_together 91 = .ok (.invokevirtual 220, 3) := by decide +kernel
theorem d_MMo_together_94 : decode b_MMo_together 94 = .ok (.return_, 1) := by decide +kernel
theorem d_MMo_digits_0 : decode b_MMo_digits 0 = .ok (.aload_n 0, 1) := by decide +kernel
theorem d_MMo_digits_1 : decode b_MMo_digits 1 = .ok (.invokevirtual 163, 3) := by decide +kernel
theorem d_MMo_digits_4 : decode b_MMo_digits 4 = .ok (.iconst 1, 1) := by decide +kernel
theorem d_MMo_digits_5 : decode b_MMo_digits 5 = .ok (.iadd, 1) := by decide +kernel
theorem d_MMo_digits_6 : decode b_MMo_digits 6 = .ok (.istore_n 1, 1) := by decide +kernel
theorem d_MMo_digits_7 : decode b_MMo_digits 7 = .ok (.aload_n 0, 1) := by decide +kernel
theorem d_MMo_digits_8 : decode b_MMo_digits 8 = .ok (.invokevirtual 159, 3) := by decide +kernel
theorem d_MMo_digits_11 : decode b_MMo_digits 11 = .ok (.iconst 1, 1) := by decide +kernel
theorem d_MMo_digits_12 : decode b_MMo_digits 12 = .ok (.iadd, 1) := by decide +kernel
theorem d_MMo_digits_13 : decode b_MMo_digits 13 = .ok (.istore_n 2, 1) := by decide +kernel
theorem d_MMo_digits_14 : decode b_MMo_digits 14 = .ok (.aload_n 0, 1) := by decide +kernel
theorem d_MMo_digits_15 : decode b_MMo_digits 15 = .ok (.getfield 132, 3) := by decide +kernel
theorem d_MMo_digits_18 : decode b_MMo_digits 18 = .ok (.sipush 248, 3) := by decide +kernel
theorem d_MMo_digits_21 : decode b_MMo_digits 21 = .ok (.if_icmp .eq 19, 3) := by decide +kernel
theorem d_MMo_digits_24 : decode b_MMo_digits 24 = .ok (.aload_n 0, 1) := by decide +kernel
theorem d_MMo_digits_25 : decode b_MMo_digits 25 = .ok (.aload_n 0, 1) := by decide +kernel
theorem d_MMo_digits_26 : decode b_MMo_digits 26 = .ok (.getfield 149, 3) := by decide +kernel
theorem d_MMo_digits_29 : decode b_MMo_digits 29 = .ok (.iload_n 1, 1) := by decide +kernel
theorem d_MMo_digits_30 : decode b_MMo_digits 30 = .ok (.invokevirtual 186, 3) := by decide +kernel
theorem d_MMo_digits_33 : decode b_MMo_digits 33 = .ok (.ifCond .eq 7, 3) := by decide +kernel
theorem d_MMo_digits_36 : decode b_MMo_digits 36 = .ok (.iconst 1, 1) := by decide +kernel
theorem d_MMo_digits_37 : decode b_MMo_digits 37 = .ok (.goto 4, 3) := by decide +kernel
theorem d_MMo_digits_40 : decode b_MMo_digits 40 = .ok (.iconst 0, 1) := by decide +kernel
theorem d_MMo_digits_41 : decode b_MMo_digits 41 = .ok (.istore_n 3, 1) := by decide +kernel
theorem d_MMo_digits_42 : decode b_MMo_digits 42 = .ok (.aload_n 0, 1) := by decide +kernel
theorem d_MMo_digits_43 : decode b_MMo_digits 43 = .ok (.aload_n 0, 1) := by decide +kernel
theorem d_MMo_digits_44 : decode b_MMo_digits 44 = .ok (.getfield 152, 3) := by decide +kernel
theorem d_MMo_digits_47 : decode b_MMo_digits 47 = .ok (.iload_n 2, 1) := by decide +kernel
theorem d_MMo_digits_48 : decode b_MMo_digits 48 = .ok (.invokevirtual 186, 3) := by decide +kernel
theorem d_MMo_digits_51 : decode b_MMo_digits 51 = .ok (.istore 4, 2) := by decide +kernel
theorem d_MMo_digits_53 : decode b_MMo_digits 53 = .ok (.aload_n 0, 1) := by decide +kernel
theorem d_MMo_digits_54 : decode b_MMo_digits 54 = .ok (.getfield 132, 3) := by decide +kernel
theorem d_MMo_digits_57 : decode b_MMo_digits 57 = .ok (.tableswitch 246 248 252 #[35, 105, 75, 86, 155], 35) := by decide +kernel
theorem d_MMo_digits_92 : decode b_MMo_digits 92 = .ok (.iconst 0, 1) := by decide +kernel
theorem d_MMo_digits_93 : decode b_MMo_digits 93 = .ok (.istore 5, 2) := by decide +kernel
theorem d_MMo_digits_95 : decode b_MMo_digits 95 = .ok (.iload 5, 2) := by decide +kernel
theorem d_MMo_digits_97 : decode b_MMo_digits 97 = .ok (.bipush 32, 2) := by decide +kernel
theorem d_MMo_digits_99 : decode b_MMo_digits 99 = .ok (.if_icmp .ge 23, 3) := by decide +kernel
theorem d_MMo_digits_102 : decode b_MMo_digits 102 = .ok (.aload_n 0, 1) := by decide +kernel
theorem d_MMo_digits_103 : decode b_MMo_digits 103 = .ok (.getfield 25, 3) := by decide +kernel
theorem d_MMo_digits_106 : decode b_MMo_digits 106 = .ok (.iload 5, 2) := by decide +kernel
theorem d_MMo_digits_108 : decode b_MMo_digits 108 = .ok (.aload_n 0, 1) := by decide +kernel
theorem d_MMo_digits_109 : decode b_MMo_digits 109 = .ok (.getfield 22, 3) := by decide +kernel
theorem d_MMo_digits_112 : decode b_MMo_digits 112 = .ok (.iload 5, 2) := by decide +kernel
theorem d_MMo_digits_114 : decode b_MMo_digits 114 = .ok (.iaload, 1) := by decide +kernel
theorem d_MMo_digits_115 : decode b_MMo_digits 115 = .ok (.iastore, 1) := by decide +kernel
theorem d_MMo_digits_116 : decode b_MMo_digits 116 = .ok (.iinc 5 1, 3) := by decide +kernel
theorem d_MMo_digits_119 : decode b_MMo_digits 119 = .ok (.goto (-24), 3) := by decide +kernel
theorem d_MMo_digits_122 : decode b_MMo_digits 122 = .ok (.aload_n 0, 1) := by decide +kernel
theorem d_MMo_digits_123 : decode b_MMo_digits 123 = .ok (.iload_n 1, 1) := by decide +kernel
theorem d_MMo_digits_124 : decode b_MMo_digits 124 = .ok (.iload 4, 2) := by decide +kernel
theorem d_MMo_digits_126 : decode b_MMo_digits 126 = .ok (.invokevirtual 220, 3) := by decide +kernel
theorem d_MMo_digits_129 : decode b_MMo_digits 129 = .ok (.goto 218, 3) := by decide +kernel
theorem d_MMo_digits_132 : decode b_MMo_digits 132 = .ok (.aload_n 0, 1) := by decide +kernel
theorem d_MMo_digits_133 : decode b_MMo_digits 133 = .ok (.iload_n 1, 1) := by decide +kernel
theorem d_MMo_digits_134 : decode b_MMo_digits 134 = .ok (.iload_n 3, 1) := by decide +kernel
theorem d_MMo_digits_135 : decode b_MMo_digits 135 = .ok (.iload 4, 2) := by decide +kernel
theorem d_MMo_digits_137 : decode b_MMo_digits 137 = .ok (.invokevirtual 228, 3) := by decide +kernel
theorem d_MMo_digits_140 : decode b_MMo_digits 140 = .ok (.goto 207, 3) := by decide +kernel
theorem d_MMo_digits_143 : decode b_MMo_digits 143 = .ok (.aload_n 0, 1) := by decide +kernel
theorem d_MMo_digits_144 : decode b_MMo_digits 144 = .ok (.iload_n 1, 1) := by decide +kernel
theorem d_MMo_digits_145 : decode b_MMo_digits 145 = .ok (.iload_n 3, 1) := by decide +kernel
theorem d_MMo_digits_146 : decode b_MMo_digits 146 = .ok (.iload 4, 2) := by decide +kernel
theorem d_MMo_digits_148 : decode b_MMo_digits 148 = .ok (.ifCond .ne 7, 3) := by decide +kernel
theorem d_MMo_digits_151 : decode b_MMo_digits 151 = .ok (.iconst 1, 1) := by decide +kernel
theorem d_MMo_digits_152 : decode b_MMo_digits 152 = .ok (.goto 4, 3) := by decide +kernel
theorem d_MMo_digits_155 : decode b_MMo_digits 155 = .ok (.iconst 0, 1) := by decide +kernel
theorem d_MMo_digits_156 : decode b_MMo_digits 156 = .ok (.invokevirtual 228, 3) := by decide +kernel
theorem d_MMo_digits_159 : decode b_MMo_digits 159 = .ok (.goto 188, 3) := by decide +kernel
theorem d_MMo_digits_162 : decode b_MMo_digits 162 = .ok (.aload_n 0, 1) := by decide +kernel
theorem d_MMo_digits_163 : decode b_MMo_digits 163 = .ok (.getfield 19, 3) := by decide +kernel
theorem d_MMo_digits_166 : decode b_MMo_digits 166 = .ok (.iload_n 3, 1) := by decide +kernel
theorem d_MMo_digits_167 : decode b_MMo_digits 167 = .ok (.invokestatic 189, 3) := by decide +kernel
theorem d_MMo_digits_170 : decode b_MMo_digits 170 = .ok (.aload_n 0, 1) := by decide +kernel
theorem d_MMo_digits_171 : decode b_MMo_digits 171 = .ok (.getfield 22, 3) := by decide +kernel
theorem d_MMo_digits_174 : decode b_MMo_digits 174 = .ok (.iload 4, 2) := by decide +kernel
theorem d_MMo_digits_176 : decode b_MMo_digits 176 = .ok (.invokestatic 189, 3) := by decide +kernel
theorem d_MMo_digits_179 : decode b_MMo_digits 179 = .ok (.lsub, 1) := by decide +kernel
theorem d_MMo_digits_180 : decode b_MMo_digits 180 = .ok (.lstore 5, 2) := by decide +kernel
theorem d_MMo_digits_182 : decode b_MMo_digits 182 = .ok (.aload_n 0, 1) := by decide +kernel
theorem d_MMo_digits_183 : decode b_MMo_digits 183 = .ok (.lload 5, 2) := by decide +kernel
theorem d_MMo_digits_185 : decode b_MMo_digits 185 = .ok (.lconst 0, 1) := by decide +kernel
theorem d_MMo_digits_186 : decode b_MMo_digits 186 = .ok (.lcmp, 1) := by decide +kernel
theorem d_MMo_digits_187 : decode b_MMo_digits 187 = .ok (.ifCond .ne 7, 3) := by decide +kernel
theorem d_MMo_digits_190 : decode b_MMo_digits 190 = .ok (.iconst 0, 1) := by decide +kernel
theorem d_MMo_digits_191 : decode b_MMo_digits 191 = .ok (.goto 15, 3) := by decide +kernel
theorem d_MMo_digits_194 : decode b_MMo_digits 194 = .ok (.lload 5, 2) := by decide +kernel
theorem d_MMo_digits_196 : decode b_MMo_digits 196 = .ok (.lconst 0, 1) := by decide +kernel
theorem d_MMo_digits_197 : decode b_MMo_digits 197 = .ok (.lcmp, 1) := by decide +kernel
theorem d_MMo_digits_198 : decode b_MMo_digits 198 = .ok (.ifCond .ge 7, 3) := by decide +kernel
theorem d_MMo_digits_201 : decode b_MMo_digits 201 = .ok (.iconst 1, 1) := by decide +kernel
theorem d_MMo_digits_202 : decode b_MMo_digits 202 = .ok (.goto 4, 3) := by decide +kernel
theorem d_MMo_digits_205 : decode b_MMo_digits 205 = .ok (.iconst 2, 1) := by decide +kernel
theorem d_MMo_digits_206 : decode b_MMo_digits 206 = .ok (.putfield 73, 3) := by decide +kernel
theorem d_MMo_digits_209 : decode b_MMo_digits 209 = .ok (.goto 138, 3) := by decide +kernel
theorem d_MMo_digits_212 : decode b_MMo_digits 212 = .ok (.iconst 0, 1) := by decide +kernel
theorem d_MMo_digits_213 : decode b_MMo_digits 213 = .ok (.istore 7, 2) := by decide +kernel
theorem d_MMo_digits_215 : decode b_MMo_digits 215 = .ok (.iload 7, 2) := by decide +kernel
theorem d_MMo_digits_217 : decode b_MMo_digits 217 = .ok (.bipush 32, 2) := by decide +kernel
theorem d_MMo_digits_219 : decode b_MMo_digits 219 = .ok (.if_icmp .ge 17, 3) := by decide +kernel
theorem d_MMo_digits_222 : decode b_MMo_digits 222 = .ok (.aload_n 0, 1) := by decide +kernel
theorem d_MMo_digits_223 : decode b_MMo_digits 223 = .ok (.getfield 25, 3) := by decide +kernel
theorem d_MMo_digits_226 : decode b_MMo_digits 226 = .ok (.iload 7, 2) := by decide +kernel
theorem d_MMo_digits_228 : decode b_MMo_digits 228 = .ok (.iconst 0, 1) := by decide +kernel
theorem d_MMo_digits_229 : decode b_MMo_digits 229 = .ok (.iastore, 1) := by decide +kernel
theorem d_MMo_digits_230 : decode b_MMo_digits 230 = .ok (.iinc 7 1, 3) := by decide +kernel
theorem d_MMo_digits_233 : decode b_MMo_digits 233 = .ok (.goto (-18), 3) := by decide +kernel
theorem d_MMo_digits_236 : decode b_MMo_digits 236 = .ok (.iconst 0, 1) := by decide +kernel
theorem d_MMo_digits_237 : decode b_MMo_digits 237 = .ok (.istore 7, 2) := by decide +kernel
theorem d_MMo_digits_239 : decode b_MMo_digits 239 = .ok (.iload 7, 2) := by decide +kernel
theorem d_MMo_digits_241 : decode b_MMo_digits 241 = .ok (.bipush 16, 2) := by decide +kernel
theorem d_MMo_digits_243 : decode b_MMo_digits 243 = .ok (.if_icmp .ge 33, 3) := by decide +kernel
theorem d_MMo_digits_246 : decode b_MMo_digits 246 = .ok (.aload_n 0, 1) := by decide +kernel
theorem d_MMo_digits_247 : decode b_MMo_digits 247 = .ok (.getfield 25, 3) := by decide +kernel
theorem d_MMo_digits_250 : decode b_MMo_digits 250 = .ok (.aload_n 0, 1) := by decide +kernel
theorem d_MMo_digits_251 : decode b_MMo_digits 251 = .ok (.getfield 25, 3) := by decide +kernel
theorem d_MMo_digits_254 : decode b_MMo_digits 254 = .ok (.aload_n 0, 1) := by decide +kernel
theorem d_MMo_digits_255 : decode b_MMo_digits 255 = .ok (.getfield 19, 3) := by decide +kernel
theorem d_MMo_digits_258 : decode b_MMo_digits 258 = .ok (.aload_n 0, 1) := by decide +kernel
theorem d_MMo_digits_259 : decode b_MMo_digits 259 = .ok (.getfield 22, 3) := by decide +kernel
theorem d_MMo_digits_262 : decode b_MMo_digits 262 = .ok (.iload 7, 2) := by decide +kernel
