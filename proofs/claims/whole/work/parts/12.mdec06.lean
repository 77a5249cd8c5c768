theorem d_MMo_reckons_118 : decode b_MMo_reckons 118 = .ok (.iload_n 2, 1) := by decide +kernel
theorem d_MMo_reckons_119 : decode b_MMo_reckons 119 = .ok (.iaload, 1) := by decide +kernel
theorem d_MMo_reckons_120 : decode b_MMo_reckons 120 = .ok (.ifCond .ne 7, 3) := by decide +kernel
theorem d_MMo_reckons_123 : decode b_MMo_reckons 123 = .ok (.iconst 0, 1) := by decide +kernel
theorem d_MMo_reckons_124 : decode b_MMo_reckons 124 = .ok (.goto 4, 3) := by decide +kernel
theorem d_MMo_reckons_127 : decode b_MMo_reckons 127 = .ok (.iconst 1, 1) := by decide +kernel
theorem d_MMo_reckons_128 : decode b_MMo_reckons 128 = .ok (.putfield 73, 3) := by decide +kernel
theorem d_MMo_reckons_131 : decode b_MMo_reckons 131 = .ok (.goto 232, 3) := by decide +kernel
theorem d_MMo_reckons_134 : decode b_MMo_reckons 134 = .ok (.aload_n 0, 1) := by decide +kernel
theorem d_MMo_reckons_135 : decode b_MMo_reckons 135 = .ok (.getfield 13, 3) := by decide +kernel
theorem d_MMo_reckons_138 : decode b_MMo_reckons 138 = .ok (.iload_n 2, 1) := by decide +kernel
theorem d_MMo_reckons_139 : decode b_MMo_reckons 139 = .ok (.iload 4, 2) := by decide +kernel
theorem d_MMo_reckons_141 : decode b_MMo_reckons 141 = .ok (.iload_n 3, 1) := by decide +kernel
theorem d_MMo_reckons_142 : decode b_MMo_reckons 142 = .ok (.ixor, 1) := by decide +kernel
theorem d_MMo_reckons_143 : decode b_MMo_reckons 143 = .ok (.iastore, 1) := by decide +kernel
theorem d_MMo_reckons_144 : decode b_MMo_reckons 144 = .ok (.aload_n 0, 1) := by decide +kernel
theorem d_MMo_reckons_145 : decode b_MMo_reckons 145 = .ok (.aload_n 0, 1) := by decide +kernel
theorem d_MMo_reckons_146 : decode b_MMo_reckons 146 = .ok (.getfield 13, 3) := by decide +kernel
theorem d_MMo_reckons_149 : decode b_MMo_reckons 149 = .ok (.iload_n 2, 1) := by decide +kernel
theorem d_MMo_reckons_150 : decode b_MMo_reckons 150 = .ok (.iaload, 1) := by decide +kernel
theorem d_MMo_reckons_151 : decode b_MMo_reckons 151 = .ok (.ifCond .ne 7, 3) := by decide +kernel
theorem d_MMo_reckons_154 : decode b_MMo_reckons 154 = .ok (.iconst 0, 1) := by decide +kernel
theorem d_MMo_reckons_155 : decode b_MMo_reckons 155 = .ok (.goto 4, 3) := by decide +kernel
theorem d_MMo_reckons_158 : decode b_MMo_reckons 158 = .ok (.iconst 1, 1) := by decide +kernel
theorem d_MMo_reckons_159 : decode b_MMo_reckons 159 = .ok (.putfield 73, 3) := by decide +kernel
theorem d_MMo_reckons_162 : decode b_MMo_reckons 162 = .ok (.goto 201, 3) := by decide +kernel
theorem d_MMo_reckons_165 : decode b_MMo_reckons 165 = .ok (.aload_n 0, 1) := by decide +kernel
theorem d_MMo_reckons_166 : decode b_MMo_reckons 166 = .ok (.iload 4, 2) := by decide +kernel
theorem d_MMo_reckons_168 : decode b_MMo_reckons 168 = .ok (.invokestatic 235, 3) := by decide +kernel
theorem d_MMo_reckons_171 : decode b_MMo_reckons 171 = .ok (.iload_n 3, 1) := by decide +kernel
theorem d_MMo_reckons_172 : decode b_MMo_reckons 172 = .ok (.invokestatic 235, 3) := by decide +kernel
theorem d_MMo_reckons_175 : decode b_MMo_reckons 175 = .ok (.invokestatic 239, 3) := by decide +kernel
theorem d_MMo_reckons_178 : decode b_MMo_reckons 178 = .ok (.putfield 73, 3) := by decide +kernel
theorem d_MMo_reckons_181 : decode b_MMo_reckons 181 = .ok (.goto 182, 3) := by decide +kernel
theorem d_MMo_reckons_184 : decode b_MMo_reckons 184 = .ok (.aload_n 0, 1) := by decide +kernel
theorem d_MMo_reckons_185 : decode b_MMo_reckons 185 = .ok (.getfield 13, 3) := by decide +kernel
theorem d_MMo_reckons_188 : decode b_MMo_reckons 188 = .ok (.iload_n 2, 1) := by decide +kernel
theorem d_MMo_reckons_189 : decode b_MMo_reckons 189 = .ok (.iload_n 3, 1) := by decide +kernel
theorem d_MMo_reckons_190 : decode b_MMo_reckons 190 = .ok (.iastore, 1) := by decide +kernel
theorem d_MMo_reckons_191 : decode b_MMo_reckons 191 = .ok (.goto 172, 3) := by decide +kernel
theorem d_MMo_reckons_194 : decode b_MMo_reckons 194 = .ok (.aload_n 0, 1) := by decide +kernel
theorem d_MMo_reckons_195 : decode b_MMo_reckons 195 = .ok (.iload 4, 2) := by decide +kernel
theorem d_MMo_reckons_197 : decode b_MMo_reckons 197 = .ok (.i2l, 1) := by decide +kernel
theorem d_MMo_reckons_198 : decode b_MMo_reckons 198 = .ok (.iload_n 3, 1) := by decide +kernel
theorem d_MMo_reckons_199 : decode b_MMo_reckons 199 = .ok (.i2l, 1) := by decide +kernel
theorem d_MMo_reckons_200 : decode b_MMo_reckons 200 = .ok (.invokestatic 239, 3) := by decide +kernel
theorem d_MMo_reckons_203 : decode b_MMo_reckons 203 = .ok (.putfield 73, 3) := by decide +kernel
theorem d_MMo_reckons_206 : decode b_MMo_reckons 206 = .ok (.goto 157, 3) := by decide +kernel
theorem d_MMo_reckons_209 : decode b_MMo_reckons 209 = .ok (.aload_n 0, 1) := by decide +kernel
theorem d_MMo_reckons_210 : decode b_MMo_reckons 210 = .ok (.iload_n 2, 1) := by decide +kernel
theorem d_MMo_reckons_211 : decode b_MMo_reckons 211 = .ok (.iload 4, 2) := by decide +kernel
theorem d_MMo_reckons_213 : decode b_MMo_reckons 213 = .ok (.i2l, 1) := by decide +kernel
theorem d_MMo_reckons_214 : decode b_MMo_reckons 214 = .ok (.iload_n 3, 1) := by decide +kernel
theorem d_MMo_reckons_215 : decode b_MMo_reckons 215 = .ok (.i2l, 1) := by decide +kernel
theorem d_MMo_reckons_216 : decode b_MMo_reckons 216 = .ok (.ladd, 1) := by decide +kernel
theorem d_MMo_reckons_217 : decode b_MMo_reckons 217 = .ok (.invokevirtual 243, 3) := by decide +kernel
theorem d_MMo_reckons_220 : decode b_MMo_reckons 220 = .ok (.goto 143, 3) := by decide +kernel
theorem d_MMo_reckons_223 : decode b_MMo_reckons 223 = .ok (.aload_n 0, 1) := by decide +kernel
theorem d_MMo_reckons_224 : decode b_MMo_reckons 224 = .ok (.iload_n 2, 1) := by decide +kernel
theorem d_MMo_reckons_225 : decode b_MMo_reckons 225 = .ok (.iload 4, 2) := by decide +kernel
theorem d_MMo_reckons_227 : decode b_MMo_reckons 227 = .ok (.i2l, 1) := by decide +kernel
theorem d_MMo_reckons_228 : decode b_MMo_reckons 228 = .ok (.iload_n 3, 1) := by decide +kernel
theorem d_MMo_reckons_229 : decode b_MMo_reckons 229 = .ok (.i2l, 1) := by decide +kernel
theorem d_MMo_reckons_230 : decode b_MMo_reckons 230 = .ok (.lsub, 1) := by decide +kernel
theorem d_MMo_reckons_231 : decode b_MMo_reckons 231 = .ok (.invokevirtual 243, 3) := by decide +kernel
theorem d_MMo_reckons_234 : decode b_MMo_reckons 234 = .ok (.goto 129, 3) := by decide +kernel
theorem d_MMo_reckons_237 : decode b_MMo_reckons 237 = .ok (.aload_n 0, 1) := by decide +kernel
theorem d_MMo_reckons_238 : decode b_MMo_reckons 238 = .ok (.iload_n 2, 1) := by decide +kernel
theorem d_MMo_reckons_239 : decode b_MMo_reckons 239 = .ok (.iload 4, 2) := by decide +kernel
theorem d_MMo_reckons_241 : decode b_MMo_reckons 241 = .ok (.invokestatic 235, 3) := by decide +kernel
theorem d_MMo_reckons_244 : decode b_MMo_reckons 244 = .ok (.iload_n 3, 1) := by decide +kernel
theorem d_MMo_reckons_245 : decode b_MMo_reckons 245 = .ok (.invokestatic 235, 3) := by decide +kernel
theorem d_MMo_reckons_248 : decode b_MMo_reckons 248 = .ok (.ladd, 1) := by decide +kernel
theorem d_MMo_reckons_249 : decode b_MMo_reckons 249 = .ok (.invokevirtual 247, 3) := by decide +kernel
theorem d_MMo_reckons_252 : decode b_MMo_reckons 252 = .ok (.goto 111, 3) := by decide +kernel
theorem d_MMo_reckons_255 : decode b_MMo_reckons 255 = .ok (.aload_n 0, 1) := by decide +kernel
theorem d_MMo_reckons_256 : decode b_MMo_reckons 256 = .ok (.iload_n 2, 1) := by decide +kernel
theorem d_MMo_reckons_257 : decode b_MMo_reckons 257 = .ok (.iload 4, 2) := by decide +kernel
theorem d_MMo_reckons_259 : decode b_MMo_reckons 259 = .ok (.invokestatic 235, 3) := by decide +kernel
theorem d_MMo_reckons_262 : decode b_MMo_reckons 262 = .ok (.iload_n 3, 1) := by decide +kernel
theorem d_MMo_reckons_263 : decode b_MMo_reckons 263 = .ok (.iconst (-1), 1) := by decide +kernel
theorem d_MMo_reckons_264 : decode b_MMo_reckons 264 = .ok (.ixor, 1) := by decide +kernel
theorem d_MMo_reckons_265 : decode b_MMo_reckons 265 = .ok (.invokestatic 235, 3) := by decide +kernel
theorem d_MMo_reckons_268 : decode b_MMo_reckons 268 = .ok (.ladd, 1) := by decide +kernel
theorem d_MMo_reckons_269 : decode b_MMo_reckons 269 = .ok (.lconst 1, 1) := by decide +kernel
theorem d_MMo_reckons_270 : decode b_MMo_reckons 270 = .ok (.ladd, 1) := by decide +kernel
theorem d_MMo_reckons_271 : decode b_MMo_reckons 271 = .ok (.invokevirtual 247, 3) := by decide +kernel
theorem d_MMo_reckons_274 : decode b_MMo_reckons 274 = .ok (.goto 89, 3) := by decide +kernel
theorem d_MMo_reckons_277 : decode b_MMo_reckons 277 = .ok (.aload_n 0, 1) := by decide +kernel
theorem d_MMo_reckons_278 : decode b_MMo_reckons 278 = .ok (.getfield 13, 3) := by decide +kernel
theorem d_MMo_reckons_281 : decode b_MMo_reckons 281 = .ok (.iload_n 2, 1) := by decide +kernel
theorem d_MMo_reckons_282 : decode b_MMo_reckons 282 = .ok (.iconst 1, 1) := by decide +kernel
theorem d_MMo_reckons_283 : decode b_MMo_reckons 283 = .ok (.iadd, 1) := by decide +kernel
theorem d_MMo_reckons_284 : decode b_MMo_reckons 284 = .ok (.iaload, 1) := by decide +kernel
theorem d_MMo_reckons_285 : decode b_MMo_reckons 285 = .ok (.i2l, 1) := by decide +kernel
theorem d_MMo_reckons_286 : decode b_MMo_reckons 286 = .ok (.iload_n 3, 1) := by decide +kernel
theorem d_MMo_reckons_287 : decode b_MMo_reckons 287 = .ok (.i2l, 1) := by decide +kernel
theorem d_MMo_reckons_288 : decode b_MMo_reckons 288 = .ok (.lmul, 1) := by decide +kernel
theorem d_MMo_reckons_289 : decode b_MMo_reckons 289 = .ok (.lstore 5, 2) := by decide +kernel
theorem d_MMo_reckons_291 : decode b_MMo_reckons 291 = .ok (.aload_n 0, 1) := by decide +kernel
theorem d_MMo_reckons_292 : decode b_MMo_reckons 292 = .ok (.getfield 13, 3) := by decide +kernel
theorem d_MMo_reckons_295 : decode b_MMo_reckons 295 = .ok (.iload_n 2, 1) := by decide +kernel
theorem d_MMo_reckons_296 : decode b_MMo_reckons 296 = .ok (.lload 5, 2) := by decide +kernel
theorem d_MMo_reckons_298 : decode b_MMo_reckons 298 = .ok (.bipush 32, 2) := by decide +kernel
theorem d_MMo_reckons_300 : decode b_MMo_reckons 300 = .ok (.lshr, 1) := by decide +kernel
theorem d_MMo_reckons_301 : decode b_MMo_reckons 301 = .ok (.l2i, 1) := by decide +kernel
theorem d_MMo_reckons_302 : decode b_MMo_reckons 302 = .ok (.iastore, 1) := by decide +kernel
theorem d_MMo_reckons_303 : decode b_MMo_reckons 303 = .ok (.aload_n 0, 1) := by decide +kernel
theorem d_MMo_reckons_304 : decode b_MMo_reckons 304 = .ok (.getfield 13, 3) := by decide +kernel
theorem d_MMo_reckons_307 : decode b_MMo_reckons 307 = .ok (.iload_n 2, 1) := by decide +kernel
theorem d_MMo_reckons_308 : decode b_MMo_reckons 308 = .ok (.iconst 1, 1) := by decide +kernel
theorem d_MMo_reckons_309 : decode b_MMo_reckons 309 = .ok (.iadd, 1) := by decide +kernel
theorem d_MMo_reckons_310 : decode b_MMo_reckons 310 = .ok (.lload 5, 2) := by decide +kernel
theorem d_MMo_reckons_312 : decode b_MMo_reckons 312 = .ok (.l2i, 1) := by decide +kernel
theorem d_MMo_reckons_313 : decode b_MMo_reckons 313 = .ok (.iastore, 1) := by decide +kernel
theorem d_MMo_reckons_314 : decode b_MMo_reckons 314 = .ok (.goto 49, 3) := by decide +kernel
theorem d_MMo_reckons_317 : decode b_MMo_reckons 317 = .ok (.iload 4, 2) := by decide +kernel
theorem d_MMo_reckons_319 : decode b_MMo_reckons 319 = .ok (.i2l, 1) := by decide +kernel
theorem d_MMo_reckons_320 : decode b_MMo_reckons 320 = .ok (.bipush 32, 2) := by decide +kernel
theorem d_MMo_reckons_322 : decode b_MMo_reckons 322 = .ok (.lshl, 1) := by decide +kernel
theorem d_MMo_reckons_323 : decode b_MMo_reckons 323 = .ok (.aload_n 0, 1) := by decide +kernel
theorem d_MMo_reckons_324 : decode b_MMo_reckons 324 = .ok (.getfield 13, 3) := by decide +kernel
theorem d_MMo_reckons_327 : decode b_MMo_reckons 327 = .ok (.iload_n 2, 1) := by decide +kernel
theorem d_MMo_reckons_328 : decode b_MMo_reckons 328 = .ok (.iconst 1, 1) := by decide +kernel
theorem d_MMo_reckons_329 : decode b_MMo_reckons 329 = .ok (.iadd, 1) := by decide +kernel
theorem d_MMo_reckons_330 : decode b_MMo_reckons 330 = .ok (.iaload, 1) := by decide +kernel
theorem d_MMo_reckons_331 : decode b_MMo_reckons 331 = .ok (.invokestatic 235, 3) := by decide +kernel
theorem d_MMo_reckons_334 : decode b_MMo_reckons 334 = .ok (.lor, 1) := by decide +kernel
theorem d_MMo_reckons_335 : decode b_MMo_reckons 335 = .ok (.lstore 7, 2) := by decide +kernel
theorem d_MMo_reckons_337 : decode b_MMo_reckons 337 = .ok (.aload_n 0, 1) := by decide +kernel
theorem d_MMo_reckons_338 : decode b_MMo_reckons 338 = .ok (.getfield 13, 3) := by decide +kernel
theorem d_MMo_reckons_341 : decode b_MMo_reckons 341 = .ok (.iload_n 2, 1) := by decide +kernel
theorem d_MMo_reckons_342 : decode b_MMo_reckons 342 = .ok (.lload 7, 2) := by decide +kernel
theorem d_MMo_reckons_344 : decode b_MMo_reckons 344 = .ok (.iload_n 3, 1) := by decide +kernel
theorem d_MMo_reckons_345 : decode b_MMo_reckons 345 = .ok (.i2l, 1) := by decide +kernel
theorem d_MMo_reckons_346 : decode b_MMo_reckons 346 = .ok (.lrem, 1) := by decide +kernel
theorem d_MMo_reckons_347 : decode b_MMo_reckons 347 = .ok (.l2i, 1) := by decide +kernel
theorem d_MMo_reckons_348 : decode b_MMo_reckons 348 = .ok (.iastore, 1) := by decide +kernel
theorem d_MMo_reckons_349 : decode b_MMo_reckons 349 = .ok (.aload_n 0, 1) := by decide +kernel
theorem d_MMo_reckons_350 : decode b_MMo_reckons 350 = .ok (.getfield 13, 3) := by decide +kernel
theorem d_MMo_reckons_353 : decode b_MMo_reckons 353 = .ok (.iload_n 2, 1) := by decide +kernel
theorem d_MMo_reckons_354 : decode b_MMo_reckons 354 = .ok (.iconst 1, 1) := by decide +kernel
theorem d_MMo_reckons_355 : decode b_MMo_reckons 355 = .ok (.iadd, 1) := by decide +kernel
theorem d_MMo_reckons_356 : decode b_MMo_reckons 356 = .ok (.lload 7, 2) := by decide +kernel
theorem d_MMo_reckons_358 : decode b_MMo_reckons 358 = .ok (.iload_n 3, 1) := by decide +kernel
theorem d_MMo_reckons_359 : decode b_MMo_reckons 359 = .ok (.i2l, 1) := by decide +kernel
theorem d_MMo_reckons_360 : decode b_MMo_reckons 360 = .ok (.ldiv, 1) := by decide +kernel
theorem d_MMo_reckons_361 : decode b_MMo_reckons 361 = .ok (.l2i, 1) := by decide +kernel
theorem d_MMo_reckons_362 : decode b_MMo_reckons 362 = .ok (.iastore, 1) := by decide +kernel
theorem d_MMo_reckons_363 : decode b_MMo_reckons 363 = .ok (.return_, 1) := by decide +kernel
theorem d_MMo_goes_0 : decode b_MMo_goes 0 = .ok (.iload_n 1, 1) := by decide +kernel
theorem d_MMo_goes_1 : decode b_MMo_goes 1 = .ok (.ifCond .eq 11, 3) := by decide +kernel
theorem d_MMo_goes_4 : decode b_MMo_goes 4 = .ok (.aload_n 0, 1) := by decide +kernel
theorem d_MMo_goes_5 : decode b_MMo_goes 5 = .ok (.iload_n 2, 1) := by decide +kernel
theorem d_MMo_goes_6 : decode b_MMo_goes 6 = .ok (.ldc 93, 2) := by decide +kernel
theorem d_MMo_goes_8 : decode b_MMo_goes 8 = .ok (.iand, 1) := by decide +kernel
theorem d_MMo_goes_9 : decode b_MMo_goes 9 = .ok (.putfield 67, 3) := by decide +kernel
theorem d_MMo_goes_12 : decode b_MMo_goes 12 = .ok (.return_, 1) := by decide +kernel
theorem d_MMo_holds_0 : decode b_MMo_holds 0 = .ok (.iload_n 1, 1) := by decide +kernel
theorem d_MMo_holds_1 : decode b_MMo_holds 1 = .ok (.iconst 3, 1) := by decide +kernel
theorem d_MMo_holds_2 : decode b_MMo_holds 2 = .ok (.aload_n 0, 1) := by decide +kernel
theorem d_MMo_holds_3 : decode b_MMo_holds 3 = .ok (.getfield 73, 3) := by decide +kernel
theorem d_MMo_holds_6 : decode b_MMo_holds 6 = .ok (.isub, 1) := by decide +kernel
theorem d_MMo_holds_7 : decode b_MMo_holds 7 = .ok (.ishr, 1) := by decide +kernel
theorem d_MMo_holds_8 : decode b_MMo_holds 8 = .ok (.iconst 1, 1) := by decide +kernel
theorem d_MMo_holds_9 : decode b_MMo_holds 9 = .ok (.iand, 1) := by decide +kernel
theorem d_MMo_holds_10 : decode b_MMo_holds 10 = .ok (.iconst 1, 1) := by decide +kernel
theorem d_MMo_holds_11 : decode b_MMo_holds 11 = .ok (.if_icmp .ne 7, 3) := by decide +kernel
theorem d_MMo_holds_14 : decode b_MMo_holds 14 = .ok (.iconst 1, 1) := by decide +kernel
theorem d_MMo_holds_15 : decode b_MMo_holds 15 = .ok (.goto 4, 3) := by decide +kernel
theorem d_MMo_holds_18 : decode b_MMo_holds 18 = .ok (.iconst 0, 1) := by decide +kernel
theorem d_MMo_holds_19 : decode b_MMo_holds 19 = .ok (.ireturn, 1) := by decide +kernel
theorem d_MMo_registers_0 : decode b_MMo_registers 0 = .ok (.aload_n 0, 1) := by decide +kernel
theorem d_MMo_registers_1 : decode b_MMo_registers 1 = .ok (.invokevirtual 163, 3) := by decide +kernel
theorem d_MMo_registers_4 : decode b_MMo_registers 4 = .ok (.istore_n 2, 1) := by decide +kernel
theorem d_MMo_registers_5 : decode b_MMo_registers 5 = .ok (.aload_n 0, 1) := by decide +kernel
theorem d_MMo_registers_6 : decode b_MMo_registers 6 = .ok (.getfield 13, 3) := by decide +kernel
theorem d_MMo_registers_9 : decode b_MMo_registers 9 = .ok (.aload_n 0, 1) := by decide +kernel
theorem d_MMo_registers_10 : decode b_MMo_registers 10 = .ok (.invokevirtual 159, 3) := by decide +kernel
theorem d_MMo_registers_13 : decode b_MMo_registers 13 = .ok (.iaload, 1) := by decide +kernel
theorem d_MMo_registers_14 : decode b_MMo_registers 14 = .ok (.istore_n 3, 1) := by decide +kernel
theorem d_MMo_registers_15 : decode b_MMo_registers 15 = .ok (.aload_n 0, 1) := by decide +kernel
theorem d_MMo_registers_16 : decode b_MMo_registers 16 = .ok (.iload_n 1, 1) := by decide +kernel
theorem d_MMo_registers_17 : decode b_MMo_registers 17 = .ok (.putfield 67, 3) := by decide +kernel
theorem d_MMo_registers_20 : decode b_MMo_registers 20 = .ok (.aload_n 0, 1) := by decide +kernel
theorem d_MMo_registers_21 : decode b_MMo_registers 21 = .ok (.getfield 132, 3) := by decide +kernel
theorem d_MMo_registers_24 : decode b_MMo_registers 24 = .ok (.tableswitch 250 5 19 #[76, 103, 142, 250, 250, 170, 250, 250, 250, 250, 250, 181, 201, 221, 239], 76) := by decide +kernel
theorem d_MMo_registers_100 : decode b_MMo_registers 100 = .ok (.aload_n 0, 1) := by decide +kernel
theorem d_MMo_registers_101 : decode b_MMo_registers 101 = .ok (.getfield 13, 3) := by decide +kernel
theorem d_MMo_registers_104 : decode b_MMo_registers 104 = .ok (.iload_n 2, 1) := by decide +kernel
theorem d_MMo_registers_105 : decode b_MMo_registers 105 = .ok (.iload_n 1, 1) := by decide +kernel
theorem d_MMo_registers_106 : decode b_MMo_registers 106 = .ok (.iastore, 1) := by decide +kernel
theorem d_MMo_registers_107 : decode b_MMo_registers 107 = .ok (.aload_n 0, 1) := by decide +kernel
theorem d_MMo_registers_108 : decode b_MMo_registers 108 = .ok (.aload_n 0, 1) := by decide +kernel
theorem d_MMo_registers_109 : decode b_MMo_registers 109 = .ok (.invokevirtual 159, 3) := by decide +kernel
theorem d_MMo_registers_112 : decode b_MMo_registers 112 = .ok (.ifCond .le 7, 3) := by decide +kernel
theorem d_MMo_registers_115 : decode b_MMo_registers 115 = .ok (.iconst 1, 1) := by decide +kernel
theorem d_MMo_registers_116 : decode b_MMo_registers 116 = .ok (.goto 4, 3) := by decide +kernel
theorem d_MMo_registers_119 : decode b_MMo_registers 119 = .ok (.iconst 0, 1) := by decide +kernel
theorem d_MMo_registers_120 : decode b_MMo_registers 120 = .ok (.iload_n 3, 1) := by decide +kernel
theorem d_MMo_registers_121 : decode b_MMo_registers 121 = .ok (.invokevirtual 250, 3) := by decide +kernel
theorem d_MMo_registers_124 : decode b_MMo_registers 124 = .ok (.goto 163, 3) := by decide +kernel
theorem d_MMo_registers_127 : decode b_MMo_registers 127 = .ok (.aload_n 0, 1) := by decide +kernel
theorem d_MMo_registers_128 : decode b_MMo_registers 128 = .ok (.getfield 13, 3) := by decide +kernel
theorem d_MMo_registers_131 : decode b_MMo_registers 131 = .ok (.iload_n 2, 1) := by decide +kernel
theorem d_MMo_registers_132 : decode b_MMo_registers 132 = .ok (.dup2, 1) := by decide +kernel
theorem d_MMo_registers_133 : decode b_MMo_registers 133 = .ok (.iaload, 1) := by decide +kernel
theorem d_MMo_registers_134 : decode b_MMo_registers 134 = .ok (.iconst 1, 1) := by decide +kernel
theorem d_MMo_registers_135 : decode b_MMo_registers 135 = .ok (.isub, 1) := by decide +kernel
theorem d_MMo_registers_136 : decode b_MMo_registers 136 = .ok (.iastore, 1) := by decide +kernel
theorem d_MMo_registers_137 : decode b_MMo_registers 137 = .ok (.aload_n 0, 1) := by decide +kernel
theorem d_MMo_registers_138 : decode b_MMo_registers 138 = .ok (.aload_n 0, 1) := by decide +kernel
theorem d_MMo_registers_139 : decode b_MMo_registers 139 = .ok (.invokevirtual 159, 3) := by decide +kernel
theorem d_MMo_registers_142 : decode b_MMo_registers 142 = .ok (.ifCond .le 16, 3) := by decide +kernel
theorem d_MMo_registers_145 : decode b_MMo_registers 145 = .ok (.aload_n 0, 1) := by decide +kernel
theorem d_MMo_registers_146 : decode b_MMo_registers 146 = .ok (.getfield 13, 3) := by decide +kernel
theorem d_MMo_registers_149 : decode b_MMo_registers 149 = .ok (.iload_n 2, 1) := by decide +kernel
theorem d_MMo_registers_150 : decode b_MMo_registers 150 = .ok (.iaload, 1) := by decide +kernel
theorem d_MMo_registers_151 : decode b_MMo_registers 151 = .ok (.ifCond .eq 7, 3) := by decide +kernel
theorem d_MMo_registers_154 : decode b_MMo_registers 154 = .ok (.iconst 1, 1) := by decide +kernel
theorem d_MMo_registers_155 : decode b_MMo_registers 155 = .ok (.goto 4, 3) := by decide +kernel
theorem d_MMo_registers_158 : decode b_MMo_registers 158 = .ok (.iconst 0, 1) := by decide +kernel
theorem d_MMo_registers_159 : decode b_MMo_registers 159 = .ok (.iload_n 3, 1) := by decide +kernel
theorem d_MMo_registers_160 : decode b_MMo_registers 160 = .ok (.invokevirtual 250, 3) := by decide +kernel
theorem d_MMo_registers_163 : decode b_MMo_registers 163 = .ok (.goto 124, 3) := by decide +kernel
theorem d_MMo_registers_166 : decode b_MMo_registers 166 = .ok (.aload_n 0, 1) := by decide +kernel
theorem d_MMo_registers_167 : decode b_MMo_registers 167 = .ok (.aload_n 0, 1) := by decide +kernel
theorem d_MMo_registers_168 : decode b_MMo_registers 168 = .ok (.invokevirtual 159, 3) := by decide +kernel
theorem d_MMo_registers_171 : decode b_MMo_registers 171 = .ok (.ifCond .le 15, 3) := by decide +kernel
theorem d_MMo_registers_174 : decode b_MMo_registers 174 = .ok (.aload_n 0, 1) := by decide +kernel
theorem d_MMo_registers_175 : decode b_MMo_registers 175 = .ok (.iload_n 2, 1) := by decide +kernel
theorem d_MMo_registers_176 : decode b_MMo_registers 176 = .ok (.invokevirtual 253, 3) := by decide +kernel
theorem d_MMo_registers_179 : decode b_MMo_registers 179 = .ok (.ifCond .eq 7, 3) := by decide +kernel
theorem d_MMo_registers_182 : decode b_MMo_registers 182 = .ok (.iconst 1, 1) := by decide +kernel
theorem d_MMo_registers_183 : decode b_MMo_registers 183 = .ok (.goto 4, 3) := by decide +kernel
theorem d_MMo_registers_186 : decode b_MMo_registers 186 = .ok (.iconst 0, 1) := by decide +kernel
theorem d_MMo_registers_187 : decode b_MMo_registers 187 = .ok (.iload_n 3, 1) := by decide +kernel
theorem d_MMo_registers_188 : decode b_MMo_registers 188 = .ok (.invokevirtual 250, 3) := by decide +kernel
theorem d_MMo_registers_191 : decode b_MMo_registers 191 = .ok (.goto 96, 3) := by decide +kernel
theorem d_MMo_registers_194 : decode b_MMo_registers 194 = .ok (.aload_n 0, 1) := by decide +kernel
theorem d_MMo_registers_195 : decode b_MMo_registers 195 = .ok (.aload_n 0, 1) := by decide +kernel
theorem d_MMo_registers_196 : decode b_MMo_registers 196 = .ok (.getfield 142, 3) := by decide +kernel
theorem d_MMo_registers_199 : decode b_MMo_registers 199 = .ok (.putfield 34, 3) := by decide +kernel
theorem d_MMo_registers_202 : decode b_MMo_registers 202 = .ok (.goto 85, 3) := by decide +kernel
theorem d_MMo_registers_205 : decode b_MMo_registers 205 = .ok (.aload_n 0, 1) := by decide +kernel
theorem d_MMo_registers_206 : decode b_MMo_registers 206 = .ok (.iload_n 2, 1) := by decide +kernel
theorem d_MMo_registers_207 : decode b_MMo_registers 207 = .ok (.iload_n 3, 1) := by decide +kernel
theorem d_MMo_registers_208 : decode b_MMo_registers 208 = .ok (.ifCond .ge 9, 3) := by decide +kernel
theorem d_MMo_registers_211 : decode b_MMo_registers 211 = .ok (.iload_n 3, 1) := by decide +kernel
theorem d_MMo_registers_212 : decode b_MMo_registers 212 = .ok (.i2l, 1) := by decide +kernel
theorem d_MMo_registers_213 : decode b_MMo_registers 213 = .ok (.lneg, 1) := by decide +kernel
theorem d_MMo_registers_214 : decode b_MMo_registers 214 = .ok (.goto 5, 3) := by decide +kernel
theorem d_MMo_registers_217 : decode b_MMo_registers 217 = .ok (.iload_n 3, 1) := by decide +kernel
theorem d_MMo_registers_218 : decode b_MMo_registers 218 = .ok (.i2l, 1) := by decide +kernel
theorem d_MMo_registers_219 : decode b_MMo_registers 219 = .ok (.invokevirtual 243, 3) := by decide +kernel
theorem d_MMo_registers_222 : decode b_MMo_registers 222 = .ok (.goto 65, 3) := by decide +kernel
theorem d_MMo_registers_225 : decode b_MMo_registers 225 = .ok (.aload_n 0, 1) := by decide +kernel
theorem d_MMo_registers_226 : decode b_MMo_registers 226 = .ok (.iload_n 2, 1) := by decide +kernel
theorem d_MMo_registers_227 : decode b_MMo_registers 227 = .ok (.iload_n 3, 1) := by decide +kernel
theorem d_MMo_registers_228 : decode b_MMo_registers 228 = .ok (.ifCond .ge 8, 3) := by decide +kernel
theorem d_MMo_registers_231 : decode b_MMo_registers 231 = .ok (.iload_n 3, 1) := by decide +kernel
theorem d_MMo_registers_232 : decode b_MMo_registers 232 = .ok (.i2l, 1) := by decide +kernel
theorem d_MMo_registers_233 : decode b_MMo_registers 233 = .ok (.goto 6, 3) := by decide +kernel
theorem d_MMo_registers_236 : decode b_MMo_registers 236 = .ok (.iload_n 3, 1) := by decide +kernel
theorem d_MMo_registers_237 : decode b_MMo_registers 237 = .ok (.ineg, 1) := by decide +kernel
theorem d_MMo_registers_238 : decode b_MMo_registers 238 = .ok (.i2l, 1) := by decide +kernel
theorem d_MMo_registers_239 : decode b_MMo_registers 239 = .ok (.invokevirtual 243, 3) := by decide +kernel
theorem d_MMo_registers_242 : decode b_MMo_registers 242 = .ok (.goto 45, 3) := by decide +kernel
theorem d_MMo_registers_245 : decode b_MMo_registers 245 = .ok (.aload_n 0, 1) := by decide +kernel
theorem d_MMo_registers_246 : decode b_MMo_registers 246 = .ok (.getfield 13, 3) := by decide +kernel
theorem d_MMo_registers_249 : decode b_MMo_registers 249 = .ok (.iload_n 2, 1) := by decide +kernel
theorem d_MMo_registers_250 : decode b_MMo_registers 250 = .ok (.iload_n 3, 1) := by decide +kernel
theorem d_MMo_registers_251 : decode b_MMo_registers 251 = .ok (.iastore, 1) := by decide +kernel
theorem d_MMo_registers_252 : decode b_MMo_registers 252 = .ok (.aload_n 0, 1) := by decide +kernel
theorem d_MMo_registers_253 : decode b_MMo_registers 253 = .ok (.iload_n 3, 1) := by decide +kernel
theorem d_MMo_registers_254 : decode b_MMo_registers 254 = .ok (.invokestatic 232, 3) := by decide +kernel
theorem d_MMo_registers_257 : decode b_MMo_registers 257 = .ok (.putfield 73, 3) := by decide +kernel
theorem d_MMo_registers_260 : decode b_MMo_registers 260 = .ok (.goto 27, 3) := by decide +kernel
theorem d_MMo_registers_263 : decode b_MMo_registers 263 = .ok (.aload_n 0, 1) := by decide +kernel
theorem d_MMo_registers_264 : decode b_MMo_registers 264 = .ok (.iload_n 2, 1) := by decide +kernel
theorem d_MMo_registers_265 : decode b_MMo_registers 265 = .ok (.iload_n 3, 1) := by decide +kernel
theorem d_MMo_registers_266 : decode b_MMo_registers 266 = .ok (.i2l, 1) := by decide +kernel
theorem d_MMo_registers_267 : decode b_MMo_registers 267 = .ok (.lneg, 1) := by decide +kernel
theorem d_MMo_registers_268 : decode b_MMo_registers 268 = .ok (.invokevirtual 243, 3) := by decide +kernel
theorem d_MMo_registers_271 : decode b_MMo_registers 271 = .ok (.goto 16, 3) := by decide +kernel
theorem d_MMo_registers_274 : decode b_MMo_registers 274 = .ok (.aload_n 0, 1) := by decide +kernel
theorem d_MMo_registers_275 : decode b_MMo_registers 275 = .ok (.aload_n 0, 1) := by decide +kernel
theorem d_MMo_registers_276 : decode b_MMo_registers 276 = .ok (.getfield 132, 3) := by decide +kernel
theorem d_MMo_registers_279 : decode b_MMo_registers 279 = .ok (.bipush 64, 2) := by decide +kernel
theorem d_MMo_registers_281 : decode b_MMo_registers 281 = .ok (.iadd, 1) := by decide +kernel
theorem d_MMo_registers_282 : decode b_MMo_registers 282 = .ok (.iload_n 2, 1) := by decide +kernel
theorem d_MMo_registers_283 : decode b_MMo_registers 283 = .ok (.iload_n 3, 1) := by decide +kernel
theorem d_MMo_registers_284 : decode b_MMo_registers 284 = .ok (.invokevirtual 256, 3) := by decide +kernel
theorem d_MMo_registers_287 : decode b_MMo_registers 287 = .ok (.return_, 1) := by decide +kernel
theorem d_MMo_indexed_0 : decode b_MMo_indexed 0 = .ok (.aload_n 0, 1) := by decide +kernel
theorem d_MMo_indexed_1 : decode b_MMo_indexed 1 = .ok (.invokevirtual 163, 3) := by decide +kernel
theorem d_MMo_indexed_4 : decode b_MMo_indexed 4 = .ok (.istore_n 2, 1) := by decide +kernel
theorem d_MMo_indexed_5 : decode b_MMo_indexed 5 = .ok (.aload_n 0, 1) := by decide +kernel
theorem d_MMo_indexed_6 : decode b_MMo_indexed 6 = .ok (.invokevirtual 179, 3) := by decide +kernel
theorem d_MMo_indexed_9 : decode b_MMo_indexed 9 = .ok (.istore_n 3, 1) := by decide +kernel
theorem d_MMo_indexed_10 : decode b_MMo_indexed 10 = .ok (.aload_n 0, 1) := by decide +kernel
theorem d_MMo_indexed_11 : decode b_MMo_indexed 11 = .ok (.iload_n 1, 1) := by decide +kernel
theorem d_MMo_indexed_12 : decode b_MMo_indexed 12 = .ok (.putfield 67, 3) := by decide +kernel
theorem d_MMo_indexed_15 : decode b_MMo_indexed 15 = .ok (.iload_n 3, 1) := by decide +kernel
theorem d_MMo_indexed_16 : decode b_MMo_indexed 16 = .ok (.ifCond .le 43, 3) := by decide +kernel
theorem d_MMo_indexed_19 : decode b_MMo_indexed 19 = .ok (.aload_n 0, 1) := by decide +kernel
theorem d_MMo_indexed_20 : decode b_MMo_indexed 20 = .ok (.getfield 132, 3) := by decide +kernel
theorem d_MMo_indexed_23 : decode b_MMo_indexed 23 = .ok (.bipush 64, 2) := by decide +kernel
theorem d_MMo_indexed_25 : decode b_MMo_indexed 25 = .ok (.if_icmp .eq 34, 3) := by decide +kernel
theorem d_MMo_indexed_28 : decode b_MMo_indexed 28 = .ok (.aload_n 0, 1) := by decide +kernel
theorem d_MMo_indexed_29 : decode b_MMo_indexed 29 = .ok (.getfield 132, 3) := by decide +kernel
theorem d_MMo_indexed_32 : decode b_MMo_indexed 32 = .ok (.bipush 66, 2) := by decide +kernel
theorem d_MMo_indexed_34 : decode b_MMo_indexed 34 = .ok (.if_icmp .eq 25, 3) := by decide +kernel
theorem d_MMo_indexed_37 : decode b_MMo_indexed 37 = .ok (.aload_n 0, 1) := by decide +kernel
theorem d_MMo_indexed_38 : decode b_MMo_indexed 38 = .ok (.getfield 132, 3) := by decide +kernel
theorem d_MMo_indexed_41 : decode b_MMo_indexed 41 = .ok (.bipush 78, 2) := by decide +kernel
theorem d_MMo_indexed_43 : decode b_MMo_indexed 43 = .ok (.if_icmp .eq 16, 3) := by decide +kernel
theorem d_MMo_indexed_46 : decode b_MMo_indexed 46 = .ok (.aload_n 0, 1) := by decide +kernel
theorem d_MMo_indexed_47 : decode b_MMo_indexed 47 = .ok (.getfield 132, 3) := by decide +kernel
theorem d_MMo_indexed_50 : decode b_MMo_indexed 50 = .ok (.bipush 80, 2) := by decide +kernel
theorem d_MMo_indexed_52 : decode b_MMo_indexed 52 = .ok (.if_icmp .eq 7, 3) := by decide +kernel
theorem d_MMo_indexed_55 : decode b_MMo_indexed 55 = .ok (.iconst 1, 1) := by decide +kernel
theorem d_MMo_indexed_56 : decode b_MMo_indexed 56 = .ok (.goto 4, 3) := by decide +kernel
theorem d_MMo_indexed_59 : decode b_MMo_indexed 59 = .ok (.iconst 0, 1) := by decide +kernel
theorem d_MMo_indexed_60 : decode b_MMo_indexed 60 = .ok (.istore 4, 2) := by decide +kernel
theorem d_MMo_indexed_62 : decode b_MMo_indexed 62 = .ok (.iload 4, 2) := by decide +kernel
theorem d_MMo_indexed_64 : decode b_MMo_indexed 64 = .ok (.ifCond .eq 15, 3) := by decide +kernel
theorem d_MMo_indexed_67 : decode b_MMo_indexed 67 = .ok (.aload_n 0, 1) := by decide +kernel
theorem d_MMo_indexed_68 : decode b_MMo_indexed 68 = .ok (.aload_n 0, 1) := by decide +kernel
theorem d_MMo_indexed_69 : decode b_MMo_indexed 69 = .ok (.getfield 152, 3) := by decide +kernel
theorem d_MMo_indexed_72 : decode b_MMo_indexed 72 = .ok (.iload_n 3, 1) := by decide +kernel
theorem d_MMo_indexed_73 : decode b_MMo_indexed 73 = .ok (.invokevirtual 89, 3) := by decide +kernel
theorem d_MMo_indexed_76 : decode b_MMo_indexed 76 = .ok (.goto 4, 3) := by decide +kernel
theorem d_MMo_indexed_79 : decode b_MMo_indexed 79 = .ok (.lconst 0, 1) := by decide +kernel
theorem d_MMo_indexed_80 : decode b_MMo_indexed 80 = .ok (.lstore 5, 2) := by decide +kernel
theorem d_MMo_indexed_82 : decode b_MMo_indexed 82 = .ok (.lload 5, 2) := by decide +kernel
theorem d_MMo_indexed_84 : decode b_MMo_indexed 84 = .ok (.l2i, 1) := by decide +kernel
theorem d_MMo_indexed_85 : decode b_MMo_indexed 85 = .ok (.i2s, 1) := by decide +kernel
theorem d_MMo_indexed_86 : decode b_MMo_indexed 86 = .ok (.istore 7, 2) := by decide +kernel
theorem d_MMo_indexed_88 : decode b_MMo_indexed 88 = .ok (.aload_n 0, 1) := by decide +kernel
theorem d_MMo_indexed_89 : decode b_MMo_indexed 89 = .ok (.getfield 132, 3) := by decide +kernel
theorem d_MMo_indexed_92 : decode b_MMo_indexed 92 = .ok (.tableswitch 459 64 80 #[84, 103, 116, 135, 459, 158, 177, 212, 228, 239, 259, 278, 297, 459, 315, 413, 440], 84) := by decide +kernel
theorem d_MMo_indexed_176 : decode b_MMo_indexed 176 = .ok (.aload_n 0, 1) := by decide +kernel
theorem d_MMo_indexed_177 : decode b_MMo_indexed 177 = .ok (.aload_n 0, 1) := by decide +kernel
theorem d_MMo_indexed_178 : decode b_MMo_indexed 178 = .ok (.getfield 152, 3) := by decide +kernel
theorem d_MMo_indexed_181 : decode b_MMo_indexed 181 = .ok (.iconst 2, 1) := by decide +kernel
theorem d_MMo_indexed_182 : decode b_MMo_indexed 182 = .ok (.aload_n 0, 1) := by decide +kernel
theorem d_MMo_indexed_183 : decode b_MMo_indexed 183 = .ok (.getfield 13, 3) := by decide +kernel
theorem d_MMo_indexed_186 : decode b_MMo_indexed 186 = .ok (.iload_n 2, 1) := by decide +kernel
theorem d_MMo_indexed_187 : decode b_MMo_indexed 187 = .ok (.iaload, 1) := by decide +kernel
theorem d_MMo_indexed_188 : decode b_MMo_indexed 188 = .ok (.i2l, 1) := by decide +kernel
theorem d_MMo_indexed_189 : decode b_MMo_indexed 189 = .ok (.invokevirtual 57, 3) := by decide +kernel
theorem d_MMo_indexed_192 : decode b_MMo_indexed 192 = .ok (.goto 371, 3) := by decide +kernel
theorem d_MMo_indexed_195 : decode b_MMo_indexed 195 = .ok (.aload_n 0, 1) := by decide +kernel
theorem d_MMo_indexed_196 : decode b_MMo_indexed 196 = .ok (.getfield 13, 3) := by decide +kernel
theorem d_MMo_indexed_199 : decode b_MMo_indexed 199 = .ok (.iload_n 2, 1) := by decide +kernel
theorem d_MMo_indexed_200 : decode b_MMo_indexed 200 = .ok (.aload_n 0, 1) := by decide +kernel
theorem d_MMo_indexed_201 : decode b_MMo_indexed 201 = .ok (.getfield 152, 3) := by decide +kernel
theorem d_MMo_indexed_204 : decode b_MMo_indexed 204 = .ok (.iastore, 1) := by decide +kernel
theorem d_MMo_indexed_205 : decode b_MMo_indexed 205 = .ok (.goto 358, 3) := by decide +kernel
theorem d_MMo_indexed_208 : decode b_MMo_indexed 208 = .ok (.aload_n 0, 1) := by decide +kernel
theorem d_MMo_indexed_209 : decode b_MMo_indexed 209 = .ok (.aload_n 0, 1) := by decide +kernel
theorem d_MMo_indexed_210 : decode b_MMo_indexed 210 = .ok (.getfield 152, 3) := by decide +kernel
theorem d_MMo_indexed_213 : decode b_MMo_indexed 213 = .ok (.iconst 1, 1) := by decide +kernel
theorem d_MMo_indexed_214 : decode b_MMo_indexed 214 = .ok (.aload_n 0, 1) := by decide +kernel
theorem d_MMo_indexed_215 : decode b_MMo_indexed 215 = .ok (.getfield 13, 3) := by decide +kernel
theorem d_MMo_indexed_218 : decode b_MMo_indexed 218 = .ok (.iload_n 2, 1) := by decide +kernel
theorem d_MMo_indexed_219 : decode b_MMo_indexed 219 = .ok (.iaload, 1) := by decide +kernel
theorem d_MMo_indexed_220 : decode b_MMo_indexed 220 = .ok (.i2l, 1) := by decide +kernel
theorem d_MMo_indexed_221 : decode b_MMo_indexed 221 = .ok (.invokevirtual 57, 3) := by decide +kernel
theorem d_MMo_indexed_224 : decode b_MMo_indexed 224 = .ok (.goto 339, 3) := by decide +kernel
theorem d_MMo_indexed_227 : decode b_MMo_indexed 227 = .ok (.aload_n 0, 1) := by decide +kernel
theorem d_MMo_indexed_228 : decode b_MMo_indexed 228 = .ok (.getfield 13, 3) := by decide +kernel
theorem d_MMo_indexed_231 : decode b_MMo_indexed 231 = .ok (.iload_n 2, 1) := by decide +kernel
theorem d_MMo_indexed_232 : decode b_MMo_indexed 232 = .ok (.aload_n 0, 1) := by decide +kernel
theorem d_MMo_indexed_233 : decode b_MMo_indexed 233 = .ok (.getfield 13, 3) := by decide +kernel
theorem d_MMo_indexed_236 : decode b_MMo_indexed 236 = .ok (.iload_n 2, 1) := by decide +kernel
theorem d_MMo_indexed_237 : decode b_MMo_indexed 237 = .ok (.iaload, 1) := by decide +kernel
theorem d_MMo_indexed_238 : decode b_MMo_indexed 238 = .ok (.sipush (-256), 3) := by decide +kernel
theorem d_MMo_indexed_241 : decode b_MMo_indexed 241 = .ok (.iand, 1) := by decide +kernel
theorem d_MMo_indexed_242 : decode b_MMo_indexed 242 = .ok (.lload 5, 2) := by decide +kernel
theorem d_MMo_indexed_244 : decode b_MMo_indexed 244 = .ok (.l2i, 1) := by decide +kernel
theorem d_MMo_indexed_245 : decode b_MMo_indexed 245 = .ok (.ior, 1) := by decide +kernel
theorem d_MMo_indexed_246 : decode b_MMo_indexed 246 = .ok (.iastore, 1) := by decide +kernel
theorem d_MMo_indexed_247 : decode b_MMo_indexed 247 = .ok (.goto 316, 3) := by decide +kernel
theorem d_MMo_indexed_250 : decode b_MMo_indexed 250 = .ok (.aload_n 0, 1) := by decide +kernel
theorem d_MMo_indexed_251 : decode b_MMo_indexed 251 = .ok (.getfield 13, 3) := by decide +kernel
theorem d_MMo_indexed_254 : decode b_MMo_indexed 254 = .ok (.iload_n 2, 1) := by decide +kernel
theorem d_MMo_indexed_255 : decode b_MMo_indexed 255 = .ok (.iload_n 1, 1) := by decide +kernel
theorem d_MMo_indexed_256 : decode b_MMo_indexed 256 = .ok (.iastore, 1) := by decide +kernel
theorem d_MMo_indexed_257 : decode b_MMo_indexed 257 = .ok (.aload_n 0, 1) := by decide +kernel
theorem d_MMo_indexed_258 : decode b_MMo_indexed 258 = .ok (.iconst 1, 1) := by decide +kernel
theorem d_MMo_indexed_259 : decode b_MMo_indexed 259 = .ok (.aload_n 0, 1) := by decide +kernel
theorem d_MMo_indexed_260 : decode b_MMo_indexed 260 = .ok (.getfield 152, 3) := by decide +kernel
theorem d_MMo_indexed_263 : decode b_MMo_indexed 263 = .ok (.invokevirtual 250, 3) := by decide +kernel
theorem d_MMo_indexed_266 : decode b_MMo_indexed 266 = .ok (.goto 297, 3) := by decide +kernel
theorem d_MMo_indexed_269 : decode b_MMo_indexed 269 = .ok (.aload_n 0, 1) := by decide +kernel
theorem d_MMo_indexed_270 : decode b_MMo_indexed 270 = .ok (.getfield 13, 3) := by decide +kernel
theorem d_MMo_indexed_273 : decode b_MMo_indexed 273 = .ok (.iload_n 2, 1) := by decide +kernel
theorem d_MMo_indexed_274 : decode b_MMo_indexed 274 = .ok (.dup2, 1) := by decide +kernel
theorem d_MMo_indexed_275 : decode b_MMo_indexed 275 = .ok (.iaload, 1) := by decide +kernel
theorem d_MMo_indexed_276 : decode b_MMo_indexed 276 = .ok (.iconst 1, 1) := by decide +kernel
theorem d_MMo_indexed_277 : decode b_MMo_indexed 277 = .ok (.isub, 1) := by decide +kernel
theorem d_MMo_indexed_278 : decode b_MMo_indexed 278 = .ok (.iastore, 1) := by decide +kernel
theorem d_MMo_indexed_279 : decode b_MMo_indexed 279 = .ok (.aload_n 0, 1) := by decide +kernel
theorem d_MMo_indexed_280 : decode b_MMo_indexed 280 = .ok (.aload_n 0, 1) := by decide +kernel
theorem d_MMo_indexed_281 : decode b_MMo_indexed 281 = .ok (.getfield 13, 3) := by decide +kernel
theorem d_MMo_indexed_284 : decode b_MMo_indexed 284 = .ok (.iload_n 2, 1) := by decide +kernel
theorem d_MMo_indexed_285 : decode b_MMo_indexed 285 = .ok (.iaload, 1) := by decide +kernel
theorem d_MMo_indexed_286 : decode b_MMo_indexed 286 = .ok (.ifCond .eq 7, 3) := by decide +kernel
theorem d_MMo_indexed_289 : decode b_MMo_indexed 289 = .ok (.iconst 1, 1) := by decide +kernel
theorem d_MMo_indexed_290 : decode b_MMo_indexed 290 = .ok (.goto 4, 3) := by decide +kernel
theorem d_MMo_indexed_293 : decode b_MMo_indexed 293 = .ok (.iconst 0, 1) := by decide +kernel
theorem d_MMo_indexed_294 : decode b_MMo_indexed 294 = .ok (.aload_n 0, 1) := by decide +kernel
theorem d_MMo_indexed_295 : decode b_MMo_indexed 295 = .ok (.getfield 152, 3) := by decide +kernel
theorem d_MMo_indexed_298 : decode b_MMo_indexed 298 = .ok (.invokevirtual 250, 3) := by decide +kernel
theorem d_MMo_indexed_301 : decode b_MMo_indexed 301 = .ok (.goto 262, 3) := by decide +kernel
theorem d_MMo_indexed_304 : decode b_MMo_indexed 304 = .ok (.aload_n 0, 1) := by decide +kernel
theorem d_MMo_indexed_305 : decode b_MMo_indexed 305 = .ok (.aload_n 0, 1) := by decide +kernel
theorem d_MMo_indexed_306 : decode b_MMo_indexed 306 = .ok (.iload_n 2, 1) := by decide +kernel
theorem d_MMo_indexed_307 : decode b_MMo_indexed 307 = .ok (.invokevirtual 253, 3) := by decide +kernel
theorem d_MMo_indexed_310 : decode b_MMo_indexed 310 = .ok (.aload_n 0, 1) := by decide +kernel
theorem d_MMo_indexed_311 : decode b_MMo_indexed 311 = .ok (.getfield 152, 3) := by decide +kernel
theorem d_MMo_indexed_314 : decode b_MMo_indexed 314 = .ok (.invokevirtual 250, 3) := by decide +kernel
theorem d_MMo_indexed_317 : decode b_MMo_indexed 317 = .ok (.goto 246, 3) := by decide +kernel
theorem d_MMo_indexed_320 : decode b_MMo_indexed 320 = .ok (.aload_n 0, 1) := by decide +kernel
theorem d_MMo_indexed_321 : decode b_MMo_indexed 321 = .ok (.getfield 13, 3) := by decide +kernel
theorem d_MMo_indexed_324 : decode b_MMo_indexed 324 = .ok (.iload_n 2, 1) := by decide +kernel
theorem d_MMo_indexed_325 : decode b_MMo_indexed 325 = .ok (.iload 7, 2) := by decide +kernel
theorem d_MMo_indexed_327 : decode b_MMo_indexed 327 = .ok (.iastore, 1) := by decide +kernel
theorem d_MMo_indexed_328 : decode b_MMo_indexed 328 = .ok (.goto 235, 3) := by decide +kernel
theorem d_MMo_indexed_331 : decode b_MMo_indexed 331 = .ok (.aload_n 0, 1) := by decide +kernel
theorem d_MMo_indexed_332 : decode b_MMo_indexed 332 = .ok (.aload_n 0, 1) := by decide +kernel
theorem d_MMo_indexed_333 : decode b_MMo_indexed 333 = .ok (.getfield 13, 3) := by decide +kernel
theorem d_MMo_indexed_336 : decode b_MMo_indexed 336 = .ok (.iload_n 2, 1) := by decide +kernel
theorem d_MMo_indexed_337 : decode b_MMo_indexed 337 = .ok (.iaload, 1) := by decide +kernel
theorem d_MMo_indexed_338 : decode b_MMo_indexed 338 = .ok (.i2l, 1) := by decide +kernel
theorem d_MMo_indexed_339 : decode b_MMo_indexed 339 = .ok (.iload 7, 2) := by decide +kernel
theorem d_MMo_indexed_341 : decode b_MMo_indexed 341 = .ok (.i2l, 1) := by decide +kernel
theorem d_MMo_indexed_342 : decode b_MMo_indexed 342 = .ok (.invokestatic 239, 3) := by decide +kernel
theorem d_MMo_indexed_345 : decode b_MMo_indexed 345 = .ok (.putfield 73, 3) := by decide +kernel
theorem d_MMo_indexed_348 : decode b_MMo_indexed 348 = .ok (.goto 215, 3) := by decide +kernel
theorem d_MMo_indexed_351 : decode b_MMo_indexed 351 = .ok (.aload_n 0, 1) := by decide +kernel
theorem d_MMo_indexed_352 : decode b_MMo_indexed 352 = .ok (.iload_n 2, 1) := by decide +kernel
theorem d_MMo_indexed_353 : decode b_MMo_indexed 353 = .ok (.aload_n 0, 1) := by decide +kernel
theorem d_MMo_indexed_354 : decode b_MMo_indexed 354 = .ok (.getfield 13, 3) := by decide +kernel
theorem d_MMo_indexed_357 : decode b_MMo_indexed 357 = .ok (.iload_n 2, 1) := by decide +kernel
theorem d_MMo_indexed_358 : decode b_MMo_indexed 358 = .ok (.iaload, 1) := by decide +kernel
theorem d_MMo_indexed_359 : decode b_MMo_indexed 359 = .ok (.i2l, 1) := by decide +kernel
theorem d_MMo_indexed_360 : decode b_MMo_indexed 360 = .ok (.iload 7, 2) := by decide +kernel
theorem d_MMo_indexed_362 : decode b_MMo_indexed 362 = .ok (.i2l, 1) := by decide +kernel
theorem d_MMo_indexed_363 : decode b_MMo_indexed 363 = .ok (.ladd, 1) := by decide +kernel
theorem d_MMo_indexed_364 : decode b_MMo_indexed 364 = .ok (.invokevirtual 243, 3) := by decide +kernel
theorem d_MMo_indexed_367 : decode b_MMo_indexed 367 = .ok (.goto 196, 3) := by decide +kernel
theorem d_MMo_indexed_370 : decode b_MMo_indexed 370 = .ok (.aload_n 0, 1) := by decide +kernel
theorem d_MMo_indexed_371 : decode b_MMo_indexed 371 = .ok (.iload_n 2, 1) := by decide +kernel
theorem d_MMo_indexed_372 : decode b_MMo_indexed 372 = .ok (.aload_n 0, 1) := by decide +kernel
theorem d_MMo_indexed_373 : decode b_MMo_indexed 373 = .ok (.getfield 13, 3) := by decide +kernel
theorem d_MMo_indexed_376 : decode b_MMo_indexed 376 = .ok (.iload_n 2, 1) := by decide +kernel
theorem d_MMo_indexed_377 : decode b_MMo_indexed 377 = .ok (.iaload, 1) := by decide +kernel
theorem d_MMo_indexed_378 : decode b_MMo_indexed 378 = .ok (.i2l, 1) := by decide +kernel
theorem d_MMo_indexed_379 : decode b_MMo_indexed 379 = .ok (.iload 7, 2) := by decide +kernel
theorem d_MMo_indexed_381 : decode b_MMo_indexed 381 = .ok (.i2l, 1) := by decide +kernel
theorem d_MMo_indexed_382 : decode b_MMo_indexed 382 = .ok (.lsub, 1) := by decide +kernel
theorem d_MMo_indexed_383 : decode b_MMo_indexed 383 = .ok (.invokevirtual 243, 3) := by decide +kernel
theorem d_MMo_indexed_386 : decode b_MMo_indexed 386 = .ok (.goto 177, 3) := by decide +kernel
theorem d_MMo_indexed_389 : decode b_MMo_indexed 389 = .ok (.aload_n 0, 1) := by decide +kernel
theorem d_MMo_indexed_390 : decode b_MMo_indexed 390 = .ok (.getfield 13, 3) := by decide +kernel
theorem d_MMo_indexed_393 : decode b_MMo_indexed 393 = .ok (.iload_n 2, 1) := by decide +kernel
theorem d_MMo_indexed_394 : decode b_MMo_indexed 394 = .ok (.aload_n 0, 1) := by decide +kernel
theorem d_MMo_indexed_395 : decode b_MMo_indexed 395 = .ok (.getfield 13, 3) := by decide +kernel
theorem d_MMo_indexed_398 : decode b_MMo_indexed 398 = .ok (.iload_n 2, 1) := by decide +kernel
theorem d_MMo_indexed_399 : decode b_MMo_indexed 399 = .ok (.iaload, 1) := by decide +kernel
theorem d_MMo_indexed_400 : decode b_MMo_indexed 400 = .ok (.iload 7, 2) := by decide +kernel
theorem d_MMo_indexed_402 : decode b_MMo_indexed 402 = .ok (.imul, 1) := by decide +kernel
theorem d_MMo_indexed_403 : decode b_MMo_indexed 403 = .ok (.iastore, 1) := by decide +kernel
theorem d_MMo_indexed_404 : decode b_MMo_indexed 404 = .ok (.goto 159, 3) := by decide +kernel
theorem d_MMo_indexed_407 : decode b_MMo_indexed 407 = .ok (.aload_n 0, 1) := by decide +kernel
theorem d_MMo_indexed_408 : decode b_MMo_indexed 408 = .ok (.getfield 13, 3) := by decide +kernel
theorem d_MMo_indexed_411 : decode b_MMo_indexed 411 = .ok (.iload_n 2, 1) := by decide +kernel
theorem d_MMo_indexed_412 : decode b_MMo_indexed 412 = .ok (.iaload, 1) := by decide +kernel
theorem d_MMo_indexed_413 : decode b_MMo_indexed 413 = .ok (.ifCond .ge 14, 3) := by decide +kernel
theorem d_MMo_indexed_416 : decode b_MMo_indexed 416 = .ok (.aload_n 0, 1) := by decide +kernel
theorem d_MMo_indexed_417 : decode b_MMo_indexed 417 = .ok (.getfield 13, 3) := by decide +kernel
theorem d_MMo_indexed_420 : decode b_MMo_indexed 420 = .ok (.iload_n 2, 1) := by decide +kernel
theorem d_MMo_indexed_421 : decode b_MMo_indexed 421 = .ok (.iaload, 1) := by decide +kernel
theorem d_MMo_indexed_422 : decode b_MMo_indexed 422 = .ok (.i2l, 1) := by decide +kernel
theorem d_MMo_indexed_423 : decode b_MMo_indexed 423 = .ok (.lneg, 1) := by decide +kernel
theorem d_MMo_indexed_424 : decode b_MMo_indexed 424 = .ok (.goto 10, 3) := by decide +kernel
theorem d_MMo_indexed_427 : decode b_MMo_indexed 427 = .ok (.aload_n 0, 1) := by decide +kernel
theorem d_MMo_indexed_428 : decode b_MMo_indexed 428 = .ok (.getfield 13, 3) := by decide +kernel
theorem d_MMo_indexed_431 : decode b_MMo_indexed 431 = .ok (.iload_n 2, 1) := by decide +kernel
theorem d_MMo_indexed_432 : decode b_MMo_indexed 432 = .ok (.iaload, 1) := by decide +kernel
theorem d_MMo_indexed_433 : decode b_MMo_indexed 433 = .ok (.i2l, 1) := by decide +kernel
theorem d_MMo_indexed_434 : decode b_MMo_indexed 434 = .ok (.lstore 8, 2) := by decide +kernel
theorem d_MMo_indexed_436 : decode b_MMo_indexed 436 = .ok (.iconst 0, 1) := by decide +kernel
theorem d_MMo_indexed_437 : decode b_MMo_indexed 437 = .ok (.istore 10, 2) := by decide +kernel
theorem d_MMo_indexed_439 : decode b_MMo_indexed 439 = .ok (.iload 10, 2) := by decide +kernel
theorem d_MMo_indexed_441 : decode b_MMo_indexed 441 = .ok (.bipush 32, 2) := by decide +kernel
theorem d_MMo_indexed_443 : decode b_MMo_indexed 443 = .ok (.if_icmp .ge 31, 3) := by decide +kernel
