theorem d_MMo_digits_264 : decode b_MMo_digits 264 = .ok (.iaload, 1) := by decide +kernel
theorem d_MMo_digits_265 : decode b_MMo_digits 265 = .ok (.iload 7, 2) := by decide +kernel
theorem d_MMo_digits_267 : decode b_MMo_digits 267 = .ok (.invokestatic 212, 3) := by decide +kernel
theorem d_MMo_digits_270 : decode b_MMo_digits 270 = .ok (.iinc 7 1, 3) := by decide +kernel
theorem d_MMo_digits_273 : decode b_MMo_digits 273 = .ok (.goto (-34), 3) := by decide +kernel
theorem d_MMo_digits_276 : decode b_MMo_digits 276 = .ok (.aload_n 0, 1) := by decide +kernel
theorem d_MMo_digits_277 : decode b_MMo_digits 277 = .ok (.aload_n 0, 1) := by decide +kernel
theorem d_MMo_digits_278 : decode b_MMo_digits 278 = .ok (.getfield 149, 3) := by decide +kernel
theorem d_MMo_digits_281 : decode b_MMo_digits 281 = .ok (.iload_n 1, 1) := by decide +kernel
theorem d_MMo_digits_282 : decode b_MMo_digits 282 = .ok (.aload_n 0, 1) := by decide +kernel
theorem d_MMo_digits_283 : decode b_MMo_digits 283 = .ok (.getfield 25, 3) := by decide +kernel
theorem d_MMo_digits_286 : decode b_MMo_digits 286 = .ok (.iload_n 3, 1) := by decide +kernel
theorem d_MMo_digits_287 : decode b_MMo_digits 287 = .ok (.iload 4, 2) := by decide +kernel
theorem d_MMo_digits_289 : decode b_MMo_digits 289 = .ok (.if_icmp .eq 7, 3) := by decide +kernel
theorem d_MMo_digits_292 : decode b_MMo_digits 292 = .ok (.iconst 1, 1) := by decide +kernel
theorem d_MMo_digits_293 : decode b_MMo_digits 293 = .ok (.goto 4, 3) := by decide +kernel
theorem d_MMo_digits_296 : decode b_MMo_digits 296 = .ok (.iconst 0, 1) := by decide +kernel
theorem d_MMo_digits_297 : decode b_MMo_digits 297 = .ok (.invokevirtual 216, 3) := by decide +kernel
theorem d_MMo_digits_300 : decode b_MMo_digits 300 = .ok (.goto 47, 3) := by decide +kernel
theorem d_MMo_digits_303 : decode b_MMo_digits 303 = .ok (.aload_n 0, 1) := by decide +kernel
theorem d_MMo_digits_304 : decode b_MMo_digits 304 = .ok (.aload_n 0, 1) := by decide +kernel
theorem d_MMo_digits_305 : decode b_MMo_digits 305 = .ok (.getfield 149, 3) := by decide +kernel
theorem d_MMo_digits_308 : decode b_MMo_digits 308 = .ok (.iload_n 1, 1) := by decide +kernel
theorem d_MMo_digits_309 : decode b_MMo_digits 309 = .ok (.iload_n 2, 1) := by decide +kernel
theorem d_MMo_digits_310 : decode b_MMo_digits 310 = .ok (.isub, 1) := by decide +kernel
theorem d_MMo_digits_311 : decode b_MMo_digits 311 = .ok (.aload_n 0, 1) := by decide +kernel
theorem d_MMo_digits_312 : decode b_MMo_digits 312 = .ok (.getfield 25, 3) := by decide +kernel
theorem d_MMo_digits_315 : decode b_MMo_digits 315 = .ok (.iload_n 3, 1) := by decide +kernel
theorem d_MMo_digits_316 : decode b_MMo_digits 316 = .ok (.iload 4, 2) := by decide +kernel
theorem d_MMo_digits_318 : decode b_MMo_digits 318 = .ok (.if_icmp .eq 7, 3) := by decide +kernel
theorem d_MMo_digits_321 : decode b_MMo_digits 321 = .ok (.iconst 1, 1) := by decide +kernel
theorem d_MMo_digits_322 : decode b_MMo_digits 322 = .ok (.goto 4, 3) := by decide +kernel
theorem d_MMo_digits_325 : decode b_MMo_digits 325 = .ok (.iconst 0, 1) := by decide +kernel
theorem d_MMo_digits_326 : decode b_MMo_digits 326 = .ok (.invokevirtual 216, 3) := by decide +kernel
theorem d_MMo_digits_329 : decode b_MMo_digits 329 = .ok (.aload_n 0, 1) := by decide +kernel
theorem d_MMo_digits_330 : decode b_MMo_digits 330 = .ok (.aload_n 0, 1) := by decide +kernel
theorem d_MMo_digits_331 : decode b_MMo_digits 331 = .ok (.getfield 149, 3) := by decide +kernel
theorem d_MMo_digits_334 : decode b_MMo_digits 334 = .ok (.iload_n 1, 1) := by decide +kernel
theorem d_MMo_digits_335 : decode b_MMo_digits 335 = .ok (.iadd, 1) := by decide +kernel
theorem d_MMo_digits_336 : decode b_MMo_digits 336 = .ok (.iload_n 2, 1) := by decide +kernel
theorem d_MMo_digits_337 : decode b_MMo_digits 337 = .ok (.isub, 1) := by decide +kernel
theorem d_MMo_digits_338 : decode b_MMo_digits 338 = .ok (.iload_n 2, 1) := by decide +kernel
theorem d_MMo_digits_339 : decode b_MMo_digits 339 = .ok (.aload_n 0, 1) := by decide +kernel
theorem d_MMo_digits_340 : decode b_MMo_digits 340 = .ok (.getfield 28, 3) := by decide +kernel
theorem d_MMo_digits_343 : decode b_MMo_digits 343 = .ok (.iload_n 3, 1) := by decide +kernel
theorem d_MMo_digits_344 : decode b_MMo_digits 344 = .ok (.invokevirtual 216, 3) := by decide +kernel
theorem d_MMo_digits_347 : decode b_MMo_digits 347 = .ok (.return_, 1) := by decide +kernel
theorem d_MMo_shifts_0 : decode b_MMo_shifts 0 = .ok (.aload_n 0, 1) := by decide +kernel
theorem d_MMo_shifts_1 : decode b_MMo_shifts 1 = .ok (.invokevirtual 163, 3) := by decide +kernel
theorem d_MMo_shifts_4 : decode b_MMo_shifts 4 = .ok (.iconst 1, 1) := by decide +kernel
theorem d_MMo_shifts_5 : decode b_MMo_shifts 5 = .ok (.iadd, 1) := by decide +kernel
theorem d_MMo_shifts_6 : decode b_MMo_shifts 6 = .ok (.istore_n 1, 1) := by decide +kernel
theorem d_MMo_shifts_7 : decode b_MMo_shifts 7 = .ok (.aload_n 0, 1) := by decide +kernel
theorem d_MMo_shifts_8 : decode b_MMo_shifts 8 = .ok (.invokevirtual 159, 3) := by decide +kernel
theorem d_MMo_shifts_11 : decode b_MMo_shifts 11 = .ok (.iconst 1, 1) := by decide +kernel
theorem d_MMo_shifts_12 : decode b_MMo_shifts 12 = .ok (.iadd, 1) := by decide +kernel
theorem d_MMo_shifts_13 : decode b_MMo_shifts 13 = .ok (.istore_n 2, 1) := by decide +kernel
theorem d_MMo_shifts_14 : decode b_MMo_shifts 14 = .ok (.aload_n 0, 1) := by decide +kernel
theorem d_MMo_shifts_15 : decode b_MMo_shifts 15 = .ok (.getfield 7, 3) := by decide +kernel
theorem d_MMo_shifts_18 : decode b_MMo_shifts 18 = .ok (.aload_n 0, 1) := by decide +kernel
theorem d_MMo_shifts_19 : decode b_MMo_shifts 19 = .ok (.getfield 152, 3) := by decide +kernel
theorem d_MMo_shifts_22 : decode b_MMo_shifts 22 = .ok (.iload_n 2, 1) := by decide +kernel
theorem d_MMo_shifts_23 : decode b_MMo_shifts 23 = .ok (.iadd, 1) := by decide +kernel
theorem d_MMo_shifts_24 : decode b_MMo_shifts 24 = .ok (.iconst 1, 1) := by decide +kernel
theorem d_MMo_shifts_25 : decode b_MMo_shifts 25 = .ok (.isub, 1) := by decide +kernel
theorem d_MMo_shifts_26 : decode b_MMo_shifts 26 = .ok (.iaload, 1) := by decide +kernel
theorem d_MMo_shifts_27 : decode b_MMo_shifts 27 = .ok (.istore_n 3, 1) := by decide +kernel
theorem d_MMo_shifts_28 : decode b_MMo_shifts 28 = .ok (.iload_n 3, 1) := by decide +kernel
theorem d_MMo_shifts_29 : decode b_MMo_shifts 29 = .ok (.bipush 15, 2) := by decide +kernel
theorem d_MMo_shifts_31 : decode b_MMo_shifts 31 = .ok (.iand, 1) := by decide +kernel
theorem d_MMo_shifts_32 : decode b_MMo_shifts 32 = .ok (.iconst 4, 1) := by decide +kernel
theorem d_MMo_shifts_33 : decode b_MMo_shifts 33 = .ok (.ishl, 1) := by decide +kernel
theorem d_MMo_shifts_34 : decode b_MMo_shifts 34 = .ok (.iload_n 3, 1) := by decide +kernel
theorem d_MMo_shifts_35 : decode b_MMo_shifts 35 = .ok (.iconst 4, 1) := by decide +kernel
theorem d_MMo_shifts_36 : decode b_MMo_shifts 36 = .ok (.ishr, 1) := by decide +kernel
theorem d_MMo_shifts_37 : decode b_MMo_shifts 37 = .ok (.ior, 1) := by decide +kernel
theorem d_MMo_shifts_38 : decode b_MMo_shifts 38 = .ok (.istore 4, 2) := by decide +kernel
theorem d_MMo_shifts_40 : decode b_MMo_shifts 40 = .ok (.iconst 0, 1) := by decide +kernel
theorem d_MMo_shifts_41 : decode b_MMo_shifts 41 = .ok (.istore 5, 2) := by decide +kernel
theorem d_MMo_shifts_43 : decode b_MMo_shifts 43 = .ok (.iload 5, 2) := by decide +kernel
theorem d_MMo_shifts_45 : decode b_MMo_shifts 45 = .ok (.iload_n 2, 1) := by decide +kernel
theorem d_MMo_shifts_46 : decode b_MMo_shifts 46 = .ok (.if_icmp .ge 28, 3) := by decide +kernel
theorem d_MMo_shifts_49 : decode b_MMo_shifts 49 = .ok (.aload_n 0, 1) := by decide +kernel
theorem d_MMo_shifts_50 : decode b_MMo_shifts 50 = .ok (.getfield 31, 3) := by decide +kernel
theorem d_MMo_shifts_53 : decode b_MMo_shifts 53 = .ok (.iload 5, 2) := by decide +kernel
theorem d_MMo_shifts_55 : decode b_MMo_shifts 55 = .ok (.aload_n 0, 1) := by decide +kernel
theorem d_MMo_shifts_56 : decode b_MMo_shifts 56 = .ok (.getfield 7, 3) := by decide +kernel
theorem d_MMo_shifts_59 : decode b_MMo_shifts 59 = .ok (.aload_n 0, 1) := by decide +kernel
theorem d_MMo_shifts_60 : decode b_MMo_shifts 60 = .ok (.getfield 152, 3) := by decide +kernel
theorem d_MMo_shifts_63 : decode b_MMo_shifts 63 = .ok (.iload 5, 2) := by decide +kernel
theorem d_MMo_shifts_65 : decode b_MMo_shifts 65 = .ok (.iadd, 1) := by decide +kernel
theorem d_MMo_shifts_66 : decode b_MMo_shifts 66 = .ok (.iaload, 1) := by decide +kernel
theorem d_MMo_shifts_67 : decode b_MMo_shifts 67 = .ok (.iastore, 1) := by decide +kernel
theorem d_MMo_shifts_68 : decode b_MMo_shifts 68 = .ok (.iinc 5 1, 3) := by decide +kernel
theorem d_MMo_shifts_71 : decode b_MMo_shifts 71 = .ok (.goto (-28), 3) := by decide +kernel
theorem d_MMo_shifts_74 : decode b_MMo_shifts 74 = .ok (.aload_n 0, 1) := by decide +kernel
theorem d_MMo_shifts_75 : decode b_MMo_shifts 75 = .ok (.getfield 7, 3) := by decide +kernel
theorem d_MMo_shifts_78 : decode b_MMo_shifts 78 = .ok (.aload_n 0, 1) := by decide +kernel
theorem d_MMo_shifts_79 : decode b_MMo_shifts 79 = .ok (.getfield 149, 3) := by decide +kernel
theorem d_MMo_shifts_82 : decode b_MMo_shifts 82 = .ok (.iload_n 1, 1) := by decide +kernel
theorem d_MMo_shifts_83 : decode b_MMo_shifts 83 = .ok (.iadd, 1) := by decide +kernel
theorem d_MMo_shifts_84 : decode b_MMo_shifts 84 = .ok (.iconst 1, 1) := by decide +kernel
theorem d_MMo_shifts_85 : decode b_MMo_shifts 85 = .ok (.isub, 1) := by decide +kernel
theorem d_MMo_shifts_86 : decode b_MMo_shifts 86 = .ok (.iload 4, 2) := by decide +kernel
theorem d_MMo_shifts_88 : decode b_MMo_shifts 88 = .ok (.iastore, 1) := by decide +kernel
theorem d_MMo_shifts_89 : decode b_MMo_shifts 89 = .ok (.iconst 1, 1) := by decide +kernel
theorem d_MMo_shifts_90 : decode b_MMo_shifts 90 = .ok (.istore 5, 2) := by decide +kernel
theorem d_MMo_shifts_92 : decode b_MMo_shifts 92 = .ok (.iload 5, 2) := by decide +kernel
theorem d_MMo_shifts_94 : decode b_MMo_shifts 94 = .ok (.iload_n 1, 1) := by decide +kernel
theorem d_MMo_shifts_95 : decode b_MMo_shifts 95 = .ok (.if_icmp .ge 162, 3) := by decide +kernel
theorem d_MMo_shifts_98 : decode b_MMo_shifts 98 = .ok (.aload_n 0, 1) := by decide +kernel
theorem d_MMo_shifts_99 : decode b_MMo_shifts 99 = .ok (.getfield 132, 3) := by decide +kernel
theorem d_MMo_shifts_102 : decode b_MMo_shifts 102 = .ok (.sipush 242, 3) := by decide +kernel
theorem d_MMo_shifts_105 : decode b_MMo_shifts 105 = .ok (.if_icmp .ne 71, 3) := by decide +kernel
theorem d_MMo_shifts_108 : decode b_MMo_shifts 108 = .ok (.iload_n 2, 1) := by decide +kernel
theorem d_MMo_shifts_109 : decode b_MMo_shifts 109 = .ok (.iconst 2, 1) := by decide +kernel
theorem d_MMo_shifts_110 : decode b_MMo_shifts 110 = .ok (.iload 5, 2) := by decide +kernel
theorem d_MMo_shifts_112 : decode b_MMo_shifts 112 = .ok (.imul, 1) := by decide +kernel
theorem d_MMo_shifts_113 : decode b_MMo_shifts 113 = .ok (.isub, 1) := by decide +kernel
theorem d_MMo_shifts_114 : decode b_MMo_shifts 114 = .ok (.istore 7, 2) := by decide +kernel
theorem d_MMo_shifts_116 : decode b_MMo_shifts 116 = .ok (.iload 7, 2) := by decide +kernel
theorem d_MMo_shifts_118 : decode b_MMo_shifts 118 = .ok (.iconst 1, 1) := by decide +kernel
theorem d_MMo_shifts_119 : decode b_MMo_shifts 119 = .ok (.isub, 1) := by decide +kernel
theorem d_MMo_shifts_120 : decode b_MMo_shifts 120 = .ok (.istore 8, 2) := by decide +kernel
theorem d_MMo_shifts_122 : decode b_MMo_shifts 122 = .ok (.iload 7, 2) := by decide +kernel
theorem d_MMo_shifts_124 : decode b_MMo_shifts 124 = .ok (.ifCond .lt 24, 3) := by decide +kernel
theorem d_MMo_shifts_127 : decode b_MMo_shifts 127 = .ok (.iload 7, 2) := by decide +kernel
theorem d_MMo_shifts_129 : decode b_MMo_shifts 129 = .ok (.iload_n 2, 1) := by decide +kernel
theorem d_MMo_shifts_130 : decode b_MMo_shifts 130 = .ok (.iconst 1, 1) := by decide +kernel
theorem d_MMo_shifts_131 : decode b_MMo_shifts 131 = .ok (.isub, 1) := by decide +kernel
theorem d_MMo_shifts_132 : decode b_MMo_shifts 132 = .ok (.if_icmp .ge 16, 3) := by decide +kernel
theorem d_MMo_shifts_135 : decode b_MMo_shifts 135 = .ok (.aload_n 0, 1) := by decide +kernel
theorem d_MMo_shifts_136 : decode b_MMo_shifts 136 = .ok (.getfield 31, 3) := by decide +kernel
theorem d_MMo_shifts_139 : decode b_MMo_shifts 139 = .ok (.iload 7, 2) := by decide +kernel
theorem d_MMo_shifts_141 : decode b_MMo_shifts 141 = .ok (.iaload, 1) := by decide +kernel
theorem d_MMo_shifts_142 : decode b_MMo_shifts 142 = .ok (.bipush 15, 2) := by decide +kernel
theorem d_MMo_shifts_144 : decode b_MMo_shifts 144 = .ok (.iand, 1) := by decide +kernel
theorem d_MMo_shifts_145 : decode b_MMo_shifts 145 = .ok (.goto 4, 3) := by decide +kernel
theorem d_MMo_shifts_148 : decode b_MMo_shifts 148 = .ok (.iconst 0, 1) := by decide +kernel
theorem d_MMo_shifts_149 : decode b_MMo_shifts 149 = .ok (.iload 8, 2) := by decide +kernel
theorem d_MMo_shifts_151 : decode b_MMo_shifts 151 = .ok (.ifCond .lt 18, 3) := by decide +kernel
theorem d_MMo_shifts_154 : decode b_MMo_shifts 154 = .ok (.aload_n 0, 1) := by decide +kernel
theorem d_MMo_shifts_155 : decode b_MMo_shifts 155 = .ok (.getfield 31, 3) := by decide +kernel
theorem d_MMo_shifts_158 : decode b_MMo_shifts 158 = .ok (.iload 8, 2) := by decide +kernel
theorem d_MMo_shifts_160 : decode b_MMo_shifts 160 = .ok (.iaload, 1) := by decide +kernel
theorem d_MMo_shifts_161 : decode b_MMo_shifts 161 = .ok (.bipush 15, 2) := by decide +kernel
theorem d_MMo_shifts_163 : decode b_MMo_shifts 163 = .ok (.iand, 1) := by decide +kernel
theorem d_MMo_shifts_164 : decode b_MMo_shifts 164 = .ok (.iconst 4, 1) := by decide +kernel
theorem d_MMo_shifts_165 : decode b_MMo_shifts 165 = .ok (.ishl, 1) := by decide +kernel
theorem d_MMo_shifts_166 : decode b_MMo_shifts 166 = .ok (.goto 4, 3) := by decide +kernel
theorem d_MMo_shifts_169 : decode b_MMo_shifts 169 = .ok (.iconst 0, 1) := by decide +kernel
theorem d_MMo_shifts_170 : decode b_MMo_shifts 170 = .ok (.ior, 1) := by decide +kernel
theorem d_MMo_shifts_171 : decode b_MMo_shifts 171 = .ok (.istore 6, 2) := by decide +kernel
theorem d_MMo_shifts_173 : decode b_MMo_shifts 173 = .ok (.goto 60, 3) := by decide +kernel
theorem d_MMo_shifts_176 : decode b_MMo_shifts 176 = .ok (.iload_n 2, 1) := by decide +kernel
theorem d_MMo_shifts_177 : decode b_MMo_shifts 177 = .ok (.iconst 1, 1) := by decide +kernel
theorem d_MMo_shifts_178 : decode b_MMo_shifts 178 = .ok (.isub, 1) := by decide +kernel
theorem d_MMo_shifts_179 : decode b_MMo_shifts 179 = .ok (.iload 5, 2) := by decide +kernel
theorem d_MMo_shifts_181 : decode b_MMo_shifts 181 = .ok (.iconst 1, 1) := by decide +kernel
theorem d_MMo_shifts_182 : decode b_MMo_shifts 182 = .ok (.iadd, 1) := by decide +kernel
theorem d_MMo_shifts_183 : decode b_MMo_shifts 183 = .ok (.iconst 2, 1) := by decide +kernel
theorem d_MMo_shifts_184 : decode b_MMo_shifts 184 = .ok (.idiv, 1) := by decide +kernel
theorem d_MMo_shifts_185 : decode b_MMo_shifts 185 = .ok (.isub, 1) := by decide +kernel
theorem d_MMo_shifts_186 : decode b_MMo_shifts 186 = .ok (.istore 7, 2) := by decide +kernel
theorem d_MMo_shifts_188 : decode b_MMo_shifts 188 = .ok (.sipush 240, 3) := by decide +kernel
theorem d_MMo_shifts_191 : decode b_MMo_shifts 191 = .ok (.iload 7, 2) := by decide +kernel
theorem d_MMo_shifts_193 : decode b_MMo_shifts 193 = .ok (.ifCond .ge 7, 3) := by decide +kernel
theorem d_MMo_shifts_196 : decode b_MMo_shifts 196 = .ok (.iconst 0, 1) := by decide +kernel
theorem d_MMo_shifts_197 : decode b_MMo_shifts 197 = .ok (.goto 33, 3) := by decide +kernel
theorem d_MMo_shifts_200 : decode b_MMo_shifts 200 = .ok (.iload 5, 2) := by decide +kernel
theorem d_MMo_shifts_202 : decode b_MMo_shifts 202 = .ok (.iconst 2, 1) := by decide +kernel
theorem d_MMo_shifts_203 : decode b_MMo_shifts 203 = .ok (.irem, 1) := by decide +kernel
theorem d_MMo_shifts_204 : decode b_MMo_shifts 204 = .ok (.iconst 1, 1) := by decide +kernel
theorem d_MMo_shifts_205 : decode b_MMo_shifts 205 = .ok (.if_icmp .ne 16, 3) := by decide +kernel
theorem d_MMo_shifts_208 : decode b_MMo_shifts 208 = .ok (.aload_n 0, 1) := by decide +kernel
theorem d_MMo_shifts_209 : decode b_MMo_shifts 209 = .ok (.getfield 31, 3) := by decide +kernel
theorem d_MMo_shifts_212 : decode b_MMo_shifts 212 = .ok (.iload 7, 2) := by decide +kernel
theorem d_MMo_shifts_214 : decode b_MMo_shifts 214 = .ok (.iaload, 1) := by decide +kernel
theorem d_MMo_shifts_215 : decode b_MMo_shifts 215 = .ok (.bipush 15, 2) := by decide +kernel
theorem d_MMo_shifts_217 : decode b_MMo_shifts 217 = .ok (.iand, 1) := by decide +kernel
theorem d_MMo_shifts_218 : decode b_MMo_shifts 218 = .ok (.goto 12, 3) := by decide +kernel
theorem d_MMo_shifts_221 : decode b_MMo_shifts 221 = .ok (.aload_n 0, 1) := by decide +kernel
theorem d_MMo_shifts_222 : decode b_MMo_shifts 222 = .ok (.getfield 31, 3) := by decide +kernel
theorem d_MMo_shifts_225 : decode b_MMo_shifts 225 = .ok (.iload 7, 2) := by decide +kernel
theorem d_MMo_shifts_227 : decode b_MMo_shifts 227 = .ok (.iaload, 1) := by decide +kernel
theorem d_MMo_shifts_228 : decode b_MMo_shifts 228 = .ok (.iconst 4, 1) := by decide +kernel
theorem d_MMo_shifts_229 : decode b_MMo_shifts 229 = .ok (.ishr, 1) := by decide +kernel
theorem d_MMo_shifts_230 : decode b_MMo_shifts 230 = .ok (.ior, 1) := by decide +kernel
theorem d_MMo_shifts_231 : decode b_MMo_shifts 231 = .ok (.istore 6, 2) := by decide +kernel
theorem d_MMo_shifts_233 : decode b_MMo_shifts 233 = .ok (.aload_n 0, 1) := by decide +kernel
theorem d_MMo_shifts_234 : decode b_MMo_shifts 234 = .ok (.getfield 7, 3) := by decide +kernel
theorem d_MMo_shifts_237 : decode b_MMo_shifts 237 = .ok (.aload_n 0, 1) := by decide +kernel
theorem d_MMo_shifts_238 : decode b_MMo_shifts 238 = .ok (.getfield 149, 3) := by decide +kernel
theorem d_MMo_shifts_241 : decode b_MMo_shifts 241 = .ok (.iload_n 1, 1) := by decide +kernel
theorem d_MMo_shifts_242 : decode b_MMo_shifts 242 = .ok (.iadd, 1) := by decide +kernel
theorem d_MMo_shifts_243 : decode b_MMo_shifts 243 = .ok (.iconst 1, 1) := by decide +kernel
theorem d_MMo_shifts_244 : decode b_MMo_shifts 244 = .ok (.isub, 1) := by decide +kernel
theorem d_MMo_shifts_245 : decode b_MMo_shifts 245 = .ok (.iload 5, 2) := by decide +kernel
theorem d_MMo_shifts_247 : decode b_MMo_shifts 247 = .ok (.isub, 1) := by decide +kernel
theorem d_MMo_shifts_248 : decode b_MMo_shifts 248 = .ok (.iload 6, 2) := by decide +kernel
theorem d_MMo_shifts_250 : decode b_MMo_shifts 250 = .ok (.iastore, 1) := by decide +kernel
theorem d_MMo_shifts_251 : decode b_MMo_shifts 251 = .ok (.iinc 5 1, 3) := by decide +kernel
theorem d_MMo_shifts_254 : decode b_MMo_shifts 254 = .ok (.goto (-162), 3) := by decide +kernel
theorem d_MMo_shifts_257 : decode b_MMo_shifts 257 = .ok (.return_, 1) := by decide +kernel
theorem d_MMo_octets_0 : decode b_MMo_octets 0 = .ok (.aload_n 0, 1) := by decide +kernel
theorem d_MMo_octets_1 : decode b_MMo_octets 1 = .ok (.getfield 142, 3) := by decide +kernel
theorem d_MMo_octets_4 : decode b_MMo_octets 4 = .ok (.iconst 1, 1) := by decide +kernel
theorem d_MMo_octets_5 : decode b_MMo_octets 5 = .ok (.iadd, 1) := by decide +kernel
theorem d_MMo_octets_6 : decode b_MMo_octets 6 = .ok (.istore_n 1, 1) := by decide +kernel
theorem d_MMo_octets_7 : decode b_MMo_octets 7 = .ok (.iconst 0, 1) := by decide +kernel
theorem d_MMo_octets_8 : decode b_MMo_octets 8 = .ok (.istore_n 2, 1) := by decide +kernel
theorem d_MMo_octets_9 : decode b_MMo_octets 9 = .ok (.aload_n 0, 1) := by decide +kernel
theorem d_MMo_octets_10 : decode b_MMo_octets 10 = .ok (.getfield 132, 3) := by decide +kernel
theorem d_MMo_octets_13 : decode b_MMo_octets 13 = .ok (.sipush 213, 3) := by decide +kernel
theorem d_MMo_octets_16 : decode b_MMo_octets 16 = .ok (.if_icmp .ne 82, 3) := by decide +kernel
theorem d_MMo_octets_19 : decode b_MMo_octets 19 = .ok (.aload_n 0, 1) := by decide +kernel
theorem d_MMo_octets_20 : decode b_MMo_octets 20 = .ok (.iconst 0, 1) := by decide +kernel
theorem d_MMo_octets_21 : decode b_MMo_octets 21 = .ok (.putfield 73, 3) := by decide +kernel
theorem d_MMo_octets_24 : decode b_MMo_octets 24 = .ok (.iload_n 1, 1) := by decide +kernel
theorem d_MMo_octets_25 : decode b_MMo_octets 25 = .ok (.iconst 1, 1) := by decide +kernel
theorem d_MMo_octets_26 : decode b_MMo_octets 26 = .ok (.isub, 1) := by decide +kernel
theorem d_MMo_octets_27 : decode b_MMo_octets 27 = .ok (.istore_n 3, 1) := by decide +kernel
theorem d_MMo_octets_28 : decode b_MMo_octets 28 = .ok (.iload_n 3, 1) := by decide +kernel
theorem d_MMo_octets_29 : decode b_MMo_octets 29 = .ok (.ifCond .lt 68, 3) := by decide +kernel
theorem d_MMo_octets_32 : decode b_MMo_octets 32 = .ok (.aload_n 0, 1) := by decide +kernel
theorem d_MMo_octets_33 : decode b_MMo_octets 33 = .ok (.getfield 7, 3) := by decide +kernel
theorem d_MMo_octets_36 : decode b_MMo_octets 36 = .ok (.aload_n 0, 1) := by decide +kernel
theorem d_MMo_octets_37 : decode b_MMo_octets 37 = .ok (.getfield 149, 3) := by decide +kernel
theorem d_MMo_octets_40 : decode b_MMo_octets 40 = .ok (.iload_n 3, 1) := by decide +kernel
theorem d_MMo_octets_41 : decode b_MMo_octets 41 = .ok (.iadd, 1) := by decide +kernel
theorem d_MMo_octets_42 : decode b_MMo_octets 42 = .ok (.iaload, 1) := by decide +kernel
theorem d_MMo_octets_43 : decode b_MMo_octets 43 = .ok (.aload_n 0, 1) := by decide +kernel
theorem d_MMo_octets_44 : decode b_MMo_octets 44 = .ok (.getfield 7, 3) := by decide +kernel
theorem d_MMo_octets_47 : decode b_MMo_octets 47 = .ok (.aload_n 0, 1) := by decide +kernel
theorem d_MMo_octets_48 : decode b_MMo_octets 48 = .ok (.getfield 152, 3) := by decide +kernel
theorem d_MMo_octets_51 : decode b_MMo_octets 51 = .ok (.iload_n 3, 1) := by decide +kernel
theorem d_MMo_octets_52 : decode b_MMo_octets 52 = .ok (.iadd, 1) := by decide +kernel
theorem d_MMo_octets_53 : decode b_MMo_octets 53 = .ok (.iaload, 1) := by decide +kernel
theorem d_MMo_octets_54 : decode b_MMo_octets 54 = .ok (.if_icmp .eq 37, 3) := by decide +kernel
theorem d_MMo_octets_57 : decode b_MMo_octets 57 = .ok (.aload_n 0, 1) := by decide +kernel
theorem d_MMo_octets_58 : decode b_MMo_octets 58 = .ok (.aload_n 0, 1) := by decide +kernel
theorem d_MMo_octets_59 : decode b_MMo_octets 59 = .ok (.getfield 7, 3) := by decide +kernel
theorem d_MMo_octets_62 : decode b_MMo_octets 62 = .ok (.aload_n 0, 1) := by decide +kernel
theorem d_MMo_octets_63 : decode b_MMo_octets 63 = .ok (.getfield 149, 3) := by decide +kernel
theorem d_MMo_octets_66 : decode b_MMo_octets 66 = .ok (.iload_n 3, 1) := by decide +kernel
theorem d_MMo_octets_67 : decode b_MMo_octets 67 = .ok (.iadd, 1) := by decide +kernel
theorem d_MMo_octets_68 : decode b_MMo_octets 68 = .ok (.iaload, 1) := by decide +kernel
theorem d_MMo_octets_69 : decode b_MMo_octets 69 = .ok (.aload_n 0, 1) := by decide +kernel
theorem d_MMo_octets_70 : decode b_MMo_octets 70 = .ok (.getfield 7, 3) := by decide +kernel
theorem d_MMo_octets_73 : decode b_MMo_octets 73 = .ok (.aload_n 0, 1) := by decide +kernel
theorem d_MMo_octets_74 : decode b_MMo_octets 74 = .ok (.getfield 152, 3) := by decide +kernel
theorem d_MMo_octets_77 : decode b_MMo_octets 77 = .ok (.iload_n 3, 1) := by decide +kernel
theorem d_MMo_octets_78 : decode b_MMo_octets 78 = .ok (.iadd, 1) := by decide +kernel
theorem d_MMo_octets_79 : decode b_MMo_octets 79 = .ok (.iaload, 1) := by decide +kernel
theorem d_MMo_octets_80 : decode b_MMo_octets 80 = .ok (.if_icmp .ge 7, 3) := by decide +kernel
theorem d_MMo_octets_83 : decode b_MMo_octets 83 = .ok (.iconst 1, 1) := by decide +kernel
theorem d_MMo_octets_84 : decode b_MMo_octets 84 = .ok (.goto 4, 3) := by decide +kernel
theorem d_MMo_octets_87 : decode b_MMo_octets 87 = .ok (.iconst 2, 1) := by decide +kernel
theorem d_MMo_octets_88 : decode b_MMo_octets 88 = .ok (.putfield 73, 3) := by decide +kernel
theorem d_MMo_octets_91 : decode b_MMo_octets 91 = .ok (.iinc 3 (-1), 3) := by decide +kernel
theorem d_MMo_octets_94 : decode b_MMo_octets 94 = .ok (.goto (-66), 3) := by decide +kernel
theorem d_MMo_octets_97 : decode b_MMo_octets 97 = .ok (.return_, 1) := by decide +kernel
theorem d_MMo_octets_98 : decode b_MMo_octets 98 = .ok (.iconst 0, 1) := by decide +kernel
theorem d_MMo_octets_99 : decode b_MMo_octets 99 = .ok (.istore_n 3, 1) := by decide +kernel
theorem d_MMo_octets_100 : decode b_MMo_octets 100 = .ok (.iload_n 3, 1) := by decide +kernel
theorem d_MMo_octets_101 : decode b_MMo_octets 101 = .ok (.iload_n 1, 1) := by decide +kernel
theorem d_MMo_octets_102 : decode b_MMo_octets 102 = .ok (.if_icmp .ge 176, 3) := by decide +kernel
theorem d_MMo_octets_105 : decode b_MMo_octets 105 = .ok (.aload_n 0, 1) := by decide +kernel
theorem d_MMo_octets_106 : decode b_MMo_octets 106 = .ok (.getfield 132, 3) := by decide +kernel
theorem d_MMo_octets_109 : decode b_MMo_octets 109 = .ok (.sipush 220, 3) := by decide +kernel
theorem d_MMo_octets_112 : decode b_MMo_octets 112 = .ok (.if_icmp .eq 166, 3) := by decide +kernel
theorem d_MMo_octets_115 : decode b_MMo_octets 115 = .ok (.aload_n 0, 1) := by decide +kernel
theorem d_MMo_octets_116 : decode b_MMo_octets 116 = .ok (.getfield 7, 3) := by decide +kernel
theorem d_MMo_octets_119 : decode b_MMo_octets 119 = .ok (.aload_n 0, 1) := by decide +kernel
theorem d_MMo_octets_120 : decode b_MMo_octets 120 = .ok (.getfield 149, 3) := by decide +kernel
theorem d_MMo_octets_123 : decode b_MMo_octets 123 = .ok (.iload_n 3, 1) := by decide +kernel
theorem d_MMo_octets_124 : decode b_MMo_octets 124 = .ok (.iadd, 1) := by decide +kernel
theorem d_MMo_octets_125 : decode b_MMo_octets 125 = .ok (.iaload, 1) := by decide +kernel
theorem d_MMo_octets_126 : decode b_MMo_octets 126 = .ok (.istore 4, 2) := by decide +kernel
theorem d_MMo_octets_128 : decode b_MMo_octets 128 = .ok (.aload_n 0, 1) := by decide +kernel
theorem d_MMo_octets_129 : decode b_MMo_octets 129 = .ok (.getfield 7, 3) := by decide +kernel
theorem d_MMo_octets_132 : decode b_MMo_octets 132 = .ok (.aload_n 0, 1) := by decide +kernel
theorem d_MMo_octets_133 : decode b_MMo_octets 133 = .ok (.getfield 152, 3) := by decide +kernel
theorem d_MMo_octets_136 : decode b_MMo_octets 136 = .ok (.iload_n 3, 1) := by decide +kernel
theorem d_MMo_octets_137 : decode b_MMo_octets 137 = .ok (.iadd, 1) := by decide +kernel
theorem d_MMo_octets_138 : decode b_MMo_octets 138 = .ok (.iaload, 1) := by decide +kernel
theorem d_MMo_octets_139 : decode b_MMo_octets 139 = .ok (.istore 5, 2) := by decide +kernel
theorem d_MMo_octets_141 : decode b_MMo_octets 141 = .ok (.aload_n 0, 1) := by decide +kernel
theorem d_MMo_octets_142 : decode b_MMo_octets 142 = .ok (.getfield 7, 3) := by decide +kernel
theorem d_MMo_octets_145 : decode b_MMo_octets 145 = .ok (.aload_n 0, 1) := by decide +kernel
theorem d_MMo_octets_146 : decode b_MMo_octets 146 = .ok (.getfield 149, 3) := by decide +kernel
theorem d_MMo_octets_149 : decode b_MMo_octets 149 = .ok (.iload_n 3, 1) := by decide +kernel
theorem d_MMo_octets_150 : decode b_MMo_octets 150 = .ok (.iadd, 1) := by decide +kernel
theorem d_MMo_octets_151 : decode b_MMo_octets 151 = .ok (.aload_n 0, 1) := by decide +kernel
theorem d_MMo_octets_152 : decode b_MMo_octets 152 = .ok (.getfield 132, 3) := by decide +kernel
theorem d_MMo_octets_155 : decode b_MMo_octets 155 = .ok (.sipush 209, 3) := by decide +kernel
theorem d_MMo_octets_158 : decode b_MMo_octets 158 = .ok (.if_icmp .ne 18, 3) := by decide +kernel
theorem d_MMo_octets_161 : decode b_MMo_octets 161 = .ok (.iload 4, 2) := by decide +kernel
theorem d_MMo_octets_163 : decode b_MMo_octets 163 = .ok (.sipush 240, 3) := by decide +kernel
theorem d_MMo_octets_166 : decode b_MMo_octets 166 = .ok (.iand, 1) := by decide +kernel
theorem d_MMo_octets_167 : decode b_MMo_octets 167 = .ok (.iload 5, 2) := by decide +kernel
theorem d_MMo_octets_169 : decode b_MMo_octets 169 = .ok (.bipush 15, 2) := by decide +kernel
theorem d_MMo_octets_171 : decode b_MMo_octets 171 = .ok (.iand, 1) := by decide +kernel
theorem d_MMo_octets_172 : decode b_MMo_octets 172 = .ok (.ior, 1) := by decide +kernel
theorem d_MMo_octets_173 : decode b_MMo_octets 173 = .ok (.goto 84, 3) := by decide +kernel
theorem d_MMo_octets_176 : decode b_MMo_octets 176 = .ok (.aload_n 0, 1) := by decide +kernel
theorem d_MMo_octets_177 : decode b_MMo_octets 177 = .ok (.getfield 132, 3) := by decide +kernel
theorem d_MMo_octets_180 : decode b_MMo_octets 180 = .ok (.sipush 210, 3) := by decide +kernel
theorem d_MMo_octets_183 : decode b_MMo_octets 183 = .ok (.if_icmp .ne 8, 3) := by decide +kernel
theorem d_MMo_octets_186 : decode b_MMo_octets 186 = .ok (.iload 5, 2) := by decide +kernel
theorem d_MMo_octets_188 : decode b_MMo_octets 188 = .ok (.goto 69, 3) := by decide +kernel
theorem d_MMo_octets_191 : decode b_MMo_octets 191 = .ok (.aload_n 0, 1) := by decide +kernel
theorem d_MMo_octets_192 : decode b_MMo_octets 192 = .ok (.getfield 132, 3) := by decide +kernel
theorem d_MMo_octets_195 : decode b_MMo_octets 195 = .ok (.sipush 211, 3) := by decide +kernel
theorem d_MMo_octets_198 : decode b_MMo_octets 198 = .ok (.if_icmp .ne 18, 3) := by decide +kernel
theorem d_MMo_octets_201 : decode b_MMo_octets 201 = .ok (.iload 5, 2) := by decide +kernel
theorem d_MMo_octets_203 : decode b_MMo_octets 203 = .ok (.sipush 240, 3) := by decide +kernel
theorem d_MMo_octets_206 : decode b_MMo_octets 206 = .ok (.iand, 1) := by decide +kernel
theorem d_MMo_octets_207 : decode b_MMo_octets 207 = .ok (.iload 4, 2) := by decide +kernel
theorem d_MMo_octets_209 : decode b_MMo_octets 209 = .ok (.bipush 15, 2) := by decide +kernel
theorem d_MMo_octets_211 : decode b_MMo_octets 211 = .ok (.iand, 1) := by decide +kernel
theorem d_MMo_octets_212 : decode b_MMo_octets 212 = .ok (.ior, 1) := by decide +kernel
theorem d_MMo_octets_213 : decode b_MMo_octets 213 = .ok (.goto 44, 3) := by decide +kernel
theorem d_MMo_octets_216 : decode b_MMo_octets 216 = .ok (.aload_n 0, 1) := by decide +kernel
theorem d_MMo_octets_217 : decode b_MMo_octets 217 = .ok (.getfield 132, 3) := by decide +kernel
theorem d_MMo_octets_220 : decode b_MMo_octets 220 = .ok (.sipush 212, 3) := by decide +kernel
theorem d_MMo_octets_223 : decode b_MMo_octets 223 = .ok (.if_icmp .ne 11, 3) := by decide +kernel
theorem d_MMo_octets_226 : decode b_MMo_octets 226 = .ok (.iload 4, 2) := by decide +kernel
theorem d_MMo_octets_228 : decode b_MMo_octets 228 = .ok (.iload 5, 2) := by decide +kernel
theorem d_MMo_octets_230 : decode b_MMo_octets 230 = .ok (.iand, 1) := by decide +kernel
theorem d_MMo_octets_231 : decode b_MMo_octets 231 = .ok (.goto 26, 3) := by decide +kernel
theorem d_MMo_octets_234 : decode b_MMo_octets 234 = .ok (.aload_n 0, 1) := by decide +kernel
theorem d_MMo_octets_235 : decode b_MMo_octets 235 = .ok (.getfield 132, 3) := by decide +kernel
theorem d_MMo_octets_238 : decode b_MMo_octets 238 = .ok (.sipush 214, 3) := by decide +kernel
theorem d_MMo_octets_241 : decode b_MMo_octets 241 = .ok (.if_icmp .ne 11, 3) := by decide +kernel
theorem d_MMo_octets_244 : decode b_MMo_octets 244 = .ok (.iload 4, 2) := by decide +kernel
theorem d_MMo_octets_246 : decode b_MMo_octets 246 = .ok (.iload 5, 2) := by decide +kernel
theorem d_MMo_octets_248 : decode b_MMo_octets 248 = .ok (.ior, 1) := by decide +kernel
theorem d_MMo_octets_249 : decode b_MMo_octets 249 = .ok (.goto 8, 3) := by decide +kernel
theorem d_MMo_octets_252 : decode b_MMo_octets 252 = .ok (.iload 4, 2) := by decide +kernel
theorem d_MMo_octets_254 : decode b_MMo_octets 254 = .ok (.iload 5, 2) := by decide +kernel
theorem d_MMo_octets_256 : decode b_MMo_octets 256 = .ok (.ixor, 1) := by decide +kernel
theorem d_MMo_octets_257 : decode b_MMo_octets 257 = .ok (.iastore, 1) := by decide +kernel
theorem d_MMo_octets_258 : decode b_MMo_octets 258 = .ok (.iload_n 2, 1) := by decide +kernel
theorem d_MMo_octets_259 : decode b_MMo_octets 259 = .ok (.aload_n 0, 1) := by decide +kernel
theorem d_MMo_octets_260 : decode b_MMo_octets 260 = .ok (.getfield 7, 3) := by decide +kernel
theorem d_MMo_octets_263 : decode b_MMo_octets 263 = .ok (.aload_n 0, 1) := by decide +kernel
theorem d_MMo_octets_264 : decode b_MMo_octets 264 = .ok (.getfield 149, 3) := by decide +kernel
theorem d_MMo_octets_267 : decode b_MMo_octets 267 = .ok (.iload_n 3, 1) := by decide +kernel
theorem d_MMo_octets_268 : decode b_MMo_octets 268 = .ok (.iadd, 1) := by decide +kernel
theorem d_MMo_octets_269 : decode b_MMo_octets 269 = .ok (.iaload, 1) := by decide +kernel
theorem d_MMo_octets_270 : decode b_MMo_octets 270 = .ok (.ior, 1) := by decide +kernel
theorem d_MMo_octets_271 : decode b_MMo_octets 271 = .ok (.istore_n 2, 1) := by decide +kernel
theorem d_MMo_octets_272 : decode b_MMo_octets 272 = .ok (.iinc 3 1, 3) := by decide +kernel
theorem d_MMo_octets_275 : decode b_MMo_octets 275 = .ok (.goto (-175), 3) := by decide +kernel
theorem d_MMo_octets_278 : decode b_MMo_octets 278 = .ok (.aload_n 0, 1) := by decide +kernel
theorem d_MMo_octets_279 : decode b_MMo_octets 279 = .ok (.getfield 132, 3) := by decide +kernel
theorem d_MMo_octets_282 : decode b_MMo_octets 282 = .ok (.sipush 212, 3) := by decide +kernel
theorem d_MMo_octets_285 : decode b_MMo_octets 285 = .ok (.if_icmp .eq 23, 3) := by decide +kernel
theorem d_MMo_octets_288 : decode b_MMo_octets 288 = .ok (.aload_n 0, 1) := by decide +kernel
theorem d_MMo_octets_289 : decode b_MMo_octets 289 = .ok (.getfield 132, 3) := by decide +kernel
theorem d_MMo_octets_292 : decode b_MMo_octets 292 = .ok (.sipush 214, 3) := by decide +kernel
theorem d_MMo_octets_295 : decode b_MMo_octets 295 = .ok (.if_icmp .eq 13, 3) := by decide +kernel
theorem d_MMo_octets_298 : decode b_MMo_octets 298 = .ok (.aload_n 0, 1) := by decide +kernel
theorem d_MMo_octets_299 : decode b_MMo_octets 299 = .ok (.getfield 132, 3) := by decide +kernel
theorem d_MMo_octets_302 : decode b_MMo_octets 302 = .ok (.sipush 215, 3) := by decide +kernel
theorem d_MMo_octets_305 : decode b_MMo_octets 305 = .ok (.if_icmp .ne 16, 3) := by decide +kernel
theorem d_MMo_octets_308 : decode b_MMo_octets 308 = .ok (.aload_n 0, 1) := by decide +kernel
theorem d_MMo_octets_309 : decode b_MMo_octets 309 = .ok (.iload_n 2, 1) := by decide +kernel
theorem d_MMo_octets_310 : decode b_MMo_octets 310 = .ok (.ifCond .ne 7, 3) := by decide +kernel
theorem d_MMo_octets_313 : decode b_MMo_octets 313 = .ok (.iconst 0, 1) := by decide +kernel
theorem d_MMo_octets_314 : decode b_MMo_octets 314 = .ok (.goto 4, 3) := by decide +kernel
theorem d_MMo_octets_317 : decode b_MMo_octets 317 = .ok (.iconst 1, 1) := by decide +kernel
theorem d_MMo_octets_318 : decode b_MMo_octets 318 = .ok (.putfield 73, 3) := by decide +kernel
theorem d_MMo_octets_321 : decode b_MMo_octets 321 = .ok (.return_, 1) := by decide +kernel
theorem d_MMo_signOf_0 : decode b_MMo_signOf 0 = .ok (.iload_n 0, 1) := by decide +kernel
theorem d_MMo_signOf_1 : decode b_MMo_signOf 1 = .ok (.ifCond .ne 7, 3) := by decide +kernel
theorem d_MMo_signOf_4 : decode b_MMo_signOf 4 = .ok (.iconst 0, 1) := by decide +kernel
theorem d_MMo_signOf_5 : decode b_MMo_signOf 5 = .ok (.goto 12, 3) := by decide +kernel
theorem d_MMo_signOf_8 : decode b_MMo_signOf 8 = .ok (.iload_n 0, 1) := by decide +kernel
theorem d_MMo_signOf_9 : decode b_MMo_signOf 9 = .ok (.ifCond .ge 7, 3) := by decide +kernel
theorem d_MMo_signOf_12 : decode b_MMo_signOf 12 = .ok (.iconst 1, 1) := by decide +kernel
theorem d_MMo_signOf_13 : decode b_MMo_signOf 13 = .ok (.goto 4, 3) := by decide +kernel
theorem d_MMo_signOf_16 : decode b_MMo_signOf 16 = .ok (.iconst 2, 1) := by decide +kernel
theorem d_MMo_signOf_17 : decode b_MMo_signOf 17 = .ok (.ireturn, 1) := by decide +kernel
theorem d_MMo_exact_0 : decode b_MMo_exact 0 = .ok (.aload_n 0, 1) := by decide +kernel
theorem d_MMo_exact_1 : decode b_MMo_exact 1 = .ok (.getfield 13, 3) := by decide +kernel
theorem d_MMo_exact_4 : decode b_MMo_exact 4 = .ok (.iload_n 1, 1) := by decide +kernel
theorem d_MMo_exact_5 : decode b_MMo_exact 5 = .ok (.lload_n 2, 1) := by decide +kernel
theorem d_MMo_exact_6 : decode b_MMo_exact 6 = .ok (.l2i, 1) := by decide +kernel
theorem d_MMo_exact_7 : decode b_MMo_exact 7 = .ok (.iastore, 1) := by decide +kernel
theorem d_MMo_exact_8 : decode b_MMo_exact 8 = .ok (.lload_n 2, 1) := by decide +kernel
theorem d_MMo_exact_9 : decode b_MMo_exact 9 = .ok (.lload_n 2, 1) := by decide +kernel
theorem d_MMo_exact_10 : decode b_MMo_exact 10 = .ok (.l2i, 1) := by decide +kernel
theorem d_MMo_exact_11 : decode b_MMo_exact 11 = .ok (.i2l, 1) := by decide +kernel
theorem d_MMo_exact_12 : decode b_MMo_exact 12 = .ok (.lcmp, 1) := by decide +kernel
theorem d_MMo_exact_13 : decode b_MMo_exact 13 = .ok (.ifCond .eq 7, 3) := by decide +kernel
theorem d_MMo_exact_16 : decode b_MMo_exact 16 = .ok (.iconst 1, 1) := by decide +kernel
theorem d_MMo_exact_17 : decode b_MMo_exact 17 = .ok (.goto 4, 3) := by decide +kernel
theorem d_MMo_exact_20 : decode b_MMo_exact 20 = .ok (.iconst 0, 1) := by decide +kernel
theorem d_MMo_exact_21 : decode b_MMo_exact 21 = .ok (.istore 4, 2) := by decide +kernel
theorem d_MMo_exact_23 : decode b_MMo_exact 23 = .ok (.aload_n 0, 1) := by decide +kernel
theorem d_MMo_exact_24 : decode b_MMo_exact 24 = .ok (.iload 4, 2) := by decide +kernel
theorem d_MMo_exact_26 : decode b_MMo_exact 26 = .ok (.ifCond .eq 7, 3) := by decide +kernel
theorem d_MMo_exact_29 : decode b_MMo_exact 29 = .ok (.iconst 3, 1) := by decide +kernel
theorem d_MMo_exact_30 : decode b_MMo_exact 30 = .ok (.goto 8, 3) := by decide +kernel
theorem d_MMo_exact_33 : decode b_MMo_exact 33 = .ok (.lload_n 2, 1) := by decide +kernel
theorem d_MMo_exact_34 : decode b_MMo_exact 34 = .ok (.l2i, 1) := by decide +kernel
theorem d_MMo_exact_35 : decode b_MMo_exact 35 = .ok (.invokestatic 232, 3) := by decide +kernel
theorem d_MMo_exact_38 : decode b_MMo_exact 38 = .ok (.putfield 73, 3) := by decide +kernel
theorem d_MMo_exact_41 : decode b_MMo_exact 41 = .ok (.iload 4, 2) := by decide +kernel
theorem d_MMo_exact_43 : decode b_MMo_exact 43 = .ok (.ifCond .eq 18, 3) := by decide +kernel
theorem d_MMo_exact_46 : decode b_MMo_exact 46 = .ok (.aload_n 0, 1) := by decide +kernel
theorem d_MMo_exact_47 : decode b_MMo_exact 47 = .ok (.getfield 70, 3) := by decide +kernel
theorem d_MMo_exact_50 : decode b_MMo_exact 50 = .ok (.iconst 1, 1) := by decide +kernel
theorem d_MMo_exact_51 : decode b_MMo_exact 51 = .ok (.iand, 1) := by decide +kernel
theorem d_MMo_exact_52 : decode b_MMo_exact 52 = .ok (.ifCond .le 9, 3) := by decide +kernel
theorem d_MMo_exact_55 : decode b_MMo_exact 55 = .ok (.aload_n 0, 1) := by decide +kernel
theorem d_MMo_exact_56 : decode b_MMo_exact 56 = .ok (.bipush 8, 2) := by decide +kernel
theorem d_MMo_exact_58 : decode b_MMo_exact 58 = .ok (.putfield 86, 3) := by decide +kernel
theorem d_MMo_exact_61 : decode b_MMo_exact 61 = .ok (.return_, 1) := by decide +kernel
theorem d_MMo_plain_0 : decode b_MMo_plain 0 = .ok (.aload_n 0, 1) := by decide +kernel
theorem d_MMo_plain_1 : decode b_MMo_plain 1 = .ok (.getfield 13, 3) := by decide +kernel
theorem d_MMo_plain_4 : decode b_MMo_plain 4 = .ok (.iload_n 1, 1) := by decide +kernel
theorem d_MMo_plain_5 : decode b_MMo_plain 5 = .ok (.lload_n 2, 1) := by decide +kernel
theorem d_MMo_plain_6 : decode b_MMo_plain 6 = .ok (.l2i, 1) := by decide +kernel
theorem d_MMo_plain_7 : decode b_MMo_plain 7 = .ok (.iastore, 1) := by decide +kernel
theorem d_MMo_plain_8 : decode b_MMo_plain 8 = .ok (.aload_n 0, 1) := by decide +kernel
theorem d_MMo_plain_9 : decode b_MMo_plain 9 = .ok (.lload_n 2, 1) := by decide +kernel
theorem d_MMo_plain_10 : decode b_MMo_plain 10 = .ok (.l2i, 1) := by decide +kernel
theorem d_MMo_plain_11 : decode b_MMo_plain 11 = .ok (.ifCond .ne 7, 3) := by decide +kernel
theorem d_MMo_plain_14 : decode b_MMo_plain 14 = .ok (.iconst 0, 1) := by decide +kernel
theorem d_MMo_plain_15 : decode b_MMo_plain 15 = .ok (.goto 4, 3) := by decide +kernel
theorem d_MMo_plain_18 : decode b_MMo_plain 18 = .ok (.iconst 1, 1) := by decide +kernel
theorem d_MMo_plain_19 : decode b_MMo_plain 19 = .ok (.lload_n 2, 1) := by decide +kernel
theorem d_MMo_plain_20 : decode b_MMo_plain 20 = .ok (.bipush 32, 2) := by decide +kernel
theorem d_MMo_plain_22 : decode b_MMo_plain 22 = .ok (.lushr, 1) := by decide +kernel
theorem d_MMo_plain_23 : decode b_MMo_plain 23 = .ok (.lconst 0, 1) := by decide +kernel
theorem d_MMo_plain_24 : decode b_MMo_plain 24 = .ok (.lcmp, 1) := by decide +kernel
theorem d_MMo_plain_25 : decode b_MMo_plain 25 = .ok (.ifCond .le 7, 3) := by decide +kernel
theorem d_MMo_plain_28 : decode b_MMo_plain 28 = .ok (.iconst 2, 1) := by decide +kernel
theorem d_MMo_plain_29 : decode b_MMo_plain 29 = .ok (.goto 4, 3) := by decide +kernel
theorem d_MMo_plain_32 : decode b_MMo_plain 32 = .ok (.iconst 0, 1) := by decide +kernel
theorem d_MMo_plain_33 : decode b_MMo_plain 33 = .ok (.iadd, 1) := by decide +kernel
theorem d_MMo_plain_34 : decode b_MMo_plain 34 = .ok (.putfield 73, 3) := by decide +kernel
theorem d_MMo_plain_37 : decode b_MMo_plain 37 = .ok (.return_, 1) := by decide +kernel
theorem d_MMo_bare_0 : decode b_MMo_bare 0 = .ok (.iload_n 0, 1) := by decide +kernel
theorem d_MMo_bare_1 : decode b_MMo_bare 1 = .ok (.i2l, 1) := by decide +kernel
theorem d_MMo_bare_2 : decode b_MMo_bare 2 = .ok (.ldc2_w 197, 3) := by decide +kernel
theorem d_MMo_bare_5 : decode b_MMo_bare 5 = .ok (.land, 1) := by decide +kernel
theorem d_MMo_bare_6 : decode b_MMo_bare 6 = .ok (.lreturn, 1) := by decide +kernel
theorem d_MMo_order_0 : decode b_MMo_order 0 = .ok (.lload_n 0, 1) := by decide +kernel
theorem d_MMo_order_1 : decode b_MMo_order 1 = .ok (.lload_n 2, 1) := by decide +kernel
theorem d_MMo_order_2 : decode b_MMo_order 2 = .ok (.lcmp, 1) := by decide +kernel
theorem d_MMo_order_3 : decode b_MMo_order 3 = .ok (.ifCond .ne 7, 3) := by decide +kernel
theorem d_MMo_order_6 : decode b_MMo_order 6 = .ok (.iconst 0, 1) := by decide +kernel
theorem d_MMo_order_7 : decode b_MMo_order 7 = .ok (.goto 14, 3) := by decide +kernel
theorem d_MMo_order_10 : decode b_MMo_order 10 = .ok (.lload_n 0, 1) := by decide +kernel
theorem d_MMo_order_11 : decode b_MMo_order 11 = .ok (.lload_n 2, 1) := by decide +kernel
theorem d_MMo_order_12 : decode b_MMo_order 12 = .ok (.lcmp, 1) := by decide +kernel
theorem d_MMo_order_13 : decode b_MMo_order 13 = .ok (.ifCond .ge 7, 3) := by decide +kernel
theorem d_MMo_order_16 : decode b_MMo_order 16 = .ok (.iconst 1, 1) := by decide +kernel
theorem d_MMo_order_17 : decode b_MMo_order 17 = .ok (.goto 4, 3) := by decide +kernel
theorem d_MMo_order_20 : decode b_MMo_order 20 = .ok (.iconst 2, 1) := by decide +kernel
theorem d_MMo_order_21 : decode b_MMo_order 21 = .ok (.ireturn, 1) := by decide +kernel
theorem d_MMo_reckons_0 : decode b_MMo_reckons 0 = .ok (.aload_n 0, 1) := by decide +kernel
theorem d_MMo_reckons_1 : decode b_MMo_reckons 1 = .ok (.getfield 13, 3) := by decide +kernel
theorem d_MMo_reckons_4 : decode b_MMo_reckons 4 = .ok (.iload_n 2, 1) := by decide +kernel
theorem d_MMo_reckons_5 : decode b_MMo_reckons 5 = .ok (.iaload, 1) := by decide +kernel
theorem d_MMo_reckons_6 : decode b_MMo_reckons 6 = .ok (.istore 4, 2) := by decide +kernel
theorem d_MMo_reckons_8 : decode b_MMo_reckons 8 = .ok (.iload_n 1, 1) := by decide +kernel
theorem d_MMo_reckons_9 : decode b_MMo_reckons 9 = .ok (.tableswitch 308 84 95 #[63, 156, 94, 125, 175, 185, 200, 214, 268, 308, 228, 246], 63) := by decide +kernel
theorem d_MMo_reckons_72 : decode b_MMo_reckons 72 = .ok (.aload_n 0, 1) := by decide +kernel
theorem d_MMo_reckons_73 : decode b_MMo_reckons 73 = .ok (.getfield 13, 3) := by decide +kernel
theorem d_MMo_reckons_76 : decode b_MMo_reckons 76 = .ok (.iload_n 2, 1) := by decide +kernel
theorem d_MMo_reckons_77 : decode b_MMo_reckons 77 = .ok (.iload 4, 2) := by decide +kernel
theorem d_MMo_reckons_79 : decode b_MMo_reckons 79 = .ok (.iload_n 3, 1) := by decide +kernel
theorem d_MMo_reckons_80 : decode b_MMo_reckons 80 = .ok (.iand, 1) := by decide +kernel
theorem d_MMo_reckons_81 : decode b_MMo_reckons 81 = .ok (.iastore, 1) := by decide +kernel
theorem d_MMo_reckons_82 : decode b_MMo_reckons 82 = .ok (.aload_n 0, 1) := by decide +kernel
theorem d_MMo_reckons_83 : decode b_MMo_reckons 83 = .ok (.aload_n 0, 1) := by decide +kernel
theorem d_MMo_reckons_84 : decode b_MMo_reckons 84 = .ok (.getfield 13, 3) := by decide +kernel
theorem d_MMo_reckons_87 : decode b_MMo_reckons 87 = .ok (.iload_n 2, 1) := by decide +kernel
theorem d_MMo_reckons_88 : decode b_MMo_reckons 88 = .ok (.iaload, 1) := by decide +kernel
theorem d_MMo_reckons_89 : decode b_MMo_reckons 89 = .ok (.ifCond .ne 7, 3) := by decide +kernel
theorem d_MMo_reckons_92 : decode b_MMo_reckons 92 = .ok (.iconst 0, 1) := by decide +kernel
theorem d_MMo_reckons_93 : decode b_MMo_reckons 93 = .ok (.goto 4, 3) := by decide +kernel
theorem d_MMo_reckons_96 : decode b_MMo_reckons 96 = .ok (.iconst 1, 1) := by decide +kernel
theorem d_MMo_reckons_97 : decode b_MMo_reckons 97 = .ok (.putfield 73, 3) := by decide +kernel
theorem d_MMo_reckons_100 : decode b_MMo_reckons 100 = .ok (.goto 263, 3) := by decide +kernel
theorem d_MMo_reckons_103 : decode b_MMo_reckons 103 = .ok (.aload_n 0, 1) := by decide +kernel
theorem d_MMo_reckons_104 : decode b_MMo_reckons 104 = .ok (.getfield 13, 3) := by decide +kernel
theorem d_MMo_reckons_107 : decode b_MMo_reckons 107 = .ok (.iload_n 2, 1) := by decide +kernel
theorem d_MMo_reckons_108 : decode b_MMo_reckons 108 = .ok (.iload 4, 2) := by decide +kernel
theorem d_MMo_reckons_110 : decode b_MMo_reckons 110 = .ok (.iload_n 3, 1) := by decide +kernel
theorem d_MMo_reckons_111 : decode b_MMo_reckons 111 = .ok (.ior, 1) := by decide +kernel
theorem d_MMo_reckons_112 : decode b_MMo_reckons 112 = .ok (.iastore, 1) := by decide +kernel
theorem d_MMo_reckons_113 : decode b_MMo_reckons 113 = .ok (.aload_n 0, 1) := by decide +kernel
theorem d_MMo_reckons_114 : decode b_MMo_reckons 114 = .ok (.aload_n 0, 1) := by decide +kernel
theorem d_MMo_reckons_115 : decode b_MMo_reckons 115 = .ok (.getfield 13, 3) := by decide +kernel
