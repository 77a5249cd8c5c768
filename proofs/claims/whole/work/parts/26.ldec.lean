theorem zW_keep {S : Type} {D : va_G} {cl : List vw_C} {ty : List (ClassId × FieldType)} {nw : List Cond} {x : S → va_W} {A B : Nat → Prop} {s : State} {u : S} {H H1 : Heap} (h : zW D cl ty nw x A s u H) (hk : ∀ q : Nat, q < H.size → ¬ B q → H1[q]? = H[q]?) (hd : ∀ q, zA (x u) q → ¬ B q) : zW D cl ty nw x A s u H1 :=
  ⟨h.1.kept (fun k q hq => hk q.1 (h.1 k q hq).lt (hd q.1 ⟨k, q.2, hq⟩)), h.2⟩
set_option maxRecDepth 20000 in
theorem kl_0 : Cond.constantLong RL 62 4294967295 ∈ G0 := mG 1164 rfl rfl
set_option maxRecDepth 20000 in
theorem kl_1 : Cond.methodLink RL 64 y_H_poke ∈ G0 := mG 309 rfl rfl
set_option maxRecDepth 20000 in
theorem kl_2 : Cond.static y_H_poke ∈ G0 := mG 310 rfl rfl
set_option maxRecDepth 20000 in
theorem kl_3 : Cond.initialized RL ∈ G0 := mG 69 rfl rfl
set_option maxRecDepth 20000 in
theorem kl_4 : Cond.methodLink RL 69 y_MMo_poke ∈ G0 := mG 912 rfl rfl
set_option maxRecDepth 20000 in
theorem kl_5 : Cond.instanceMethod y_MMo_poke ∈ G0 := mG 913 rfl rfl
set_option maxRecDepth 20000 in
theorem kl_6 : Cond.selects RM_Mo y_MMo_poke y_MMo_poke ∈ G0 := mG 914 rfl rfl
set_option maxRecDepth 20000 in
theorem kl_7 : Cond.initialized RM_Mo ∈ G0 := mG 80 rfl rfl
set_option maxRecDepth 20000 in
theorem kl_8 : Cond.methodLink RL 70 y_MMo_thrown ∈ G0 := mG 908 rfl rfl
set_option maxRecDepth 20000 in
theorem kl_9 : Cond.instanceMethod y_MMo_thrown ∈ G0 := mG 909 rfl rfl
set_option maxRecDepth 20000 in
theorem kl_10 : Cond.selects RM_Mo y_MMo_thrown y_MMo_thrown ∈ G0 := mG 910 rfl rfl
set_option maxRecDepth 20000 in
theorem kl_11 : Cond.methodLink RL 74 y_H_octet ∈ G0 := mG 426 rfl rfl
set_option maxRecDepth 20000 in
theorem kl_12 : Cond.static y_H_octet ∈ G0 := mG 427 rfl rfl
set_option maxRecDepth 20000 in
theorem kl_13 : Cond.methodLink RL 77 y_MMo_octet ∈ G0 := mG 932 rfl rfl
set_option maxRecDepth 20000 in
theorem kl_14 : Cond.instanceMethod y_MMo_octet ∈ G0 := mG 933 rfl rfl
set_option maxRecDepth 20000 in
theorem kl_15 : Cond.selects RM_Mo y_MMo_octet y_MMo_octet ∈ G0 := mG 934 rfl rfl
set_option maxRecDepth 20000 in
theorem kl_16 : Cond.methodLink RL 78 y_H_set ∈ G0 := mG 437 rfl rfl
set_option maxRecDepth 20000 in
theorem kl_17 : Cond.static y_H_set ∈ G0 := mG 438 rfl rfl
set_option maxRecDepth 20000 in
theorem kl_18 : Cond.methodLink RL 81 y_MMo_set ∈ G0 := mG 936 rfl rfl
set_option maxRecDepth 20000 in
theorem kl_19 : Cond.instanceMethod y_MMo_set ∈ G0 := mG 937 rfl rfl
set_option maxRecDepth 20000 in
theorem kl_20 : Cond.selects RM_Mo y_MMo_set y_MMo_set ∈ G0 := mG 938 rfl rfl
set_option maxRecDepth 20000 in
theorem kl_21 : Cond.methodLink RL 82 y_H_register ∈ G0 := mG 455 rfl rfl
set_option maxRecDepth 20000 in
theorem kl_22 : Cond.static y_H_register ∈ G0 := mG 456 rfl rfl
set_option maxRecDepth 20000 in
theorem kl_23 : Cond.methodLink RL 84 y_MMo_register ∈ G0 := mG 941 rfl rfl
set_option maxRecDepth 20000 in
theorem kl_24 : Cond.instanceMethod y_MMo_register ∈ G0 := mG 942 rfl rfl
set_option maxRecDepth 20000 in
theorem kl_25 : Cond.selects RM_Mo y_MMo_register y_MMo_register ∈ G0 := mG 943 rfl rfl
set_option maxRecDepth 20000 in
theorem kl_26 : Cond.methodLink RL 85 y_H_start ∈ G0 := mG 462 rfl rfl
set_option maxRecDepth 20000 in
theorem kl_27 : Cond.static y_H_start ∈ G0 := mG 463 rfl rfl
set_option maxRecDepth 20000 in
theorem kl_28 : Cond.methodLink RL 88 y_MMo_start ∈ G0 := mG 945 rfl rfl
set_option maxRecDepth 20000 in
theorem kl_29 : Cond.instanceMethod y_MMo_start ∈ G0 := mG 946 rfl rfl
set_option maxRecDepth 20000 in
theorem kl_30 : Cond.selects RM_Mo y_MMo_start y_MMo_start ∈ G0 := mG 947 rfl rfl
set_option maxRecDepth 20000 in
theorem kl_31 : Cond.methodLink RL 89 y_H_rr ∈ G0 := mG 470 rfl rfl
set_option maxRecDepth 20000 in
theorem kl_32 : Cond.static y_H_rr ∈ G0 := mG 471 rfl rfl
set_option maxRecDepth 20000 in
theorem kl_33 : Cond.methodLink RL 92 y_MMo_rr ∈ G0 := mG 951 rfl rfl
set_option maxRecDepth 20000 in
theorem kl_34 : Cond.instanceMethod y_MMo_rr ∈ G0 := mG 952 rfl rfl
set_option maxRecDepth 20000 in
theorem kl_35 : Cond.selects RM_Mo y_MMo_rr y_MMo_rr ∈ G0 := mG 953 rfl rfl
set_option maxRecDepth 20000 in
theorem kl_36 : Cond.methodLink RL 93 y_H_rx ∈ G0 := mG 477 rfl rfl
set_option maxRecDepth 20000 in
theorem kl_37 : Cond.static y_H_rx ∈ G0 := mG 478 rfl rfl
set_option maxRecDepth 20000 in
theorem kl_38 : Cond.methodLink RL 96 y_MMo_rx ∈ G0 := mG 956 rfl rfl
set_option maxRecDepth 20000 in
theorem kl_39 : Cond.instanceMethod y_MMo_rx ∈ G0 := mG 957 rfl rfl
set_option maxRecDepth 20000 in
theorem kl_40 : Cond.selects RM_Mo y_MMo_rx y_MMo_rx ∈ G0 := mG 958 rfl rfl
set_option maxRecDepth 20000 in
theorem kl_41 : Cond.methodLink RL 97 y_H_ss ∈ G0 := mG 487 rfl rfl
set_option maxRecDepth 20000 in
theorem kl_42 : Cond.static y_H_ss ∈ G0 := mG 488 rfl rfl
set_option maxRecDepth 20000 in
theorem kl_43 : Cond.methodLink RL 100 y_MMo_ss ∈ G0 := mG 963 rfl rfl
set_option maxRecDepth 20000 in
theorem kl_44 : Cond.instanceMethod y_MMo_ss ∈ G0 := mG 964 rfl rfl
set_option maxRecDepth 20000 in
theorem kl_45 : Cond.selects RM_Mo y_MMo_ss y_MMo_ss ∈ G0 := mG 965 rfl rfl
set_option maxRecDepth 20000 in
theorem kl_46 : Cond.methodLink RL 101 y_H_run ∈ G0 := mG 494 rfl rfl
set_option maxRecDepth 20000 in
theorem kl_47 : Cond.static y_H_run ∈ G0 := mG 495 rfl rfl
set_option maxRecDepth 20000 in
theorem kl_48 : Cond.methodLink RL 103 y_MMo_run ∈ G0 := mG 968 rfl rfl
set_option maxRecDepth 20000 in
theorem kl_49 : Cond.instanceMethod y_MMo_run ∈ G0 := mG 969 rfl rfl
set_option maxRecDepth 20000 in
theorem kl_50 : Cond.selects RM_Mo y_MMo_run y_MMo_run ∈ G0 := mG 970 rfl rfl
set_option maxRecDepth 20000 in
theorem kl_51 : Cond.methodLink RL 104 y_H_packed ∈ G0 := mG 819 rfl rfl
set_option maxRecDepth 20000 in
theorem kl_52 : Cond.static y_H_packed ∈ G0 := mG 820 rfl rfl
set_option maxRecDepth 20000 in
theorem kl_53 : Cond.methodLink RL 106 y_MMo_packed ∈ G0 := mG 1155 rfl rfl
set_option maxRecDepth 20000 in
theorem kl_54 : Cond.instanceMethod y_MMo_packed ∈ G0 := mG 1156 rfl rfl
set_option maxRecDepth 20000 in
theorem kl_55 : Cond.selects RM_Mo y_MMo_packed y_MMo_packed ∈ G0 := mG 1157 rfl rfl
set_option maxRecDepth 20000 in
theorem kl_56 : Cond.methodLink RL 107 y_H_count ∈ G0 := mG 828 rfl rfl
set_option maxRecDepth 20000 in
theorem kl_57 : Cond.static y_H_count ∈ G0 := mG 829 rfl rfl
set_option maxRecDepth 20000 in
theorem kl_58 : Cond.methodLink RL 109 y_MMo_count ∈ G0 := mG 1159 rfl rfl
set_option maxRecDepth 20000 in
theorem kl_59 : Cond.instanceMethod y_MMo_count ∈ G0 := mG 1160 rfl rfl
set_option maxRecDepth 20000 in
theorem kl_60 : Cond.selects RM_Mo y_MMo_count y_MMo_count ∈ G0 := mG 1161 rfl rfl
theorem d_law_0 : decode code 0 = .ok (.new 8, 3) := by decide +kernel
theorem d_law_3 : decode code 3 = .ok (.dup, 1) := by decide +kernel
theorem d_law_4 : decode code 4 = .ok (.invokespecial 58, 3) := by decide +kernel
theorem d_law_7 : decode code 7 = .ok (.astore_n 1, 1) := by decide +kernel
theorem d_law_8 : decode code 8 = .ok (.new 59, 3) := by decide +kernel
theorem d_law_11 : decode code 11 = .ok (.dup, 1) := by decide +kernel
theorem d_law_12 : decode code 12 = .ok (.invokespecial 61, 3) := by decide +kernel
theorem d_law_15 : decode code 15 = .ok (.astore_n 2, 1) := by decide +kernel
theorem d_law_16 : decode code 16 = .ok (.iconst 1, 1) := by decide +kernel
theorem d_law_17 : decode code 17 = .ok (.newarray .long, 2) := by decide +kernel
theorem d_law_19 : decode code 19 = .ok (.astore_n 3, 1) := by decide +kernel
theorem d_law_20 : decode code 20 = .ok (.iconst 0, 1) := by decide +kernel
theorem d_law_21 : decode code 21 = .ok (.istore 4, 2) := by decide +kernel
theorem d_law_23 : decode code 23 = .ok (.iload 4, 2) := by decide +kernel
theorem d_law_25 : decode code 25 = .ok (.aload_n 0, 1) := by decide +kernel
theorem d_law_26 : decode code 26 = .ok (.arraylength, 1) := by decide +kernel
theorem d_law_27 : decode code 27 = .ok (.bipush 8, 2) := by decide +kernel
theorem d_law_29 : decode code 29 = .ok (.isub, 1) := by decide +kernel
theorem d_law_30 : decode code 30 = .ok (.if_icmp .gt 917, 3) := by decide +kernel
theorem d_law_33 : decode code 33 = .ok (.aload_n 0, 1) := by decide +kernel
theorem d_law_34 : decode code 34 = .ok (.iload 4, 2) := by decide +kernel
theorem d_law_36 : decode code 36 = .ok (.iaload, 1) := by decide +kernel
theorem d_law_37 : decode code 37 = .ok (.bipush 15, 2) := by decide +kernel
theorem d_law_39 : decode code 39 = .ok (.iand, 1) := by decide +kernel
theorem d_law_40 : decode code 40 = .ok (.tableswitch 901 0 10 #[60, 152, 208, 276, 332, 380, 472, 590, 722, 778, 845], 60) := by decide +kernel
theorem d_law_100 : decode code 100 = .ok (.aload_n 1, 1) := by decide +kernel
theorem d_law_101 : decode code 101 = .ok (.aload_n 0, 1) := by decide +kernel
theorem d_law_102 : decode code 102 = .ok (.iload 4, 2) := by decide +kernel
theorem d_law_104 : decode code 104 = .ok (.iconst 1, 1) := by decide +kernel
theorem d_law_105 : decode code 105 = .ok (.iadd, 1) := by decide +kernel
theorem d_law_106 : decode code 106 = .ok (.iaload, 1) := by decide +kernel
theorem d_law_107 : decode code 107 = .ok (.aload_n 0, 1) := by decide +kernel
theorem d_law_108 : decode code 108 = .ok (.iload 4, 2) := by decide +kernel
theorem d_law_110 : decode code 110 = .ok (.iconst 2, 1) := by decide +kernel
theorem d_law_111 : decode code 111 = .ok (.iadd, 1) := by decide +kernel
theorem d_law_112 : decode code 112 = .ok (.iaload, 1) := by decide +kernel
theorem d_law_113 : decode code 113 = .ok (.aload_n 0, 1) := by decide +kernel
theorem d_law_114 : decode code 114 = .ok (.iload 4, 2) := by decide +kernel
theorem d_law_116 : decode code 116 = .ok (.iconst 3, 1) := by decide +kernel
theorem d_law_117 : decode code 117 = .ok (.iadd, 1) := by decide +kernel
theorem d_law_118 : decode code 118 = .ok (.iaload, 1) := by decide +kernel
theorem d_law_119 : decode code 119 = .ok (.i2l, 1) := by decide +kernel
theorem d_law_120 : decode code 120 = .ok (.bipush 32, 2) := by decide +kernel
theorem d_law_122 : decode code 122 = .ok (.lshl, 1) := by decide +kernel
theorem d_law_123 : decode code 123 = .ok (.aload_n 0, 1) := by decide +kernel
theorem d_law_124 : decode code 124 = .ok (.iload 4, 2) := by decide +kernel
theorem d_law_126 : decode code 126 = .ok (.iconst 4, 1) := by decide +kernel
theorem d_law_127 : decode code 127 = .ok (.iadd, 1) := by decide +kernel
theorem d_law_128 : decode code 128 = .ok (.iaload, 1) := by decide +kernel
theorem d_law_129 : decode code 129 = .ok (.i2l, 1) := by decide +kernel
theorem d_law_130 : decode code 130 = .ok (.ldc2_w 62, 3) := by decide +kernel
theorem d_law_133 : decode code 133 = .ok (.land, 1) := by decide +kernel
theorem d_law_134 : decode code 134 = .ok (.lor, 1) := by decide +kernel
theorem d_law_135 : decode code 135 = .ok (.invokestatic 64, 3) := by decide +kernel
theorem d_law_138 : decode code 138 = .ok (.istore 5, 2) := by decide +kernel
theorem d_law_140 : decode code 140 = .ok (.aload_n 2, 1) := by decide +kernel
theorem d_law_141 : decode code 141 = .ok (.aload_n 0, 1) := by decide +kernel
theorem d_law_142 : decode code 142 = .ok (.iload 4, 2) := by decide +kernel
theorem d_law_144 : decode code 144 = .ok (.iconst 1, 1) := by decide +kernel
theorem d_law_145 : decode code 145 = .ok (.iadd, 1) := by decide +kernel
theorem d_law_146 : decode code 146 = .ok (.iaload, 1) := by decide +kernel
theorem d_law_147 : decode code 147 = .ok (.aload_n 0, 1) := by decide +kernel
theorem d_law_148 : decode code 148 = .ok (.iload 4, 2) := by decide +kernel
theorem d_law_150 : decode code 150 = .ok (.iconst 2, 1) := by decide +kernel
theorem d_law_151 : decode code 151 = .ok (.iadd, 1) := by decide +kernel
theorem d_law_152 : decode code 152 = .ok (.iaload, 1) := by decide +kernel
theorem d_law_153 : decode code 153 = .ok (.aload_n 0, 1) := by decide +kernel
theorem d_law_154 : decode code 154 = .ok (.iload 4, 2) := by decide +kernel
theorem d_law_156 : decode code 156 = .ok (.iconst 3, 1) := by decide +kernel
theorem d_law_157 : decode code 157 = .ok (.iadd, 1) := by decide +kernel
theorem d_law_158 : decode code 158 = .ok (.iaload, 1) := by decide +kernel
theorem d_law_159 : decode code 159 = .ok (.i2l, 1) := by decide +kernel
theorem d_law_160 : decode code 160 = .ok (.bipush 32, 2) := by decide +kernel
theorem d_law_162 : decode code 162 = .ok (.lshl, 1) := by decide +kernel
theorem d_law_163 : decode code 163 = .ok (.aload_n 0, 1) := by decide +kernel
theorem d_law_164 : decode code 164 = .ok (.iload 4, 2) := by decide +kernel
theorem d_law_166 : decode code 166 = .ok (.iconst 4, 1) := by decide +kernel
theorem d_law_167 : decode code 167 = .ok (.iadd, 1) := by decide +kernel
theorem d_law_168 : decode code 168 = .ok (.iaload, 1) := by decide +kernel
theorem d_law_169 : decode code 169 = .ok (.i2l, 1) := by decide +kernel
theorem d_law_170 : decode code 170 = .ok (.ldc2_w 62, 3) := by decide +kernel
theorem d_law_173 : decode code 173 = .ok (.land, 1) := by decide +kernel
theorem d_law_174 : decode code 174 = .ok (.lor, 1) := by decide +kernel
theorem d_law_175 : decode code 175 = .ok (.invokevirtual 69, 3) := by decide +kernel
theorem d_law_178 : decode code 178 = .ok (.aload_n 2, 1) := by decide +kernel
theorem d_law_179 : decode code 179 = .ok (.invokevirtual 70, 3) := by decide +kernel
theorem d_law_182 : decode code 182 = .ok (.iload 5, 2) := by decide +kernel
theorem d_law_184 : decode code 184 = .ok (.if_icmp .eq 5, 3) := by decide +kernel
theorem d_law_187 : decode code 187 = .ok (.iconst 0, 1) := by decide +kernel
theorem d_law_188 : decode code 188 = .ok (.ireturn, 1) := by decide +kernel
theorem d_law_189 : decode code 189 = .ok (.goto 752, 3) := by decide +kernel
theorem d_law_192 : decode code 192 = .ok (.aload_n 1, 1) := by decide +kernel
theorem d_law_193 : decode code 193 = .ok (.aload_n 0, 1) := by decide +kernel
theorem d_law_194 : decode code 194 = .ok (.iload 4, 2) := by decide +kernel
theorem d_law_196 : decode code 196 = .ok (.iconst 1, 1) := by decide +kernel
theorem d_law_197 : decode code 197 = .ok (.iadd, 1) := by decide +kernel
theorem d_law_198 : decode code 198 = .ok (.iaload, 1) := by decide +kernel
theorem d_law_199 : decode code 199 = .ok (.aload_n 3, 1) := by decide +kernel
theorem d_law_200 : decode code 200 = .ok (.invokestatic 74, 3) := by decide +kernel
theorem d_law_203 : decode code 203 = .ok (.istore 5, 2) := by decide +kernel
theorem d_law_205 : decode code 205 = .ok (.aload_n 2, 1) := by decide +kernel
theorem d_law_206 : decode code 206 = .ok (.aload_n 0, 1) := by decide +kernel
theorem d_law_207 : decode code 207 = .ok (.iload 4, 2) := by decide +kernel
theorem d_law_209 : decode code 209 = .ok (.iconst 1, 1) := by decide +kernel
theorem d_law_210 : decode code 210 = .ok (.iadd, 1) := by decide +kernel
theorem d_law_211 : decode code 211 = .ok (.iaload, 1) := by decide +kernel
theorem d_law_212 : decode code 212 = .ok (.invokevirtual 77, 3) := by decide +kernel
theorem d_law_215 : decode code 215 = .ok (.istore 6, 2) := by decide +kernel
theorem d_law_217 : decode code 217 = .ok (.aload_n 2, 1) := by decide +kernel
theorem d_law_218 : decode code 218 = .ok (.invokevirtual 70, 3) := by decide +kernel
theorem d_law_221 : decode code 221 = .ok (.iload 5, 2) := by decide +kernel
theorem d_law_223 : decode code 223 = .ok (.if_icmp .eq 5, 3) := by decide +kernel
theorem d_law_226 : decode code 226 = .ok (.iconst 0, 1) := by decide +kernel
theorem d_law_227 : decode code 227 = .ok (.ireturn, 1) := by decide +kernel
theorem d_law_228 : decode code 228 = .ok (.iload 5, 2) := by decide +kernel
theorem d_law_230 : decode code 230 = .ok (.ifCond .ne 15, 3) := by decide +kernel
theorem d_law_233 : decode code 233 = .ok (.aload_n 3, 1) := by decide +kernel
theorem d_law_234 : decode code 234 = .ok (.iconst 0, 1) := by decide +kernel
theorem d_law_235 : decode code 235 = .ok (.laload, 1) := by decide +kernel
theorem d_law_236 : decode code 236 = .ok (.iload 6, 2) := by decide +kernel
theorem d_law_238 : decode code 238 = .ok (.i2l, 1) := by decide +kernel
theorem d_law_239 : decode code 239 = .ok (.lcmp, 1) := by decide +kernel
theorem d_law_240 : decode code 240 = .ok (.ifCond .eq 5, 3) := by decide +kernel
theorem d_law_243 : decode code 243 = .ok (.iconst 0, 1) := by decide +kernel
theorem d_law_244 : decode code 244 = .ok (.ireturn, 1) := by decide +kernel
theorem d_law_245 : decode code 245 = .ok (.goto 696, 3) := by decide +kernel
theorem d_law_248 : decode code 248 = .ok (.aload_n 1, 1) := by decide +kernel
theorem d_law_249 : decode code 249 = .ok (.aload_n 0, 1) := by decide +kernel
theorem d_law_250 : decode code 250 = .ok (.iload 4, 2) := by decide +kernel
theorem d_law_252 : decode code 252 = .ok (.iconst 1, 1) := by decide +kernel
theorem d_law_253 : decode code 253 = .ok (.iadd, 1) := by decide +kernel
theorem d_law_254 : decode code 254 = .ok (.iaload, 1) := by decide +kernel
theorem d_law_255 : decode code 255 = .ok (.aload_n 0, 1) := by decide +kernel
theorem d_law_256 : decode code 256 = .ok (.iload 4, 2) := by decide +kernel
theorem d_law_258 : decode code 258 = .ok (.iconst 2, 1) := by decide +kernel
theorem d_law_259 : decode code 259 = .ok (.iadd, 1) := by decide +kernel
theorem d_law_260 : decode code 260 = .ok (.iaload, 1) := by decide +kernel
theorem d_law_261 : decode code 261 = .ok (.aload_n 3, 1) := by decide +kernel
theorem d_law_262 : decode code 262 = .ok (.invokestatic 78, 3) := by decide +kernel
theorem d_law_265 : decode code 265 = .ok (.istore 5, 2) := by decide +kernel
theorem d_law_267 : decode code 267 = .ok (.aload_n 2, 1) := by decide +kernel
theorem d_law_268 : decode code 268 = .ok (.aload_n 0, 1) := by decide +kernel
theorem d_law_269 : decode code 269 = .ok (.iload 4, 2) := by decide +kernel
theorem d_law_271 : decode code 271 = .ok (.iconst 1, 1) := by decide +kernel
theorem d_law_272 : decode code 272 = .ok (.iadd, 1) := by decide +kernel
theorem d_law_273 : decode code 273 = .ok (.iaload, 1) := by decide +kernel
theorem d_law_274 : decode code 274 = .ok (.aload_n 0, 1) := by decide +kernel
theorem d_law_275 : decode code 275 = .ok (.iload 4, 2) := by decide +kernel
theorem d_law_277 : decode code 277 = .ok (.iconst 2, 1) := by decide +kernel
theorem d_law_278 : decode code 278 = .ok (.iadd, 1) := by decide +kernel
theorem d_law_279 : decode code 279 = .ok (.iaload, 1) := by decide +kernel
theorem d_law_280 : decode code 280 = .ok (.invokevirtual 81, 3) := by decide +kernel
theorem d_law_283 : decode code 283 = .ok (.istore 6, 2) := by decide +kernel
theorem d_law_285 : decode code 285 = .ok (.aload_n 2, 1) := by decide +kernel
theorem d_law_286 : decode code 286 = .ok (.invokevirtual 70, 3) := by decide +kernel
theorem d_law_289 : decode code 289 = .ok (.iload 5, 2) := by decide +kernel
theorem d_law_291 : decode code 291 = .ok (.if_icmp .eq 5, 3) := by decide +kernel
theorem d_law_294 : decode code 294 = .ok (.iconst 0, 1) := by decide +kernel
theorem d_law_295 : decode code 295 = .ok (.ireturn, 1) := by decide +kernel
theorem d_law_296 : decode code 296 = .ok (.iload 5, 2) := by decide +kernel
theorem d_law_298 : decode code 298 = .ok (.ifCond .ne 15, 3) := by decide +kernel
theorem d_law_301 : decode code 301 = .ok (.aload_n 3, 1) := by decide +kernel
theorem d_law_302 : decode code 302 = .ok (.iconst 0, 1) := by decide +kernel
theorem d_law_303 : decode code 303 = .ok (.laload, 1) := by decide +kernel
theorem d_law_304 : decode code 304 = .ok (.iload 6, 2) := by decide +kernel
theorem d_law_306 : decode code 306 = .ok (.i2l, 1) := by decide +kernel
theorem d_law_307 : decode code 307 = .ok (.lcmp, 1) := by decide +kernel
theorem d_law_308 : decode code 308 = .ok (.ifCond .eq 5, 3) := by decide +kernel
theorem d_law_311 : decode code 311 = .ok (.iconst 0, 1) := by decide +kernel
theorem d_law_312 : decode code 312 = .ok (.ireturn, 1) := by decide +kernel
theorem d_law_313 : decode code 313 = .ok (.goto 628, 3) := by decide +kernel
theorem d_law_316 : decode code 316 = .ok (.aload_n 1, 1) := by decide +kernel
theorem d_law_317 : decode code 317 = .ok (.aload_n 0, 1) := by decide +kernel
theorem d_law_318 : decode code 318 = .ok (.iload 4, 2) := by decide +kernel
theorem d_law_320 : decode code 320 = .ok (.iconst 1, 1) := by decide +kernel
theorem d_law_321 : decode code 321 = .ok (.iadd, 1) := by decide +kernel
theorem d_law_322 : decode code 322 = .ok (.iaload, 1) := by decide +kernel
theorem d_law_323 : decode code 323 = .ok (.aload_n 3, 1) := by decide +kernel
theorem d_law_324 : decode code 324 = .ok (.invokestatic 82, 3) := by decide +kernel
theorem d_law_327 : decode code 327 = .ok (.istore 5, 2) := by decide +kernel
theorem d_law_329 : decode code 329 = .ok (.aload_n 2, 1) := by decide +kernel
theorem d_law_330 : decode code 330 = .ok (.aload_n 0, 1) := by decide +kernel
theorem d_law_331 : decode code 331 = .ok (.iload 4, 2) := by decide +kernel
theorem d_law_333 : decode code 333 = .ok (.iconst 1, 1) := by decide +kernel
theorem d_law_334 : decode code 334 = .ok (.iadd, 1) := by decide +kernel
theorem d_law_335 : decode code 335 = .ok (.iaload, 1) := by decide +kernel
theorem d_law_336 : decode code 336 = .ok (.invokevirtual 84, 3) := by decide +kernel
theorem d_law_339 : decode code 339 = .ok (.istore 6, 2) := by decide +kernel
theorem d_law_341 : decode code 341 = .ok (.aload_n 2, 1) := by decide +kernel
theorem d_law_342 : decode code 342 = .ok (.invokevirtual 70, 3) := by decide +kernel
theorem d_law_345 : decode code 345 = .ok (.iload 5, 2) := by decide +kernel
theorem d_law_347 : decode code 347 = .ok (.if_icmp .eq 5, 3) := by decide +kernel
theorem d_law_350 : decode code 350 = .ok (.iconst 0, 1) := by decide +kernel
theorem d_law_351 : decode code 351 = .ok (.ireturn, 1) := by decide +kernel
theorem d_law_352 : decode code 352 = .ok (.iload 5, 2) := by decide +kernel
theorem d_law_354 : decode code 354 = .ok (.ifCond .ne 15, 3) := by decide +kernel
theorem d_law_357 : decode code 357 = .ok (.aload_n 3, 1) := by decide +kernel
theorem d_law_358 : decode code 358 = .ok (.iconst 0, 1) := by decide +kernel
theorem d_law_359 : decode code 359 = .ok (.laload, 1) := by decide +kernel
theorem d_law_360 : decode code 360 = .ok (.iload 6, 2) := by decide +kernel
theorem d_law_362 : decode code 362 = .ok (.i2l, 1) := by decide +kernel
theorem d_law_363 : decode code 363 = .ok (.lcmp, 1) := by decide +kernel
theorem d_law_364 : decode code 364 = .ok (.ifCond .eq 5, 3) := by decide +kernel
theorem d_law_367 : decode code 367 = .ok (.iconst 0, 1) := by decide +kernel
theorem d_law_368 : decode code 368 = .ok (.ireturn, 1) := by decide +kernel
theorem d_law_369 : decode code 369 = .ok (.goto 572, 3) := by decide +kernel
theorem d_law_372 : decode code 372 = .ok (.aload_n 1, 1) := by decide +kernel
theorem d_law_373 : decode code 373 = .ok (.aload_n 0, 1) := by decide +kernel
theorem d_law_374 : decode code 374 = .ok (.iload 4, 2) := by decide +kernel
theorem d_law_376 : decode code 376 = .ok (.iconst 1, 1) := by decide +kernel
theorem d_law_377 : decode code 377 = .ok (.iadd, 1) := by decide +kernel
theorem d_law_378 : decode code 378 = .ok (.iaload, 1) := by decide +kernel
theorem d_law_379 : decode code 379 = .ok (.aload_n 0, 1) := by decide +kernel
theorem d_law_380 : decode code 380 = .ok (.iload 4, 2) := by decide +kernel
theorem d_law_382 : decode code 382 = .ok (.iconst 2, 1) := by decide +kernel
theorem d_law_383 : decode code 383 = .ok (.iadd, 1) := by decide +kernel
theorem d_law_384 : decode code 384 = .ok (.iaload, 1) := by decide +kernel
theorem d_law_385 : decode code 385 = .ok (.invokestatic 85, 3) := by decide +kernel
theorem d_law_388 : decode code 388 = .ok (.istore 5, 2) := by decide +kernel
theorem d_law_390 : decode code 390 = .ok (.aload_n 2, 1) := by decide +kernel
theorem d_law_391 : decode code 391 = .ok (.aload_n 0, 1) := by decide +kernel
theorem d_law_392 : decode code 392 = .ok (.iload 4, 2) := by decide +kernel
theorem d_law_394 : decode code 394 = .ok (.iconst 1, 1) := by decide +kernel
theorem d_law_395 : decode code 395 = .ok (.iadd, 1) := by decide +kernel
theorem d_law_396 : decode code 396 = .ok (.iaload, 1) := by decide +kernel
theorem d_law_397 : decode code 397 = .ok (.aload_n 0, 1) := by decide +kernel
theorem d_law_398 : decode code 398 = .ok (.iload 4, 2) := by decide +kernel
theorem d_law_400 : decode code 400 = .ok (.iconst 2, 1) := by decide +kernel
theorem d_law_401 : decode code 401 = .ok (.iadd, 1) := by decide +kernel
theorem d_law_402 : decode code 402 = .ok (.iaload, 1) := by decide +kernel
theorem d_law_403 : decode code 403 = .ok (.invokevirtual 88, 3) := by decide +kernel
theorem d_law_406 : decode code 406 = .ok (.aload_n 2, 1) := by decide +kernel
theorem d_law_407 : decode code 407 = .ok (.invokevirtual 70, 3) := by decide +kernel
theorem d_law_410 : decode code 410 = .ok (.iload 5, 2) := by decide +kernel
theorem d_law_412 : decode code 412 = .ok (.if_icmp .eq 5, 3) := by decide +kernel
theorem d_law_415 : decode code 415 = .ok (.iconst 0, 1) := by decide +kernel
theorem d_law_416 : decode code 416 = .ok (.ireturn, 1) := by decide +kernel
theorem d_law_417 : decode code 417 = .ok (.goto 524, 3) := by decide +kernel
theorem d_law_420 : decode code 420 = .ok (.aload_n 1, 1) := by decide +kernel
theorem d_law_421 : decode code 421 = .ok (.aload_n 0, 1) := by decide +kernel
theorem d_law_422 : decode code 422 = .ok (.iload 4, 2) := by decide +kernel
theorem d_law_424 : decode code 424 = .ok (.iconst 1, 1) := by decide +kernel
theorem d_law_425 : decode code 425 = .ok (.iadd, 1) := by decide +kernel
theorem d_law_426 : decode code 426 = .ok (.iaload, 1) := by decide +kernel
theorem d_law_427 : decode code 427 = .ok (.aload_n 0, 1) := by decide +kernel
theorem d_law_428 : decode code 428 = .ok (.iload 4, 2) := by decide +kernel
theorem d_law_430 : decode code 430 = .ok (.iconst 2, 1) := by decide +kernel
theorem d_law_431 : decode code 431 = .ok (.iadd, 1) := by decide +kernel
theorem d_law_432 : decode code 432 = .ok (.iaload, 1) := by decide +kernel
theorem d_law_433 : decode code 433 = .ok (.aload_n 0, 1) := by decide +kernel
theorem d_law_434 : decode code 434 = .ok (.iload 4, 2) := by decide +kernel
theorem d_law_436 : decode code 436 = .ok (.iconst 3, 1) := by decide +kernel
theorem d_law_437 : decode code 437 = .ok (.iadd, 1) := by decide +kernel
theorem d_law_438 : decode code 438 = .ok (.iaload, 1) := by decide +kernel
theorem d_law_439 : decode code 439 = .ok (.aload_n 0, 1) := by decide +kernel
theorem d_law_440 : decode code 440 = .ok (.iload 4, 2) := by decide +kernel
theorem d_law_442 : decode code 442 = .ok (.iconst 4, 1) := by decide +kernel
theorem d_law_443 : decode code 443 = .ok (.iadd, 1) := by decide +kernel
theorem d_law_444 : decode code 444 = .ok (.iaload, 1) := by decide +kernel
theorem d_law_445 : decode code 445 = .ok (.aload_n 3, 1) := by decide +kernel
theorem d_law_446 : decode code 446 = .ok (.invokestatic 89, 3) := by decide +kernel
theorem d_law_449 : decode code 449 = .ok (.istore 5, 2) := by decide +kernel
theorem d_law_451 : decode code 451 = .ok (.aload_n 2, 1) := by decide +kernel
theorem d_law_452 : decode code 452 = .ok (.aload_n 0, 1) := by decide +kernel
theorem d_law_453 : decode code 453 = .ok (.iload 4, 2) := by decide +kernel
theorem d_law_455 : decode code 455 = .ok (.iconst 1, 1) := by decide +kernel
theorem d_law_456 : decode code 456 = .ok (.iadd, 1) := by decide +kernel
theorem d_law_457 : decode code 457 = .ok (.iaload, 1) := by decide +kernel
theorem d_law_458 : decode code 458 = .ok (.aload_n 0, 1) := by decide +kernel
theorem d_law_459 : decode code 459 = .ok (.iload 4, 2) := by decide +kernel
theorem d_law_461 : decode code 461 = .ok (.iconst 2, 1) := by decide +kernel
theorem d_law_462 : decode code 462 = .ok (.iadd, 1) := by decide +kernel
theorem d_law_463 : decode code 463 = .ok (.iaload, 1) := by decide +kernel
theorem d_law_464 : decode code 464 = .ok (.aload_n 0, 1) := by decide +kernel
theorem d_law_465 : decode code 465 = .ok (.iload 4, 2) := by decide +kernel
theorem d_law_467 : decode code 467 = .ok (.iconst 3, 1) := by decide +kernel
theorem d_law_468 : decode code 468 = .ok (.iadd, 1) := by decide +kernel
theorem d_law_469 : decode code 469 = .ok (.iaload, 1) := by decide +kernel
theorem d_law_470 : decode code 470 = .ok (.aload_n 0, 1) := by decide +kernel
theorem d_law_471 : decode code 471 = .ok (.iload 4, 2) := by decide +kernel
theorem d_law_473 : decode code 473 = .ok (.iconst 4, 1) := by decide +kernel
theorem d_law_474 : decode code 474 = .ok (.iadd, 1) := by decide +kernel
theorem d_law_475 : decode code 475 = .ok (.iaload, 1) := by decide +kernel
theorem d_law_476 : decode code 476 = .ok (.invokevirtual 92, 3) := by decide +kernel
theorem d_law_479 : decode code 479 = .ok (.istore 6, 2) := by decide +kernel
theorem d_law_481 : decode code 481 = .ok (.aload_n 2, 1) := by decide +kernel
theorem d_law_482 : decode code 482 = .ok (.invokevirtual 70, 3) := by decide +kernel
theorem d_law_485 : decode code 485 = .ok (.iload 5, 2) := by decide +kernel
theorem d_law_487 : decode code 487 = .ok (.if_icmp .eq 5, 3) := by decide +kernel
theorem d_law_490 : decode code 490 = .ok (.iconst 0, 1) := by decide +kernel
theorem d_law_491 : decode code 491 = .ok (.ireturn, 1) := by decide +kernel
theorem d_law_492 : decode code 492 = .ok (.iload 5, 2) := by decide +kernel
theorem d_law_494 : decode code 494 = .ok (.ifCond .ne 15, 3) := by decide +kernel
theorem d_law_497 : decode code 497 = .ok (.aload_n 3, 1) := by decide +kernel
theorem d_law_498 : decode code 498 = .ok (.iconst 0, 1) := by decide +kernel
theorem d_law_499 : decode code 499 = .ok (.laload, 1) := by decide +kernel
theorem d_law_500 : decode code 500 = .ok (.iload 6, 2) := by decide +kernel
theorem d_law_502 : decode code 502 = .ok (.i2l, 1) := by decide +kernel
theorem d_law_503 : decode code 503 = .ok (.lcmp, 1) := by decide +kernel
theorem d_law_504 : decode code 504 = .ok (.ifCond .eq 5, 3) := by decide +kernel
theorem d_law_507 : decode code 507 = .ok (.iconst 0, 1) := by decide +kernel
theorem d_law_508 : decode code 508 = .ok (.ireturn, 1) := by decide +kernel
theorem d_law_509 : decode code 509 = .ok (.goto 432, 3) := by decide +kernel
theorem d_law_512 : decode code 512 = .ok (.aload_n 1, 1) := by decide +kernel
theorem d_law_513 : decode code 513 = .ok (.aload_n 0, 1) := by decide +kernel
theorem d_law_514 : decode code 514 = .ok (.iload 4, 2) := by decide +kernel
theorem d_law_516 : decode code 516 = .ok (.iconst 1, 1) := by decide +kernel
theorem d_law_517 : decode code 517 = .ok (.iadd, 1) := by decide +kernel
theorem d_law_518 : decode code 518 = .ok (.iaload, 1) := by decide +kernel
theorem d_law_519 : decode code 519 = .ok (.aload_n 0, 1) := by decide +kernel
theorem d_law_520 : decode code 520 = .ok (.iload 4, 2) := by decide +kernel
theorem d_law_522 : decode code 522 = .ok (.iconst 2, 1) := by decide +kernel
theorem d_law_523 : decode code 523 = .ok (.iadd, 1) := by decide +kernel
theorem d_law_524 : decode code 524 = .ok (.iaload, 1) := by decide +kernel
theorem d_law_525 : decode code 525 = .ok (.aload_n 0, 1) := by decide +kernel
theorem d_law_526 : decode code 526 = .ok (.iload 4, 2) := by decide +kernel
theorem d_law_528 : decode code 528 = .ok (.iconst 3, 1) := by decide +kernel
theorem d_law_529 : decode code 529 = .ok (.iadd, 1) := by decide +kernel
theorem d_law_530 : decode code 530 = .ok (.iaload, 1) := by decide +kernel
theorem d_law_531 : decode code 531 = .ok (.aload_n 0, 1) := by decide +kernel
theorem d_law_532 : decode code 532 = .ok (.iload 4, 2) := by decide +kernel
theorem d_law_534 : decode code 534 = .ok (.iconst 4, 1) := by decide +kernel
theorem d_law_535 : decode code 535 = .ok (.iadd, 1) := by decide +kernel
theorem d_law_536 : decode code 536 = .ok (.iaload, 1) := by decide +kernel
theorem d_law_537 : decode code 537 = .ok (.aload_n 0, 1) := by decide +kernel
theorem d_law_538 : decode code 538 = .ok (.iload 4, 2) := by decide +kernel
theorem d_law_540 : decode code 540 = .ok (.iconst 5, 1) := by decide +kernel
theorem d_law_541 : decode code 541 = .ok (.iadd, 1) := by decide +kernel
theorem d_law_542 : decode code 542 = .ok (.iaload, 1) := by decide +kernel
theorem d_law_543 : decode code 543 = .ok (.aload_n 0, 1) := by decide +kernel
theorem d_law_544 : decode code 544 = .ok (.iload 4, 2) := by decide +kernel
theorem d_law_546 : decode code 546 = .ok (.bipush 6, 2) := by decide +kernel
theorem d_law_548 : decode code 548 = .ok (.iadd, 1) := by decide +kernel
theorem d_law_549 : decode code 549 = .ok (.iaload, 1) := by decide +kernel
theorem d_law_550 : decode code 550 = .ok (.aload_n 3, 1) := by decide +kernel
theorem d_law_551 : decode code 551 = .ok (.invokestatic 93, 3) := by decide +kernel
theorem d_law_554 : decode code 554 = .ok (.istore 5, 2) := by decide +kernel
theorem d_law_556 : decode code 556 = .ok (.aload_n 2, 1) := by decide +kernel
theorem d_law_557 : decode code 557 = .ok (.aload_n 0, 1) := by decide +kernel
theorem d_law_558 : decode code 558 = .ok (.iload 4, 2) := by decide +kernel
theorem d_law_560 : decode code 560 = .ok (.iconst 1, 1) := by decide +kernel
theorem d_law_561 : decode code 561 = .ok (.iadd, 1) := by decide +kernel
theorem d_law_562 : decode code 562 = .ok (.iaload, 1) := by decide +kernel
theorem d_law_563 : decode code 563 = .ok (.aload_n 0, 1) := by decide +kernel
theorem d_law_564 : decode code 564 = .ok (.iload 4, 2) := by decide +kernel
theorem d_law_566 : decode code 566 = .ok (.iconst 2, 1) := by decide +kernel
theorem d_law_567 : decode code 567 = .ok (.iadd, 1) := by decide +kernel
theorem d_law_568 : decode code 568 = .ok (.iaload, 1) := by decide +kernel
theorem d_law_569 : decode code 569 = .ok (.aload_n 0, 1) := by decide +kernel
theorem d_law_570 : decode code 570 = .ok (.iload 4, 2) := by decide +kernel
theorem d_law_572 : decode code 572 = .ok (.iconst 3, 1) := by decide +kernel
theorem d_law_573 : decode code 573 = .ok (.iadd, 1) := by decide +kernel
theorem d_law_574 : decode code 574 = .ok (.iaload, 1) := by decide +kernel
theorem d_law_575 : decode code 575 = .ok (.aload_n 0, 1) := by decide +kernel
theorem d_law_576 : decode code 576 = .ok (.iload 4, 2) := by decide +kernel
theorem d_law_578 : decode code 578 = .ok (.iconst 4, 1) := by decide +kernel
theorem d_law_579 : decode code 579 = .ok (.iadd, 1) := by decide +kernel
theorem d_law_580 : decode code 580 = .ok (.iaload, 1) := by decide +kernel
theorem d_law_581 : decode code 581 = .ok (.aload_n 0, 1) := by decide +kernel
theorem d_law_582 : decode code 582 = .ok (.iload 4, 2) := by decide +kernel
theorem d_law_584 : decode code 584 = .ok (.iconst 5, 1) := by decide +kernel
theorem d_law_585 : decode code 585 = .ok (.iadd, 1) := by decide +kernel
theorem d_law_586 : decode code 586 = .ok (.iaload, 1) := by decide +kernel
theorem d_law_587 : decode code 587 = .ok (.aload_n 0, 1) := by decide +kernel
theorem d_law_588 : decode code 588 = .ok (.iload 4, 2) := by decide +kernel
theorem d_law_590 : decode code 590 = .ok (.bipush 6, 2) := by decide +kernel
theorem d_law_592 : decode code 592 = .ok (.iadd, 1) := by decide +kernel
theorem d_law_593 : decode code 593 = .ok (.iaload, 1) := by decide +kernel
theorem d_law_594 : decode code 594 = .ok (.invokevirtual 96, 3) := by decide +kernel
theorem d_law_597 : decode code 597 = .ok (.istore 6, 2) := by decide +kernel
theorem d_law_599 : decode code 599 = .ok (.aload_n 2, 1) := by decide +kernel
theorem d_law_600 : decode code 600 = .ok (.invokevirtual 70, 3) := by decide +kernel
theorem d_law_603 : decode code 603 = .ok (.iload 5, 2) := by decide +kernel
theorem d_law_605 : decode code 605 = .ok (.if_icmp .eq 5, 3) := by decide +kernel
theorem d_law_608 : decode code 608 = .ok (.iconst 0, 1) := by decide +kernel
theorem d_law_609 : decode code 609 = .ok (.ireturn, 1) := by decide +kernel
theorem d_law_610 : decode code 610 = .ok (.iload 5, 2) := by decide +kernel
theorem d_law_612 : decode code 612 = .ok (.ifCond .ne 15, 3) := by decide +kernel
theorem d_law_615 : decode code 615 = .ok (.aload_n 3, 1) := by decide +kernel
theorem d_law_616 : decode code 616 = .ok (.iconst 0, 1) := by decide +kernel
theorem d_law_617 : decode code 617 = .ok (.laload, 1) := by decide +kernel
theorem d_law_618 : decode code 618 = .ok (.iload 6, 2) := by decide +kernel
theorem d_law_620 : decode code 620 = .ok (.i2l, 1) := by decide +kernel
theorem d_law_621 : decode code 621 = .ok (.lcmp, 1) := by decide +kernel
theorem d_law_622 : decode code 622 = .ok (.ifCond .eq 5, 3) := by decide +kernel
theorem d_law_625 : decode code 625 = .ok (.iconst 0, 1) := by decide +kernel
theorem d_law_626 : decode code 626 = .ok (.ireturn, 1) := by decide +kernel
theorem d_law_627 : decode code 627 = .ok (.goto 314, 3) := by decide +kernel
theorem d_law_630 : decode code 630 = .ok (.aload_n 1, 1) := by decide +kernel
theorem d_law_631 : decode code 631 = .ok (.aload_n 0, 1) := by decide +kernel
theorem d_law_632 : decode code 632 = .ok (.iload 4, 2) := by decide +kernel
theorem d_law_634 : decode code 634 = .ok (.iconst 1, 1) := by decide +kernel
theorem d_law_635 : decode code 635 = .ok (.iadd, 1) := by decide +kernel
theorem d_law_636 : decode code 636 = .ok (.iaload, 1) := by decide +kernel
theorem d_law_637 : decode code 637 = .ok (.aload_n 0, 1) := by decide +kernel
theorem d_law_638 : decode code 638 = .ok (.iload 4, 2) := by decide +kernel
theorem d_law_640 : decode code 640 = .ok (.iconst 2, 1) := by decide +kernel
theorem d_law_641 : decode code 641 = .ok (.iadd, 1) := by decide +kernel
theorem d_law_642 : decode code 642 = .ok (.iaload, 1) := by decide +kernel
theorem d_law_643 : decode code 643 = .ok (.aload_n 0, 1) := by decide +kernel
theorem d_law_644 : decode code 644 = .ok (.iload 4, 2) := by decide +kernel
theorem d_law_646 : decode code 646 = .ok (.iconst 3, 1) := by decide +kernel
theorem d_law_647 : decode code 647 = .ok (.iadd, 1) := by decide +kernel
theorem d_law_648 : decode code 648 = .ok (.iaload, 1) := by decide +kernel
theorem d_law_649 : decode code 649 = .ok (.aload_n 0, 1) := by decide +kernel
theorem d_law_650 : decode code 650 = .ok (.iload 4, 2) := by decide +kernel
theorem d_law_652 : decode code 652 = .ok (.iconst 4, 1) := by decide +kernel
theorem d_law_653 : decode code 653 = .ok (.iadd, 1) := by decide +kernel
theorem d_law_654 : decode code 654 = .ok (.iaload, 1) := by decide +kernel
theorem d_law_655 : decode code 655 = .ok (.aload_n 0, 1) := by decide +kernel
theorem d_law_656 : decode code 656 = .ok (.iload 4, 2) := by decide +kernel
theorem d_law_658 : decode code 658 = .ok (.iconst 5, 1) := by decide +kernel
theorem d_law_659 : decode code 659 = .ok (.iadd, 1) := by decide +kernel
theorem d_law_660 : decode code 660 = .ok (.iaload, 1) := by decide +kernel
theorem d_law_661 : decode code 661 = .ok (.aload_n 0, 1) := by decide +kernel
theorem d_law_662 : decode code 662 = .ok (.iload 4, 2) := by decide +kernel
theorem d_law_664 : decode code 664 = .ok (.bipush 6, 2) := by decide +kernel
theorem d_law_666 : decode code 666 = .ok (.iadd, 1) := by decide +kernel
theorem d_law_667 : decode code 667 = .ok (.iaload, 1) := by decide +kernel
theorem d_law_668 : decode code 668 = .ok (.aload_n 0, 1) := by decide +kernel
theorem d_law_669 : decode code 669 = .ok (.iload 4, 2) := by decide +kernel
theorem d_law_671 : decode code 671 = .ok (.bipush 7, 2) := by decide +kernel
theorem d_law_673 : decode code 673 = .ok (.iadd, 1) := by decide +kernel
theorem d_law_674 : decode code 674 = .ok (.iaload, 1) := by decide +kernel
theorem d_law_675 : decode code 675 = .ok (.aload_n 3, 1) := by decide +kernel
theorem d_law_676 : decode code 676 = .ok (.invokestatic 97, 3) := by decide +kernel
theorem d_law_679 : decode code 679 = .ok (.istore 5, 2) := by decide +kernel
theorem d_law_681 : decode code 681 = .ok (.aload_n 2, 1) := by decide +kernel
theorem d_law_682 : decode code 682 = .ok (.aload_n 0, 1) := by decide +kernel
theorem d_law_683 : decode code 683 = .ok (.iload 4, 2) := by decide +kernel
theorem d_law_685 : decode code 685 = .ok (.iconst 1, 1) := by decide +kernel
theorem d_law_686 : decode code 686 = .ok (.iadd, 1) := by decide +kernel
theorem d_law_687 : decode code 687 = .ok (.iaload, 1) := by decide +kernel
theorem d_law_688 : decode code 688 = .ok (.aload_n 0, 1) := by decide +kernel
theorem d_law_689 : decode code 689 = .ok (.iload 4, 2) := by decide +kernel
theorem d_law_691 : decode code 691 = .ok (.iconst 2, 1) := by decide +kernel
theorem d_law_692 : decode code 692 = .ok (.iadd, 1) := by decide +kernel
theorem d_law_693 : decode code 693 = .ok (.iaload, 1) := by decide +kernel
theorem d_law_694 : decode code 694 = .ok (.aload_n 0, 1) := by decide +kernel
theorem d_law_695 : decode code 695 = .ok (.iload 4, 2) := by decide +kernel
theorem d_law_697 : decode code 697 = .ok (.iconst 3, 1) := by decide +kernel
theorem d_law_698 : decode code 698 = .ok (.iadd, 1) := by decide +kernel
theorem d_law_699 : decode code 699 = .ok (.iaload, 1) := by decide +kernel
theorem d_law_700 : decode code 700 = .ok (.aload_n 0, 1) := by decide +kernel
theorem d_law_701 : decode code 701 = .ok (.iload 4, 2) := by decide +kernel
theorem d_law_703 : decode code 703 = .ok (.iconst 4, 1) := by decide +kernel
theorem d_law_704 : decode code 704 = .ok (.iadd, 1) := by decide +kernel
theorem d_law_705 : decode code 705 = .ok (.iaload, 1) := by decide +kernel
theorem d_law_706 : decode code 706 = .ok (.aload_n 0, 1) := by decide +kernel
theorem d_law_707 : decode code 707 = .ok (.iload 4, 2) := by decide +kernel
theorem d_law_709 : decode code 709 = .ok (.iconst 5, 1) := by decide +kernel
theorem d_law_710 : decode code 710 = .ok (.iadd, 1) := by decide +kernel
theorem d_law_711 : decode code 711 = .ok (.iaload, 1) := by decide +kernel
theorem d_law_712 : decode code 712 = .ok (.aload_n 0, 1) := by decide +kernel
theorem d_law_713 : decode code 713 = .ok (.iload 4, 2) := by decide +kernel
theorem d_law_715 : decode code 715 = .ok (.bipush 6, 2) := by decide +kernel
theorem d_law_717 : decode code 717 = .ok (.iadd, 1) := by decide +kernel
theorem d_law_718 : decode code 718 = .ok (.iaload, 1) := by decide +kernel
theorem d_law_719 : decode code 719 = .ok (.aload_n 0, 1) := by decide +kernel
theorem d_law_720 : decode code 720 = .ok (.iload 4, 2) := by decide +kernel
theorem d_law_722 : decode code 722 = .ok (.bipush 7, 2) := by decide +kernel
theorem d_law_724 : decode code 724 = .ok (.iadd, 1) := by decide +kernel
theorem d_law_725 : decode code 725 = .ok (.iaload, 1) := by decide +kernel
theorem d_law_726 : decode code 726 = .ok (.invokevirtual 100, 3) := by decide +kernel
theorem d_law_729 : decode code 729 = .ok (.istore 6, 2) := by decide +kernel
theorem d_law_731 : decode code 731 = .ok (.aload_n 2, 1) := by decide +kernel
theorem d_law_732 : decode code 732 = .ok (.invokevirtual 70, 3) := by decide +kernel
theorem d_law_735 : decode code 735 = .ok (.iload 5, 2) := by decide +kernel
theorem d_law_737 : decode code 737 = .ok (.if_icmp .eq 5, 3) := by decide +kernel
theorem d_law_740 : decode code 740 = .ok (.iconst 0, 1) := by decide +kernel
theorem d_law_741 : decode code 741 = .ok (.ireturn, 1) := by decide +kernel
theorem d_law_742 : decode code 742 = .ok (.iload 5, 2) := by decide +kernel
theorem d_law_744 : decode code 744 = .ok (.ifCond .ne 15, 3) := by decide +kernel
theorem d_law_747 : decode code 747 = .ok (.aload_n 3, 1) := by decide +kernel
theorem d_law_748 : decode code 748 = .ok (.iconst 0, 1) := by decide +kernel
theorem d_law_749 : decode code 749 = .ok (.laload, 1) := by decide +kernel
theorem d_law_750 : decode code 750 = .ok (.iload 6, 2) := by decide +kernel
theorem d_law_752 : decode code 752 = .ok (.i2l, 1) := by decide +kernel
theorem d_law_753 : decode code 753 = .ok (.lcmp, 1) := by decide +kernel
theorem d_law_754 : decode code 754 = .ok (.ifCond .eq 5, 3) := by decide +kernel
theorem d_law_757 : decode code 757 = .ok (.iconst 0, 1) := by decide +kernel
theorem d_law_758 : decode code 758 = .ok (.ireturn, 1) := by decide +kernel
theorem d_law_759 : decode code 759 = .ok (.goto 182, 3) := by decide +kernel
theorem d_law_762 : decode code 762 = .ok (.aload_n 1, 1) := by decide +kernel
theorem d_law_763 : decode code 763 = .ok (.aload_n 0, 1) := by decide +kernel
theorem d_law_764 : decode code 764 = .ok (.iload 4, 2) := by decide +kernel
theorem d_law_766 : decode code 766 = .ok (.iconst 1, 1) := by decide +kernel
theorem d_law_767 : decode code 767 = .ok (.iadd, 1) := by decide +kernel
theorem d_law_768 : decode code 768 = .ok (.iaload, 1) := by decide +kernel
theorem d_law_769 : decode code 769 = .ok (.aload_n 3, 1) := by decide +kernel
theorem d_law_770 : decode code 770 = .ok (.invokestatic 101, 3) := by decide +kernel
theorem d_law_773 : decode code 773 = .ok (.istore 5, 2) := by decide +kernel
theorem d_law_775 : decode code 775 = .ok (.aload_n 2, 1) := by decide +kernel
theorem d_law_776 : decode code 776 = .ok (.aload_n 0, 1) := by decide +kernel
theorem d_law_777 : decode code 777 = .ok (.iload 4, 2) := by decide +kernel
theorem d_law_779 : decode code 779 = .ok (.iconst 1, 1) := by decide +kernel
theorem d_law_780 : decode code 780 = .ok (.iadd, 1) := by decide +kernel
theorem d_law_781 : decode code 781 = .ok (.iaload, 1) := by decide +kernel
theorem d_law_782 : decode code 782 = .ok (.invokevirtual 103, 3) := by decide +kernel
theorem d_law_785 : decode code 785 = .ok (.istore 6, 2) := by decide +kernel
theorem d_law_787 : decode code 787 = .ok (.aload_n 2, 1) := by decide +kernel
theorem d_law_788 : decode code 788 = .ok (.invokevirtual 70, 3) := by decide +kernel
theorem d_law_791 : decode code 791 = .ok (.iload 5, 2) := by decide +kernel
theorem d_law_793 : decode code 793 = .ok (.if_icmp .eq 5, 3) := by decide +kernel
theorem d_law_796 : decode code 796 = .ok (.iconst 0, 1) := by decide +kernel
theorem d_law_797 : decode code 797 = .ok (.ireturn, 1) := by decide +kernel
theorem d_law_798 : decode code 798 = .ok (.iload 5, 2) := by decide +kernel
theorem d_law_800 : decode code 800 = .ok (.ifCond .ne 15, 3) := by decide +kernel
theorem d_law_803 : decode code 803 = .ok (.aload_n 3, 1) := by decide +kernel
theorem d_law_804 : decode code 804 = .ok (.iconst 0, 1) := by decide +kernel
theorem d_law_805 : decode code 805 = .ok (.laload, 1) := by decide +kernel
theorem d_law_806 : decode code 806 = .ok (.iload 6, 2) := by decide +kernel
theorem d_law_808 : decode code 808 = .ok (.i2l, 1) := by decide +kernel
theorem d_law_809 : decode code 809 = .ok (.lcmp, 1) := by decide +kernel
theorem d_law_810 : decode code 810 = .ok (.ifCond .eq 5, 3) := by decide +kernel
theorem d_law_813 : decode code 813 = .ok (.iconst 0, 1) := by decide +kernel
theorem d_law_814 : decode code 814 = .ok (.ireturn, 1) := by decide +kernel
theorem d_law_815 : decode code 815 = .ok (.goto 126, 3) := by decide +kernel
theorem d_law_818 : decode code 818 = .ok (.aload_n 1, 1) := by decide +kernel
theorem d_law_819 : decode code 819 = .ok (.aload_n 0, 1) := by decide +kernel
theorem d_law_820 : decode code 820 = .ok (.iload 4, 2) := by decide +kernel
theorem d_law_822 : decode code 822 = .ok (.iconst 1, 1) := by decide +kernel
theorem d_law_823 : decode code 823 = .ok (.iadd, 1) := by decide +kernel
theorem d_law_824 : decode code 824 = .ok (.iaload, 1) := by decide +kernel
theorem d_law_825 : decode code 825 = .ok (.aload_n 0, 1) := by decide +kernel
theorem d_law_826 : decode code 826 = .ok (.iload 4, 2) := by decide +kernel
theorem d_law_828 : decode code 828 = .ok (.iconst 2, 1) := by decide +kernel
theorem d_law_829 : decode code 829 = .ok (.iadd, 1) := by decide +kernel
theorem d_law_830 : decode code 830 = .ok (.iaload, 1) := by decide +kernel
theorem d_law_831 : decode code 831 = .ok (.aload_n 3, 1) := by decide +kernel
theorem d_law_832 : decode code 832 = .ok (.invokestatic 104, 3) := by decide +kernel
theorem d_law_835 : decode code 835 = .ok (.istore 5, 2) := by decide +kernel
theorem d_law_837 : decode code 837 = .ok (.aload_n 2, 1) := by decide +kernel
theorem d_law_838 : decode code 838 = .ok (.aload_n 0, 1) := by decide +kernel
theorem d_law_839 : decode code 839 = .ok (.iload 4, 2) := by decide +kernel
theorem d_law_841 : decode code 841 = .ok (.iconst 1, 1) := by decide +kernel
theorem d_law_842 : decode code 842 = .ok (.iadd, 1) := by decide +kernel
theorem d_law_843 : decode code 843 = .ok (.iaload, 1) := by decide +kernel
theorem d_law_844 : decode code 844 = .ok (.aload_n 0, 1) := by decide +kernel
theorem d_law_845 : decode code 845 = .ok (.iload 4, 2) := by decide +kernel
theorem d_law_847 : decode code 847 = .ok (.iconst 2, 1) := by decide +kernel
theorem d_law_848 : decode code 848 = .ok (.iadd, 1) := by decide +kernel
theorem d_law_849 : decode code 849 = .ok (.iaload, 1) := by decide +kernel
theorem d_law_850 : decode code 850 = .ok (.invokevirtual 106, 3) := by decide +kernel
theorem d_law_853 : decode code 853 = .ok (.lstore 6, 2) := by decide +kernel
theorem d_law_855 : decode code 855 = .ok (.aload_n 2, 1) := by decide +kernel
theorem d_law_856 : decode code 856 = .ok (.invokevirtual 70, 3) := by decide +kernel
theorem d_law_859 : decode code 859 = .ok (.iload 5, 2) := by decide +kernel
theorem d_law_861 : decode code 861 = .ok (.if_icmp .eq 5, 3) := by decide +kernel
theorem d_law_864 : decode code 864 = .ok (.iconst 0, 1) := by decide +kernel
theorem d_law_865 : decode code 865 = .ok (.ireturn, 1) := by decide +kernel
theorem d_law_866 : decode code 866 = .ok (.iload 5, 2) := by decide +kernel
theorem d_law_868 : decode code 868 = .ok (.ifCond .ne 14, 3) := by decide +kernel
theorem d_law_871 : decode code 871 = .ok (.aload_n 3, 1) := by decide +kernel
theorem d_law_872 : decode code 872 = .ok (.iconst 0, 1) := by decide +kernel
theorem d_law_873 : decode code 873 = .ok (.laload, 1) := by decide +kernel
theorem d_law_874 : decode code 874 = .ok (.lload 6, 2) := by decide +kernel
theorem d_law_876 : decode code 876 = .ok (.lcmp, 1) := by decide +kernel
theorem d_law_877 : decode code 877 = .ok (.ifCond .eq 5, 3) := by decide +kernel
theorem d_law_880 : decode code 880 = .ok (.iconst 0, 1) := by decide +kernel
theorem d_law_881 : decode code 881 = .ok (.ireturn, 1) := by decide +kernel
theorem d_law_882 : decode code 882 = .ok (.goto 59, 3) := by decide +kernel
theorem d_law_885 : decode code 885 = .ok (.aload_n 1, 1) := by decide +kernel
theorem d_law_886 : decode code 886 = .ok (.aload_n 0, 1) := by decide +kernel
theorem d_law_887 : decode code 887 = .ok (.iload 4, 2) := by decide +kernel
theorem d_law_889 : decode code 889 = .ok (.iconst 1, 1) := by decide +kernel
theorem d_law_890 : decode code 890 = .ok (.iadd, 1) := by decide +kernel
theorem d_law_891 : decode code 891 = .ok (.iaload, 1) := by decide +kernel
theorem d_law_892 : decode code 892 = .ok (.aload_n 3, 1) := by decide +kernel
theorem d_law_893 : decode code 893 = .ok (.invokestatic 107, 3) := by decide +kernel
theorem d_law_896 : decode code 896 = .ok (.istore 5, 2) := by decide +kernel
theorem d_law_898 : decode code 898 = .ok (.aload_n 2, 1) := by decide +kernel
theorem d_law_899 : decode code 899 = .ok (.aload_n 0, 1) := by decide +kernel
theorem d_law_900 : decode code 900 = .ok (.iload 4, 2) := by decide +kernel
theorem d_law_902 : decode code 902 = .ok (.iconst 1, 1) := by decide +kernel
theorem d_law_903 : decode code 903 = .ok (.iadd, 1) := by decide +kernel
theorem d_law_904 : decode code 904 = .ok (.iaload, 1) := by decide +kernel
theorem d_law_905 : decode code 905 = .ok (.invokevirtual 109, 3) := by decide +kernel
theorem d_law_908 : decode code 908 = .ok (.istore 6, 2) := by decide +kernel
theorem d_law_910 : decode code 910 = .ok (.aload_n 2, 1) := by decide +kernel
theorem d_law_911 : decode code 911 = .ok (.invokevirtual 70, 3) := by decide +kernel
theorem d_law_914 : decode code 914 = .ok (.iload 5, 2) := by decide +kernel
theorem d_law_916 : decode code 916 = .ok (.if_icmp .eq 5, 3) := by decide +kernel
theorem d_law_919 : decode code 919 = .ok (.iconst 0, 1) := by decide +kernel
theorem d_law_920 : decode code 920 = .ok (.ireturn, 1) := by decide +kernel
theorem d_law_921 : decode code 921 = .ok (.iload 5, 2) := by decide +kernel
theorem d_law_923 : decode code 923 = .ok (.ifCond .ne 15, 3) := by decide +kernel
theorem d_law_926 : decode code 926 = .ok (.aload_n 3, 1) := by decide +kernel
theorem d_law_927 : decode code 927 = .ok (.iconst 0, 1) := by decide +kernel
theorem d_law_928 : decode code 928 = .ok (.laload, 1) := by decide +kernel
theorem d_law_929 : decode code 929 = .ok (.iload 6, 2) := by decide +kernel
theorem d_law_931 : decode code 931 = .ok (.i2l, 1) := by decide +kernel
theorem d_law_932 : decode code 932 = .ok (.lcmp, 1) := by decide +kernel
theorem d_law_933 : decode code 933 = .ok (.ifCond .eq 5, 3) := by decide +kernel
theorem d_law_936 : decode code 936 = .ok (.iconst 0, 1) := by decide +kernel
theorem d_law_937 : decode code 937 = .ok (.ireturn, 1) := by decide +kernel
theorem d_law_938 : decode code 938 = .ok (.goto 3, 3) := by decide +kernel
theorem d_law_941 : decode code 941 = .ok (.iinc 4 8, 3) := by decide +kernel
theorem d_law_944 : decode code 944 = .ok (.goto (-921), 3) := by decide +kernel
theorem d_law_947 : decode code 947 = .ok (.iconst 1, 1) := by decide +kernel
theorem d_law_948 : decode code 948 = .ok (.ireturn, 1) := by decide +kernel
