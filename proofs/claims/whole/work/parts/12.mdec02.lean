theorem d_MMo_based_35 : decode b_MMo_based 35 = .ok (.iand, 1) := by decide +kernel
theorem d_MMo_based_36 : decode b_MMo_based 36 = .ok (.ireturn, 1) := by decide +kernel
theorem d_MMo_isKnown_0 : decode b_MMo_isKnown 0 = .ok (.iload_n 0, 1) := by decide +kernel
theorem d_MMo_isKnown_1 : decode b_MMo_isKnown 1 = .ok (.bipush 64, 2) := by decide +kernel
theorem d_MMo_isKnown_3 : decode b_MMo_isKnown 3 = .ok (.if_icmp .ge 43, 3) := by decide +kernel
theorem d_MMo_isKnown_6 : decode b_MMo_isKnown 6 = .ok (.iload_n 0, 1) := by decide +kernel
theorem d_MMo_isKnown_7 : decode b_MMo_isKnown 7 = .ok (.i2l, 1) := by decide +kernel
theorem d_MMo_isKnown_8 : decode b_MMo_isKnown 8 = .ok (.ldc2_w 94, 3) := by decide +kernel
theorem d_MMo_isKnown_11 : decode b_MMo_isKnown 11 = .ok (.ldc2_w 96, 3) := by decide +kernel
theorem d_MMo_isKnown_14 : decode b_MMo_isKnown 14 = .ok (.invokestatic 41, 3) := by decide +kernel
theorem d_MMo_isKnown_17 : decode b_MMo_isKnown 17 = .ok (.ifCond .ne 23, 3) := by decide +kernel
theorem d_MMo_isKnown_20 : decode b_MMo_isKnown 20 = .ok (.iload_n 0, 1) := by decide +kernel
theorem d_MMo_isKnown_21 : decode b_MMo_isKnown 21 = .ok (.bipush 10, 2) := by decide +kernel
theorem d_MMo_isKnown_23 : decode b_MMo_isKnown 23 = .ok (.if_icmp .eq 17, 3) := by decide +kernel
theorem d_MMo_isKnown_26 : decode b_MMo_isKnown 26 = .ok (.iload_n 0, 1) := by decide +kernel
theorem d_MMo_isKnown_27 : decode b_MMo_isKnown 27 = .ok (.i2l, 1) := by decide +kernel
theorem d_MMo_isKnown_28 : decode b_MMo_isKnown 28 = .ok (.ldc2_w 98, 3) := by decide +kernel
theorem d_MMo_isKnown_31 : decode b_MMo_isKnown 31 = .ok (.ldc2_w 100, 3) := by decide +kernel
theorem d_MMo_isKnown_34 : decode b_MMo_isKnown 34 = .ok (.invokestatic 41, 3) := by decide +kernel
theorem d_MMo_isKnown_37 : decode b_MMo_isKnown 37 = .ok (.ifCond .eq 7, 3) := by decide +kernel
theorem d_MMo_isKnown_40 : decode b_MMo_isKnown 40 = .ok (.iconst 1, 1) := by decide +kernel
theorem d_MMo_isKnown_41 : decode b_MMo_isKnown 41 = .ok (.goto 4, 3) := by decide +kernel
theorem d_MMo_isKnown_44 : decode b_MMo_isKnown 44 = .ok (.iconst 0, 1) := by decide +kernel
theorem d_MMo_isKnown_45 : decode b_MMo_isKnown 45 = .ok (.ireturn, 1) := by decide +kernel
theorem d_MMo_isKnown_46 : decode b_MMo_isKnown 46 = .ok (.iload_n 0, 1) := by decide +kernel
theorem d_MMo_isKnown_47 : decode b_MMo_isKnown 47 = .ok (.sipush 128, 3) := by decide +kernel
theorem d_MMo_isKnown_50 : decode b_MMo_isKnown 50 = .ok (.if_icmp .ge 69, 3) := by decide +kernel
theorem d_MMo_isKnown_53 : decode b_MMo_isKnown 53 = .ok (.iload_n 0, 1) := by decide +kernel
theorem d_MMo_isKnown_54 : decode b_MMo_isKnown 54 = .ok (.i2l, 1) := by decide +kernel
theorem d_MMo_isKnown_55 : decode b_MMo_isKnown 55 = .ok (.ldc2_w 78, 3) := by decide +kernel
theorem d_MMo_isKnown_58 : decode b_MMo_isKnown 58 = .ok (.ldc2_w 102, 3) := by decide +kernel
theorem d_MMo_isKnown_61 : decode b_MMo_isKnown 61 = .ok (.invokestatic 41, 3) := by decide +kernel
theorem d_MMo_isKnown_64 : decode b_MMo_isKnown 64 = .ok (.ifCond .ne 49, 3) := by decide +kernel
theorem d_MMo_isKnown_67 : decode b_MMo_isKnown 67 = .ok (.iload_n 0, 1) := by decide +kernel
theorem d_MMo_isKnown_68 : decode b_MMo_isKnown 68 = .ok (.i2l, 1) := by decide +kernel
theorem d_MMo_isKnown_69 : decode b_MMo_isKnown 69 = .ok (.ldc2_w 104, 3) := by decide +kernel
theorem d_MMo_isKnown_72 : decode b_MMo_isKnown 72 = .ok (.ldc2_w 106, 3) := by decide +kernel
theorem d_MMo_isKnown_75 : decode b_MMo_isKnown 75 = .ok (.invokestatic 41, 3) := by decide +kernel
theorem d_MMo_isKnown_78 : decode b_MMo_isKnown 78 = .ok (.ifCond .ne 35, 3) := by decide +kernel
theorem d_MMo_isKnown_81 : decode b_MMo_isKnown 81 = .ok (.iload_n 0, 1) := by decide +kernel
theorem d_MMo_isKnown_82 : decode b_MMo_isKnown 82 = .ok (.bipush 78, 2) := by decide +kernel
theorem d_MMo_isKnown_84 : decode b_MMo_isKnown 84 = .ok (.if_icmp .eq 29, 3) := by decide +kernel
theorem d_MMo_isKnown_87 : decode b_MMo_isKnown 87 = .ok (.iload_n 0, 1) := by decide +kernel
theorem d_MMo_isKnown_88 : decode b_MMo_isKnown 88 = .ok (.bipush 79, 2) := by decide +kernel
theorem d_MMo_isKnown_90 : decode b_MMo_isKnown 90 = .ok (.if_icmp .eq 23, 3) := by decide +kernel
theorem d_MMo_isKnown_93 : decode b_MMo_isKnown 93 = .ok (.iload_n 0, 1) := by decide +kernel
theorem d_MMo_isKnown_94 : decode b_MMo_isKnown 94 = .ok (.bipush 80, 2) := by decide +kernel
theorem d_MMo_isKnown_96 : decode b_MMo_isKnown 96 = .ok (.if_icmp .eq 17, 3) := by decide +kernel
theorem d_MMo_isKnown_99 : decode b_MMo_isKnown 99 = .ok (.iload_n 0, 1) := by decide +kernel
theorem d_MMo_isKnown_100 : decode b_MMo_isKnown 100 = .ok (.i2l, 1) := by decide +kernel
theorem d_MMo_isKnown_101 : decode b_MMo_isKnown 101 = .ok (.ldc2_w 108, 3) := by decide +kernel
theorem d_MMo_isKnown_104 : decode b_MMo_isKnown 104 = .ok (.ldc2_w 110, 3) := by decide +kernel
theorem d_MMo_isKnown_107 : decode b_MMo_isKnown 107 = .ok (.invokestatic 41, 3) := by decide +kernel
theorem d_MMo_isKnown_110 : decode b_MMo_isKnown 110 = .ok (.ifCond .eq 7, 3) := by decide +kernel
theorem d_MMo_isKnown_113 : decode b_MMo_isKnown 113 = .ok (.iconst 1, 1) := by decide +kernel
theorem d_MMo_isKnown_114 : decode b_MMo_isKnown 114 = .ok (.goto 4, 3) := by decide +kernel
theorem d_MMo_isKnown_117 : decode b_MMo_isKnown 117 = .ok (.iconst 0, 1) := by decide +kernel
theorem d_MMo_isKnown_118 : decode b_MMo_isKnown 118 = .ok (.ireturn, 1) := by decide +kernel
theorem d_MMo_isKnown_119 : decode b_MMo_isKnown 119 = .ok (.iload_n 0, 1) := by decide +kernel
theorem d_MMo_isKnown_120 : decode b_MMo_isKnown 120 = .ok (.sipush 192, 3) := by decide +kernel
theorem d_MMo_isKnown_123 : decode b_MMo_isKnown 123 = .ok (.if_icmp .ge 58, 3) := by decide +kernel
theorem d_MMo_isKnown_126 : decode b_MMo_isKnown 126 = .ok (.iload_n 0, 1) := by decide +kernel
theorem d_MMo_isKnown_127 : decode b_MMo_isKnown 127 = .ok (.i2l, 1) := by decide +kernel
theorem d_MMo_isKnown_128 : decode b_MMo_isKnown 128 = .ok (.ldc2_w 112, 3) := by decide +kernel
theorem d_MMo_isKnown_131 : decode b_MMo_isKnown 131 = .ok (.ldc2_w 114, 3) := by decide +kernel
theorem d_MMo_isKnown_134 : decode b_MMo_isKnown 134 = .ok (.invokestatic 41, 3) := by decide +kernel
theorem d_MMo_isKnown_137 : decode b_MMo_isKnown 137 = .ok (.ifCond .ne 38, 3) := by decide +kernel
theorem d_MMo_isKnown_140 : decode b_MMo_isKnown 140 = .ok (.iload_n 0, 1) := by decide +kernel
theorem d_MMo_isKnown_141 : decode b_MMo_isKnown 141 = .ok (.sipush 144, 3) := by decide +kernel
theorem d_MMo_isKnown_144 : decode b_MMo_isKnown 144 = .ok (.if_icmp .eq 31, 3) := by decide +kernel
theorem d_MMo_isKnown_147 : decode b_MMo_isKnown 147 = .ok (.iload_n 0, 1) := by decide +kernel
theorem d_MMo_isKnown_148 : decode b_MMo_isKnown 148 = .ok (.sipush 145, 3) := by decide +kernel
theorem d_MMo_isKnown_151 : decode b_MMo_isKnown 151 = .ok (.if_icmp .eq 24, 3) := by decide +kernel
theorem d_MMo_isKnown_154 : decode b_MMo_isKnown 154 = .ok (.iload_n 0, 1) := by decide +kernel
theorem d_MMo_isKnown_155 : decode b_MMo_isKnown 155 = .ok (.sipush 146, 3) := by decide +kernel
theorem d_MMo_isKnown_158 : decode b_MMo_isKnown 158 = .ok (.if_icmp .eq 17, 3) := by decide +kernel
theorem d_MMo_isKnown_161 : decode b_MMo_isKnown 161 = .ok (.iload_n 0, 1) := by decide +kernel
theorem d_MMo_isKnown_162 : decode b_MMo_isKnown 162 = .ok (.i2l, 1) := by decide +kernel
theorem d_MMo_isKnown_163 : decode b_MMo_isKnown 163 = .ok (.ldc2_w 116, 3) := by decide +kernel
theorem d_MMo_isKnown_166 : decode b_MMo_isKnown 166 = .ok (.ldc2_w 118, 3) := by decide +kernel
theorem d_MMo_isKnown_169 : decode b_MMo_isKnown 169 = .ok (.invokestatic 41, 3) := by decide +kernel
theorem d_MMo_isKnown_172 : decode b_MMo_isKnown 172 = .ok (.ifCond .eq 7, 3) := by decide +kernel
theorem d_MMo_isKnown_175 : decode b_MMo_isKnown 175 = .ok (.iconst 1, 1) := by decide +kernel
theorem d_MMo_isKnown_176 : decode b_MMo_isKnown 176 = .ok (.goto 4, 3) := by decide +kernel
theorem d_MMo_isKnown_179 : decode b_MMo_isKnown 179 = .ok (.iconst 0, 1) := by decide +kernel
theorem d_MMo_isKnown_180 : decode b_MMo_isKnown 180 = .ok (.ireturn, 1) := by decide +kernel
theorem d_MMo_isKnown_181 : decode b_MMo_isKnown 181 = .ok (.iload_n 0, 1) := by decide +kernel
theorem d_MMo_isKnown_182 : decode b_MMo_isKnown 182 = .ok (.i2l, 1) := by decide +kernel
theorem d_MMo_isKnown_183 : decode b_MMo_isKnown 183 = .ok (.ldc2_w 120, 3) := by decide +kernel
theorem d_MMo_isKnown_186 : decode b_MMo_isKnown 186 = .ok (.ldc2_w 122, 3) := by decide +kernel
theorem d_MMo_isKnown_189 : decode b_MMo_isKnown 189 = .ok (.invokestatic 41, 3) := by decide +kernel
theorem d_MMo_isKnown_192 : decode b_MMo_isKnown 192 = .ok (.ifCond .ne 38, 3) := by decide +kernel
theorem d_MMo_isKnown_195 : decode b_MMo_isKnown 195 = .ok (.iload_n 0, 1) := by decide +kernel
theorem d_MMo_isKnown_196 : decode b_MMo_isKnown 196 = .ok (.sipush 220, 3) := by decide +kernel
theorem d_MMo_isKnown_199 : decode b_MMo_isKnown 199 = .ok (.if_icmp .eq 31, 3) := by decide +kernel
theorem d_MMo_isKnown_202 : decode b_MMo_isKnown 202 = .ok (.iload_n 0, 1) := by decide +kernel
theorem d_MMo_isKnown_203 : decode b_MMo_isKnown 203 = .ok (.sipush 242, 3) := by decide +kernel
theorem d_MMo_isKnown_206 : decode b_MMo_isKnown 206 = .ok (.if_icmp .eq 24, 3) := by decide +kernel
theorem d_MMo_isKnown_209 : decode b_MMo_isKnown 209 = .ok (.iload_n 0, 1) := by decide +kernel
theorem d_MMo_isKnown_210 : decode b_MMo_isKnown 210 = .ok (.sipush 243, 3) := by decide +kernel
theorem d_MMo_isKnown_213 : decode b_MMo_isKnown 213 = .ok (.if_icmp .eq 17, 3) := by decide +kernel
theorem d_MMo_isKnown_216 : decode b_MMo_isKnown 216 = .ok (.iload_n 0, 1) := by decide +kernel
theorem d_MMo_isKnown_217 : decode b_MMo_isKnown 217 = .ok (.i2l, 1) := by decide +kernel
theorem d_MMo_isKnown_218 : decode b_MMo_isKnown 218 = .ok (.ldc2_w 124, 3) := by decide +kernel
theorem d_MMo_isKnown_221 : decode b_MMo_isKnown 221 = .ok (.ldc2_w 126, 3) := by decide +kernel
theorem d_MMo_isKnown_224 : decode b_MMo_isKnown 224 = .ok (.invokestatic 41, 3) := by decide +kernel
theorem d_MMo_isKnown_227 : decode b_MMo_isKnown 227 = .ok (.ifCond .eq 7, 3) := by decide +kernel
theorem d_MMo_isKnown_230 : decode b_MMo_isKnown 230 = .ok (.iconst 1, 1) := by decide +kernel
theorem d_MMo_isKnown_231 : decode b_MMo_isKnown 231 = .ok (.goto 4, 3) := by decide +kernel
theorem d_MMo_isKnown_234 : decode b_MMo_isKnown 234 = .ok (.iconst 0, 1) := by decide +kernel
theorem d_MMo_isKnown_235 : decode b_MMo_isKnown 235 = .ok (.ireturn, 1) := by decide +kernel
theorem d_MMo_decodes_0 : decode b_MMo_decodes 0 = .ok (.aload_n 0, 1) := by decide +kernel
theorem d_MMo_decodes_1 : decode b_MMo_decodes 1 = .ok (.iconst 0, 1) := by decide +kernel
theorem d_MMo_decodes_2 : decode b_MMo_decodes 2 = .ok (.putfield 86, 3) := by decide +kernel
theorem d_MMo_decodes_5 : decode b_MMo_decodes 5 = .ok (.aload_n 0, 1) := by decide +kernel
theorem d_MMo_decodes_6 : decode b_MMo_decodes 6 = .ok (.aload_n 0, 1) := by decide +kernel
theorem d_MMo_decodes_7 : decode b_MMo_decodes 7 = .ok (.getfield 67, 3) := by decide +kernel
theorem d_MMo_decodes_10 : decode b_MMo_decodes 10 = .ok (.iconst 1, 1) := by decide +kernel
theorem d_MMo_decodes_11 : decode b_MMo_decodes 11 = .ok (.iand, 1) := by decide +kernel
theorem d_MMo_decodes_12 : decode b_MMo_decodes 12 = .ok (.iconst 1, 1) := by decide +kernel
theorem d_MMo_decodes_13 : decode b_MMo_decodes 13 = .ok (.if_icmp .ne 7, 3) := by decide +kernel
theorem d_MMo_decodes_16 : decode b_MMo_decodes 16 = .ok (.iconst 1, 1) := by decide +kernel
theorem d_MMo_decodes_17 : decode b_MMo_decodes 17 = .ok (.goto 4, 3) := by decide +kernel
theorem d_MMo_decodes_20 : decode b_MMo_decodes 20 = .ok (.iconst 0, 1) := by decide +kernel
theorem d_MMo_decodes_21 : decode b_MMo_decodes 21 = .ok (.bipush 6, 2) := by decide +kernel
theorem d_MMo_decodes_23 : decode b_MMo_decodes 23 = .ok (.invokevirtual 128, 3) := by decide +kernel
theorem d_MMo_decodes_26 : decode b_MMo_decodes 26 = .ok (.aload_n 0, 1) := by decide +kernel
theorem d_MMo_decodes_27 : decode b_MMo_decodes 27 = .ok (.aload_n 0, 1) := by decide +kernel
theorem d_MMo_decodes_28 : decode b_MMo_decodes 28 = .ok (.getfield 67, 3) := by decide +kernel
theorem d_MMo_decodes_31 : decode b_MMo_decodes 31 = .ok (.iconst 1, 1) := by decide +kernel
theorem d_MMo_decodes_32 : decode b_MMo_decodes 32 = .ok (.invokestatic 53, 3) := by decide +kernel
theorem d_MMo_decodes_35 : decode b_MMo_decodes 35 = .ok (.ifCond .ne 7, 3) := by decide +kernel
theorem d_MMo_decodes_38 : decode b_MMo_decodes 38 = .ok (.iconst 1, 1) := by decide +kernel
theorem d_MMo_decodes_39 : decode b_MMo_decodes 39 = .ok (.goto 4, 3) := by decide +kernel
theorem d_MMo_decodes_42 : decode b_MMo_decodes 42 = .ok (.iconst 0, 1) := by decide +kernel
theorem d_MMo_decodes_43 : decode b_MMo_decodes 43 = .ok (.iconst 5, 1) := by decide +kernel
theorem d_MMo_decodes_44 : decode b_MMo_decodes 44 = .ok (.invokevirtual 128, 3) := by decide +kernel
theorem d_MMo_decodes_47 : decode b_MMo_decodes 47 = .ok (.aload_n 0, 1) := by decide +kernel
theorem d_MMo_decodes_48 : decode b_MMo_decodes 48 = .ok (.getfield 86, 3) := by decide +kernel
theorem d_MMo_decodes_51 : decode b_MMo_decodes 51 = .ok (.ifCond .le 4, 3) := by decide +kernel
theorem d_MMo_decodes_54 : decode b_MMo_decodes 54 = .ok (.return_, 1) := by decide +kernel
theorem d_MMo_decodes_55 : decode b_MMo_decodes 55 = .ok (.aload_n 0, 1) := by decide +kernel
theorem d_MMo_decodes_56 : decode b_MMo_decodes 56 = .ok (.aload_n 0, 1) := by decide +kernel
theorem d_MMo_decodes_57 : decode b_MMo_decodes 57 = .ok (.getfield 7, 3) := by decide +kernel
theorem d_MMo_decodes_60 : decode b_MMo_decodes 60 = .ok (.aload_n 0, 1) := by decide +kernel
theorem d_MMo_decodes_61 : decode b_MMo_decodes 61 = .ok (.getfield 67, 3) := by decide +kernel
theorem d_MMo_decodes_64 : decode b_MMo_decodes 64 = .ok (.iaload, 1) := by decide +kernel
theorem d_MMo_decodes_65 : decode b_MMo_decodes 65 = .ok (.putfield 132, 3) := by decide +kernel
theorem d_MMo_decodes_68 : decode b_MMo_decodes 68 = .ok (.aload_n 0, 1) := by decide +kernel
theorem d_MMo_decodes_69 : decode b_MMo_decodes 69 = .ok (.aload_n 0, 1) := by decide +kernel
theorem d_MMo_decodes_70 : decode b_MMo_decodes 70 = .ok (.getfield 132, 3) := by decide +kernel
theorem d_MMo_decodes_73 : decode b_MMo_decodes 73 = .ok (.bipush 64, 2) := by decide +kernel
theorem d_MMo_decodes_75 : decode b_MMo_decodes 75 = .ok (.if_icmp .ge 7, 3) := by decide +kernel
theorem d_MMo_decodes_78 : decode b_MMo_decodes 78 = .ok (.iconst 2, 1) := by decide +kernel
theorem d_MMo_decodes_79 : decode b_MMo_decodes 79 = .ok (.goto 19, 3) := by decide +kernel
theorem d_MMo_decodes_82 : decode b_MMo_decodes 82 = .ok (.aload_n 0, 1) := by decide +kernel
theorem d_MMo_decodes_83 : decode b_MMo_decodes 83 = .ok (.getfield 132, 3) := by decide +kernel
theorem d_MMo_decodes_86 : decode b_MMo_decodes 86 = .ok (.sipush 192, 3) := by decide +kernel
theorem d_MMo_decodes_89 : decode b_MMo_decodes 89 = .ok (.if_icmp .ge 7, 3) := by decide +kernel
theorem d_MMo_decodes_92 : decode b_MMo_decodes 92 = .ok (.iconst 4, 1) := by decide +kernel
theorem d_MMo_decodes_93 : decode b_MMo_decodes 93 = .ok (.goto 5, 3) := by decide +kernel
theorem d_MMo_decodes_96 : decode b_MMo_decodes 96 = .ok (.bipush 6, 2) := by decide +kernel
theorem d_MMo_decodes_98 : decode b_MMo_decodes 98 = .ok (.putfield 135, 3) := by decide +kernel
theorem d_MMo_decodes_101 : decode b_MMo_decodes 101 = .ok (.aload_n 0, 1) := by decide +kernel
theorem d_MMo_decodes_102 : decode b_MMo_decodes 102 = .ok (.aload_n 0, 1) := by decide +kernel
theorem d_MMo_decodes_103 : decode b_MMo_decodes 103 = .ok (.getfield 67, 3) := by decide +kernel
theorem d_MMo_decodes_106 : decode b_MMo_decodes 106 = .ok (.aload_n 0, 1) := by decide +kernel
theorem d_MMo_decodes_107 : decode b_MMo_decodes 107 = .ok (.getfield 135, 3) := by decide +kernel
theorem d_MMo_decodes_110 : decode b_MMo_decodes 110 = .ok (.invokestatic 53, 3) := by decide +kernel
theorem d_MMo_decodes_113 : decode b_MMo_decodes 113 = .ok (.ifCond .ne 7, 3) := by decide +kernel
theorem d_MMo_decodes_116 : decode b_MMo_decodes 116 = .ok (.iconst 1, 1) := by decide +kernel
theorem d_MMo_decodes_117 : decode b_MMo_decodes 117 = .ok (.goto 4, 3) := by decide +kernel
theorem d_MMo_decodes_120 : decode b_MMo_decodes 120 = .ok (.iconst 0, 1) := by decide +kernel
theorem d_MMo_decodes_121 : decode b_MMo_decodes 121 = .ok (.iconst 5, 1) := by decide +kernel
theorem d_MMo_decodes_122 : decode b_MMo_decodes 122 = .ok (.invokevirtual 128, 3) := by decide +kernel
theorem d_MMo_decodes_125 : decode b_MMo_decodes 125 = .ok (.aload_n 0, 1) := by decide +kernel
theorem d_MMo_decodes_126 : decode b_MMo_decodes 126 = .ok (.aload_n 0, 1) := by decide +kernel
theorem d_MMo_decodes_127 : decode b_MMo_decodes 127 = .ok (.getfield 132, 3) := by decide +kernel
theorem d_MMo_decodes_130 : decode b_MMo_decodes 130 = .ok (.invokestatic 138, 3) := by decide +kernel
theorem d_MMo_decodes_133 : decode b_MMo_decodes 133 = .ok (.ifCond .ne 7, 3) := by decide +kernel
theorem d_MMo_decodes_136 : decode b_MMo_decodes 136 = .ok (.iconst 1, 1) := by decide +kernel
theorem d_MMo_decodes_137 : decode b_MMo_decodes 137 = .ok (.goto 4, 3) := by decide +kernel
theorem d_MMo_decodes_140 : decode b_MMo_decodes 140 = .ok (.iconst 0, 1) := by decide +kernel
theorem d_MMo_decodes_141 : decode b_MMo_decodes 141 = .ok (.iconst 1, 1) := by decide +kernel
theorem d_MMo_decodes_142 : decode b_MMo_decodes 142 = .ok (.invokevirtual 128, 3) := by decide +kernel
theorem d_MMo_decodes_145 : decode b_MMo_decodes 145 = .ok (.aload_n 0, 1) := by decide +kernel
theorem d_MMo_decodes_146 : decode b_MMo_decodes 146 = .ok (.getfield 86, 3) := by decide +kernel
theorem d_MMo_decodes_149 : decode b_MMo_decodes 149 = .ok (.ifCond .le 4, 3) := by decide +kernel
theorem d_MMo_decodes_152 : decode b_MMo_decodes 152 = .ok (.return_, 1) := by decide +kernel
theorem d_MMo_decodes_153 : decode b_MMo_decodes 153 = .ok (.aload_n 0, 1) := by decide +kernel
theorem d_MMo_decodes_154 : decode b_MMo_decodes 154 = .ok (.aload_n 0, 1) := by decide +kernel
theorem d_MMo_decodes_155 : decode b_MMo_decodes 155 = .ok (.getfield 7, 3) := by decide +kernel
theorem d_MMo_decodes_158 : decode b_MMo_decodes 158 = .ok (.aload_n 0, 1) := by decide +kernel
theorem d_MMo_decodes_159 : decode b_MMo_decodes 159 = .ok (.getfield 67, 3) := by decide +kernel
theorem d_MMo_decodes_162 : decode b_MMo_decodes 162 = .ok (.iconst 1, 1) := by decide +kernel
theorem d_MMo_decodes_163 : decode b_MMo_decodes 163 = .ok (.iadd, 1) := by decide +kernel
theorem d_MMo_decodes_164 : decode b_MMo_decodes 164 = .ok (.iaload, 1) := by decide +kernel
theorem d_MMo_decodes_165 : decode b_MMo_decodes 165 = .ok (.putfield 142, 3) := by decide +kernel
theorem d_MMo_decodes_168 : decode b_MMo_decodes 168 = .ok (.aload_n 0, 1) := by decide +kernel
theorem d_MMo_decodes_169 : decode b_MMo_decodes 169 = .ok (.aload_n 0, 1) := by decide +kernel
theorem d_MMo_decodes_170 : decode b_MMo_decodes 170 = .ok (.getfield 135, 3) := by decide +kernel
theorem d_MMo_decodes_173 : decode b_MMo_decodes 173 = .ok (.iconst 2, 1) := by decide +kernel
theorem d_MMo_decodes_174 : decode b_MMo_decodes 174 = .ok (.if_icmp .le 16, 3) := by decide +kernel
theorem d_MMo_decodes_177 : decode b_MMo_decodes 177 = .ok (.aload_n 0, 1) := by decide +kernel
theorem d_MMo_decodes_178 : decode b_MMo_decodes 178 = .ok (.aload_n 0, 1) := by decide +kernel
theorem d_MMo_decodes_179 : decode b_MMo_decodes 179 = .ok (.getfield 67, 3) := by decide +kernel
theorem d_MMo_decodes_182 : decode b_MMo_decodes 182 = .ok (.iconst 2, 1) := by decide +kernel
theorem d_MMo_decodes_183 : decode b_MMo_decodes 183 = .ok (.iadd, 1) := by decide +kernel
theorem d_MMo_decodes_184 : decode b_MMo_decodes 184 = .ok (.invokevirtual 145, 3) := by decide +kernel
theorem d_MMo_decodes_187 : decode b_MMo_decodes 187 = .ok (.goto 4, 3) := by decide +kernel
theorem d_MMo_decodes_190 : decode b_MMo_decodes 190 = .ok (.iconst 0, 1) := by decide +kernel
theorem d_MMo_decodes_191 : decode b_MMo_decodes 191 = .ok (.putfield 149, 3) := by decide +kernel
theorem d_MMo_decodes_194 : decode b_MMo_decodes 194 = .ok (.aload_n 0, 1) := by decide +kernel
theorem d_MMo_decodes_195 : decode b_MMo_decodes 195 = .ok (.aload_n 0, 1) := by decide +kernel
theorem d_MMo_decodes_196 : decode b_MMo_decodes 196 = .ok (.getfield 135, 3) := by decide +kernel
theorem d_MMo_decodes_199 : decode b_MMo_decodes 199 = .ok (.bipush 6, 2) := by decide +kernel
theorem d_MMo_decodes_201 : decode b_MMo_decodes 201 = .ok (.if_icmp .ne 16, 3) := by decide +kernel
theorem d_MMo_decodes_204 : decode b_MMo_decodes 204 = .ok (.aload_n 0, 1) := by decide +kernel
theorem d_MMo_decodes_205 : decode b_MMo_decodes 205 = .ok (.aload_n 0, 1) := by decide +kernel
theorem d_MMo_decodes_206 : decode b_MMo_decodes 206 = .ok (.getfield 67, 3) := by decide +kernel
theorem d_MMo_decodes_209 : decode b_MMo_decodes 209 = .ok (.iconst 4, 1) := by decide +kernel
theorem d_MMo_decodes_210 : decode b_MMo_decodes 210 = .ok (.iadd, 1) := by decide +kernel
theorem d_MMo_decodes_211 : decode b_MMo_decodes 211 = .ok (.invokevirtual 145, 3) := by decide +kernel
theorem d_MMo_decodes_214 : decode b_MMo_decodes 214 = .ok (.goto 7, 3) := by decide +kernel
theorem d_MMo_decodes_217 : decode b_MMo_decodes 217 = .ok (.aload_n 0, 1) := by decide +kernel
theorem d_MMo_decodes_218 : decode b_MMo_decodes 218 = .ok (.getfield 149, 3) := by decide +kernel
theorem d_MMo_decodes_221 : decode b_MMo_decodes 221 = .ok (.putfield 152, 3) := by decide +kernel
theorem d_MMo_decodes_224 : decode b_MMo_decodes 224 = .ok (.aload_n 0, 1) := by decide +kernel
theorem d_MMo_decodes_225 : decode b_MMo_decodes 225 = .ok (.getfield 132, 3) := by decide +kernel
theorem d_MMo_decodes_228 : decode b_MMo_decodes 228 = .ok (.i2l, 1) := by decide +kernel
theorem d_MMo_decodes_229 : decode b_MMo_decodes 229 = .ok (.ldc2_w 78, 3) := by decide +kernel
theorem d_MMo_decodes_232 : decode b_MMo_decodes 232 = .ok (.ldc2_w 155, 3) := by decide +kernel
theorem d_MMo_decodes_235 : decode b_MMo_decodes 235 = .ok (.invokestatic 41, 3) := by decide +kernel
theorem d_MMo_decodes_238 : decode b_MMo_decodes 238 = .ok (.ifCond .eq 37, 3) := by decide +kernel
theorem d_MMo_decodes_241 : decode b_MMo_decodes 241 = .ok (.aload_n 0, 1) := by decide +kernel
theorem d_MMo_decodes_242 : decode b_MMo_decodes 242 = .ok (.getfield 142, 3) := by decide +kernel
theorem d_MMo_decodes_245 : decode b_MMo_decodes 245 = .ok (.bipush 15, 2) := by decide +kernel
theorem d_MMo_decodes_247 : decode b_MMo_decodes 247 = .ok (.iand, 1) := by decide +kernel
theorem d_MMo_decodes_248 : decode b_MMo_decodes 248 = .ok (.ifCond .le 27, 3) := by decide +kernel
theorem d_MMo_decodes_251 : decode b_MMo_decodes 251 = .ok (.aload_n 0, 1) := by decide +kernel
theorem d_MMo_decodes_252 : decode b_MMo_decodes 252 = .ok (.aload_n 0, 1) := by decide +kernel
theorem d_MMo_decodes_253 : decode b_MMo_decodes 253 = .ok (.getfield 152, 3) := by decide +kernel
theorem d_MMo_decodes_256 : decode b_MMo_decodes 256 = .ok (.aload_n 0, 1) := by decide +kernel
theorem d_MMo_decodes_257 : decode b_MMo_decodes 257 = .ok (.getfield 13, 3) := by decide +kernel
theorem d_MMo_decodes_260 : decode b_MMo_decodes 260 = .ok (.aload_n 0, 1) := by decide +kernel
theorem d_MMo_decodes_261 : decode b_MMo_decodes 261 = .ok (.getfield 142, 3) := by decide +kernel
theorem d_MMo_decodes_264 : decode b_MMo_decodes 264 = .ok (.bipush 15, 2) := by decide +kernel
theorem d_MMo_decodes_266 : decode b_MMo_decodes 266 = .ok (.iand, 1) := by decide +kernel
theorem d_MMo_decodes_267 : decode b_MMo_decodes 267 = .ok (.iaload, 1) := by decide +kernel
theorem d_MMo_decodes_268 : decode b_MMo_decodes 268 = .ok (.iadd, 1) := by decide +kernel
theorem d_MMo_decodes_269 : decode b_MMo_decodes 269 = .ok (.ldc 93, 2) := by decide +kernel
theorem d_MMo_decodes_271 : decode b_MMo_decodes 271 = .ok (.iand, 1) := by decide +kernel
theorem d_MMo_decodes_272 : decode b_MMo_decodes 272 = .ok (.putfield 152, 3) := by decide +kernel
theorem d_MMo_decodes_275 : decode b_MMo_decodes 275 = .ok (.return_, 1) := by decide +kernel
theorem d_MMo_high_0 : decode b_MMo_high 0 = .ok (.aload_n 0, 1) := by decide +kernel
theorem d_MMo_high_1 : decode b_MMo_high 1 = .ok (.getfield 142, 3) := by decide +kernel
theorem d_MMo_high_4 : decode b_MMo_high 4 = .ok (.iconst 4, 1) := by decide +kernel
theorem d_MMo_high_5 : decode b_MMo_high 5 = .ok (.ishr, 1) := by decide +kernel
theorem d_MMo_high_6 : decode b_MMo_high 6 = .ok (.ireturn, 1) := by decide +kernel
theorem d_MMo_low_0 : decode b_MMo_low 0 = .ok (.aload_n 0, 1) := by decide +kernel
theorem d_MMo_low_1 : decode b_MMo_low 1 = .ok (.getfield 142, 3) := by decide +kernel
theorem d_MMo_low_4 : decode b_MMo_low 4 = .ok (.bipush 15, 2) := by decide +kernel
theorem d_MMo_low_6 : decode b_MMo_low 6 = .ok (.iand, 1) := by decide +kernel
theorem d_MMo_low_7 : decode b_MMo_low 7 = .ok (.ireturn, 1) := by decide +kernel
theorem d_MMo_width_0 : decode b_MMo_width 0 = .ok (.aload_n 0, 1) := by decide +kernel
theorem d_MMo_width_1 : decode b_MMo_width 1 = .ok (.getfield 132, 3) := by decide +kernel
theorem d_MMo_width_4 : decode b_MMo_width 4 = .ok (.bipush 65, 2) := by decide +kernel
theorem d_MMo_width_6 : decode b_MMo_width 6 = .ok (.if_icmp .eq 30, 3) := by decide +kernel
theorem d_MMo_width_9 : decode b_MMo_width 9 = .ok (.aload_n 0, 1) := by decide +kernel
theorem d_MMo_width_10 : decode b_MMo_width 10 = .ok (.getfield 132, 3) := by decide +kernel
theorem d_MMo_width_13 : decode b_MMo_width 13 = .ok (.bipush 69, 2) := by decide +kernel
theorem d_MMo_width_15 : decode b_MMo_width 15 = .ok (.if_icmp .eq 21, 3) := by decide +kernel
theorem d_MMo_width_18 : decode b_MMo_width 18 = .ok (.aload_n 0, 1) := by decide +kernel
theorem d_MMo_width_19 : decode b_MMo_width 19 = .ok (.getfield 132, 3) := by decide +kernel
theorem d_MMo_width_22 : decode b_MMo_width 22 = .ok (.bipush 70, 2) := by decide +kernel
theorem d_MMo_width_24 : decode b_MMo_width 24 = .ok (.if_icmp .eq 12, 3) := by decide +kernel
theorem d_MMo_width_27 : decode b_MMo_width 27 = .ok (.aload_n 0, 1) := by decide +kernel
theorem d_MMo_width_28 : decode b_MMo_width 28 = .ok (.getfield 132, 3) := by decide +kernel
theorem d_MMo_width_31 : decode b_MMo_width 31 = .ok (.bipush 71, 2) := by decide +kernel
theorem d_MMo_width_33 : decode b_MMo_width 33 = .ok (.if_icmp .ne 5, 3) := by decide +kernel
theorem d_MMo_width_36 : decode b_MMo_width 36 = .ok (.iconst 0, 1) := by decide +kernel
theorem d_MMo_width_37 : decode b_MMo_width 37 = .ok (.ireturn, 1) := by decide +kernel
theorem d_MMo_width_38 : decode b_MMo_width 38 = .ok (.aload_n 0, 1) := by decide +kernel
theorem d_MMo_width_39 : decode b_MMo_width 39 = .ok (.getfield 132, 3) := by decide +kernel
theorem d_MMo_width_42 : decode b_MMo_width 42 = .ok (.bipush 66, 2) := by decide +kernel
theorem d_MMo_width_44 : decode b_MMo_width 44 = .ok (.if_icmp .eq 12, 3) := by decide +kernel
theorem d_MMo_width_47 : decode b_MMo_width 47 = .ok (.aload_n 0, 1) := by decide +kernel
theorem d_MMo_width_48 : decode b_MMo_width 48 = .ok (.getfield 132, 3) := by decide +kernel
theorem d_MMo_width_51 : decode b_MMo_width 51 = .ok (.bipush 67, 2) := by decide +kernel
theorem d_MMo_width_53 : decode b_MMo_width 53 = .ok (.if_icmp .ne 7, 3) := by decide +kernel
theorem d_MMo_width_56 : decode b_MMo_width 56 = .ok (.iconst 1, 1) := by decide +kernel
theorem d_MMo_width_57 : decode b_MMo_width 57 = .ok (.goto 57, 3) := by decide +kernel
theorem d_MMo_width_60 : decode b_MMo_width 60 = .ok (.aload_n 0, 1) := by decide +kernel
theorem d_MMo_width_61 : decode b_MMo_width 61 = .ok (.getfield 132, 3) := by decide +kernel
theorem d_MMo_width_64 : decode b_MMo_width 64 = .ok (.bipush 64, 2) := by decide +kernel
theorem d_MMo_width_66 : decode b_MMo_width 66 = .ok (.if_icmp .eq 20, 3) := by decide +kernel
theorem d_MMo_width_69 : decode b_MMo_width 69 = .ok (.aload_n 0, 1) := by decide +kernel
theorem d_MMo_width_70 : decode b_MMo_width 70 = .ok (.getfield 132, 3) := by decide +kernel
theorem d_MMo_width_73 : decode b_MMo_width 73 = .ok (.i2l, 1) := by decide +kernel
theorem d_MMo_width_74 : decode b_MMo_width 74 = .ok (.ldc2_w 157, 3) := by decide +kernel
theorem d_MMo_width_77 : decode b_MMo_width 77 = .ok (.ldc2_w 106, 3) := by decide +kernel
theorem d_MMo_width_80 : decode b_MMo_width 80 = .ok (.invokestatic 41, 3) := by decide +kernel
theorem d_MMo_width_83 : decode b_MMo_width 83 = .ok (.ifCond .eq 7, 3) := by decide +kernel
theorem d_MMo_width_86 : decode b_MMo_width 86 = .ok (.iconst 2, 1) := by decide +kernel
theorem d_MMo_width_87 : decode b_MMo_width 87 = .ok (.goto 27, 3) := by decide +kernel
theorem d_MMo_width_90 : decode b_MMo_width 90 = .ok (.aload_n 0, 1) := by decide +kernel
theorem d_MMo_width_91 : decode b_MMo_width 91 = .ok (.getfield 132, 3) := by decide +kernel
theorem d_MMo_width_94 : decode b_MMo_width 94 = .ok (.bipush 78, 2) := by decide +kernel
theorem d_MMo_width_96 : decode b_MMo_width 96 = .ok (.if_icmp .eq 12, 3) := by decide +kernel
theorem d_MMo_width_99 : decode b_MMo_width 99 = .ok (.aload_n 0, 1) := by decide +kernel
theorem d_MMo_width_100 : decode b_MMo_width 100 = .ok (.getfield 132, 3) := by decide +kernel
theorem d_MMo_width_103 : decode b_MMo_width 103 = .ok (.bipush 79, 2) := by decide +kernel
theorem d_MMo_width_105 : decode b_MMo_width 105 = .ok (.if_icmp .ne 8, 3) := by decide +kernel
theorem d_MMo_width_108 : decode b_MMo_width 108 = .ok (.bipush 8, 2) := by decide +kernel
theorem d_MMo_width_110 : decode b_MMo_width 110 = .ok (.goto 4, 3) := by decide +kernel
theorem d_MMo_width_113 : decode b_MMo_width 113 = .ok (.iconst 4, 1) := by decide +kernel
theorem d_MMo_width_114 : decode b_MMo_width 114 = .ok (.ireturn, 1) := by decide +kernel
theorem d_MMo_divides_0 : decode b_MMo_divides 0 = .ok (.aload_n 0, 1) := by decide +kernel
theorem d_MMo_divides_1 : decode b_MMo_divides 1 = .ok (.invokevirtual 163, 3) := by decide +kernel
theorem d_MMo_divides_4 : decode b_MMo_divides 4 = .ok (.iconst 1, 1) := by decide +kernel
theorem d_MMo_divides_5 : decode b_MMo_divides 5 = .ok (.iand, 1) := by decide +kernel
theorem d_MMo_divides_6 : decode b_MMo_divides 6 = .ok (.iconst 1, 1) := by decide +kernel
theorem d_MMo_divides_7 : decode b_MMo_divides 7 = .ok (.if_icmp .ne 5, 3) := by decide +kernel
theorem d_MMo_divides_10 : decode b_MMo_divides 10 = .ok (.iconst 1, 1) := by decide +kernel
theorem d_MMo_divides_11 : decode b_MMo_divides 11 = .ok (.ireturn, 1) := by decide +kernel
theorem d_MMo_divides_12 : decode b_MMo_divides 12 = .ok (.aload_n 0, 1) := by decide +kernel
theorem d_MMo_divides_13 : decode b_MMo_divides 13 = .ok (.getfield 13, 3) := by decide +kernel
theorem d_MMo_divides_16 : decode b_MMo_divides 16 = .ok (.aload_n 0, 1) := by decide +kernel
theorem d_MMo_divides_17 : decode b_MMo_divides 17 = .ok (.invokevirtual 163, 3) := by decide +kernel
theorem d_MMo_divides_20 : decode b_MMo_divides 20 = .ok (.iaload, 1) := by decide +kernel
theorem d_MMo_divides_21 : decode b_MMo_divides 21 = .ok (.i2l, 1) := by decide +kernel
theorem d_MMo_divides_22 : decode b_MMo_divides 22 = .ok (.bipush 32, 2) := by decide +kernel
theorem d_MMo_divides_24 : decode b_MMo_divides 24 = .ok (.lshl, 1) := by decide +kernel
theorem d_MMo_divides_25 : decode b_MMo_divides 25 = .ok (.aload_n 0, 1) := by decide +kernel
theorem d_MMo_divides_26 : decode b_MMo_divides 26 = .ok (.getfield 13, 3) := by decide +kernel
theorem d_MMo_divides_29 : decode b_MMo_divides 29 = .ok (.aload_n 0, 1) := by decide +kernel
theorem d_MMo_divides_30 : decode b_MMo_divides 30 = .ok (.invokevirtual 163, 3) := by decide +kernel
theorem d_MMo_divides_33 : decode b_MMo_divides 33 = .ok (.iconst 1, 1) := by decide +kernel
theorem d_MMo_divides_34 : decode b_MMo_divides 34 = .ok (.iadd, 1) := by decide +kernel
theorem d_MMo_divides_35 : decode b_MMo_divides 35 = .ok (.iaload, 1) := by decide +kernel
theorem d_MMo_divides_36 : decode b_MMo_divides 36 = .ok (.i2l, 1) := by decide +kernel
theorem d_MMo_divides_37 : decode b_MMo_divides 37 = .ok (.ldc2_w 197, 3) := by decide +kernel
theorem d_MMo_divides_40 : decode b_MMo_divides 40 = .ok (.land, 1) := by decide +kernel
theorem d_MMo_divides_41 : decode b_MMo_divides 41 = .ok (.lor, 1) := by decide +kernel
theorem d_MMo_divides_42 : decode b_MMo_divides 42 = .ok (.lstore_n 2, 1) := by decide +kernel
theorem d_MMo_divides_43 : decode b_MMo_divides 43 = .ok (.iload_n 1, 1) := by decide +kernel
theorem d_MMo_divides_44 : decode b_MMo_divides 44 = .ok (.ifCond .eq 23, 3) := by decide +kernel
theorem d_MMo_divides_47 : decode b_MMo_divides 47 = .ok (.lload_n 2, 1) := by decide +kernel
theorem d_MMo_divides_48 : decode b_MMo_divides 48 = .ok (.iload_n 1, 1) := by decide +kernel
theorem d_MMo_divides_49 : decode b_MMo_divides 49 = .ok (.i2l, 1) := by decide +kernel
theorem d_MMo_divides_50 : decode b_MMo_divides 50 = .ok (.ldiv, 1) := by decide +kernel
theorem d_MMo_divides_51 : decode b_MMo_divides 51 = .ok (.ldc2_w 193, 3) := by decide +kernel
theorem d_MMo_divides_54 : decode b_MMo_divides 54 = .ok (.ldc2_w 195, 3) := by decide +kernel
theorem d_MMo_divides_57 : decode b_MMo_divides 57 = .ok (.invokestatic 41, 3) := by decide +kernel
theorem d_MMo_divides_60 : decode b_MMo_divides 60 = .ok (.ifCond .eq 7, 3) := by decide +kernel
theorem d_MMo_divides_63 : decode b_MMo_divides 63 = .ok (.iconst 1, 1) := by decide +kernel
theorem d_MMo_divides_64 : decode b_MMo_divides 64 = .ok (.goto 4, 3) := by decide +kernel
theorem d_MMo_divides_67 : decode b_MMo_divides 67 = .ok (.iconst 0, 1) := by decide +kernel
theorem d_MMo_divides_68 : decode b_MMo_divides 68 = .ok (.ireturn, 1) := by decide +kernel
theorem d_MMo_packs_0 : decode b_MMo_packs 0 = .ok (.aload_n 0, 1) := by decide +kernel
theorem d_MMo_packs_1 : decode b_MMo_packs 1 = .ok (.getfield 7, 3) := by decide +kernel
theorem d_MMo_packs_4 : decode b_MMo_packs 4 = .ok (.iload_n 1, 1) := by decide +kernel
theorem d_MMo_packs_5 : decode b_MMo_packs 5 = .ok (.iload_n 2, 1) := by decide +kernel
theorem d_MMo_packs_6 : decode b_MMo_packs 6 = .ok (.iadd, 1) := by decide +kernel
theorem d_MMo_packs_7 : decode b_MMo_packs 7 = .ok (.iconst 1, 1) := by decide +kernel
theorem d_MMo_packs_8 : decode b_MMo_packs 8 = .ok (.isub, 1) := by decide +kernel
theorem d_MMo_packs_9 : decode b_MMo_packs 9 = .ok (.iaload, 1) := by decide +kernel
theorem d_MMo_packs_10 : decode b_MMo_packs 10 = .ok (.bipush 15, 2) := by decide +kernel
theorem d_MMo_packs_12 : decode b_MMo_packs 12 = .ok (.iand, 1) := by decide +kernel
theorem d_MMo_packs_13 : decode b_MMo_packs 13 = .ok (.istore 4, 2) := by decide +kernel
theorem d_MMo_packs_15 : decode b_MMo_packs 15 = .ok (.iload 4, 2) := by decide +kernel
theorem d_MMo_packs_17 : decode b_MMo_packs 17 = .ok (.bipush 9, 2) := by decide +kernel
theorem d_MMo_packs_19 : decode b_MMo_packs 19 = .ok (.if_icmp .le 7, 3) := by decide +kernel
theorem d_MMo_packs_22 : decode b_MMo_packs 22 = .ok (.iconst 1, 1) := by decide +kernel
theorem d_MMo_packs_23 : decode b_MMo_packs 23 = .ok (.goto 4, 3) := by decide +kernel
theorem d_MMo_packs_26 : decode b_MMo_packs 26 = .ok (.iconst 0, 1) := by decide +kernel
theorem d_MMo_packs_27 : decode b_MMo_packs 27 = .ok (.istore 5, 2) := by decide +kernel
theorem d_MMo_packs_29 : decode b_MMo_packs 29 = .ok (.iconst 0, 1) := by decide +kernel
theorem d_MMo_packs_30 : decode b_MMo_packs 30 = .ok (.istore 6, 2) := by decide +kernel
theorem d_MMo_packs_32 : decode b_MMo_packs 32 = .ok (.iload 6, 2) := by decide +kernel
theorem d_MMo_packs_34 : decode b_MMo_packs 34 = .ok (.bipush 32, 2) := by decide +kernel
theorem d_MMo_packs_36 : decode b_MMo_packs 36 = .ok (.if_icmp .ge 14, 3) := by decide +kernel
theorem d_MMo_packs_39 : decode b_MMo_packs 39 = .ok (.aload_n 3, 1) := by decide +kernel
theorem d_MMo_packs_40 : decode b_MMo_packs 40 = .ok (.iload 6, 2) := by decide +kernel
theorem d_MMo_packs_42 : decode b_MMo_packs 42 = .ok (.iconst 0, 1) := by decide +kernel
theorem d_MMo_packs_43 : decode b_MMo_packs 43 = .ok (.iastore, 1) := by decide +kernel
theorem d_MMo_packs_44 : decode b_MMo_packs 44 = .ok (.iinc 6 1, 3) := by decide +kernel
theorem d_MMo_packs_47 : decode b_MMo_packs 47 = .ok (.goto (-15), 3) := by decide +kernel
theorem d_MMo_packs_50 : decode b_MMo_packs 50 = .ok (.iconst 0, 1) := by decide +kernel
theorem d_MMo_packs_51 : decode b_MMo_packs 51 = .ok (.istore 6, 2) := by decide +kernel
theorem d_MMo_packs_53 : decode b_MMo_packs 53 = .ok (.iload 6, 2) := by decide +kernel
theorem d_MMo_packs_55 : decode b_MMo_packs 55 = .ok (.iconst 2, 1) := by decide +kernel
theorem d_MMo_packs_56 : decode b_MMo_packs 56 = .ok (.iload_n 2, 1) := by decide +kernel
theorem d_MMo_packs_57 : decode b_MMo_packs 57 = .ok (.imul, 1) := by decide +kernel
theorem d_MMo_packs_58 : decode b_MMo_packs 58 = .ok (.iconst 1, 1) := by decide +kernel
theorem d_MMo_packs_59 : decode b_MMo_packs 59 = .ok (.isub, 1) := by decide +kernel
theorem d_MMo_packs_60 : decode b_MMo_packs 60 = .ok (.if_icmp .ge 70, 3) := by decide +kernel
theorem d_MMo_packs_63 : decode b_MMo_packs 63 = .ok (.aload_n 0, 1) := by decide +kernel
theorem d_MMo_packs_64 : decode b_MMo_packs 64 = .ok (.getfield 7, 3) := by decide +kernel
theorem d_MMo_packs_67 : decode b_MMo_packs 67 = .ok (.iload_n 1, 1) := by decide +kernel
theorem d_MMo_packs_68 : decode b_MMo_packs 68 = .ok (.iload_n 2, 1) := by decide +kernel
theorem d_MMo_packs_69 : decode b_MMo_packs 69 = .ok (.iadd, 1) := by decide +kernel
theorem d_MMo_packs_70 : decode b_MMo_packs 70 = .ok (.iconst 1, 1) := by decide +kernel
theorem d_MMo_packs_71 : decode b_MMo_packs 71 = .ok (.isub, 1) := by decide +kernel
theorem d_MMo_packs_72 : decode b_MMo_packs 72 = .ok (.iload 6, 2) := by decide +kernel
theorem d_MMo_packs_74 : decode b_MMo_packs 74 = .ok (.iconst 1, 1) := by decide +kernel
theorem d_MMo_packs_75 : decode b_MMo_packs 75 = .ok (.iadd, 1) := by decide +kernel
theorem d_MMo_packs_76 : decode b_MMo_packs 76 = .ok (.iconst 2, 1) := by decide +kernel
theorem d_MMo_packs_77 : decode b_MMo_packs 77 = .ok (.idiv, 1) := by decide +kernel
theorem d_MMo_packs_78 : decode b_MMo_packs 78 = .ok (.isub, 1) := by decide +kernel
theorem d_MMo_packs_79 : decode b_MMo_packs 79 = .ok (.iaload, 1) := by decide +kernel
theorem d_MMo_packs_80 : decode b_MMo_packs 80 = .ok (.istore 7, 2) := by decide +kernel
theorem d_MMo_packs_82 : decode b_MMo_packs 82 = .ok (.aload_n 3, 1) := by decide +kernel
theorem d_MMo_packs_83 : decode b_MMo_packs 83 = .ok (.iload 6, 2) := by decide +kernel
theorem d_MMo_packs_85 : decode b_MMo_packs 85 = .ok (.iload 6, 2) := by decide +kernel
theorem d_MMo_packs_87 : decode b_MMo_packs 87 = .ok (.iconst 2, 1) := by decide +kernel
theorem d_MMo_packs_88 : decode b_MMo_packs 88 = .ok (.irem, 1) := by decide +kernel
theorem d_MMo_packs_89 : decode b_MMo_packs 89 = .ok (.ifCond .ne 10, 3) := by decide +kernel
theorem d_MMo_packs_92 : decode b_MMo_packs 92 = .ok (.iload 7, 2) := by decide +kernel
theorem d_MMo_packs_94 : decode b_MMo_packs 94 = .ok (.iconst 4, 1) := by decide +kernel
theorem d_MMo_packs_95 : decode b_MMo_packs 95 = .ok (.ishr, 1) := by decide +kernel
theorem d_MMo_packs_96 : decode b_MMo_packs 96 = .ok (.goto 8, 3) := by decide +kernel
theorem d_MMo_packs_99 : decode b_MMo_packs 99 = .ok (.iload 7, 2) := by decide +kernel
theorem d_MMo_packs_101 : decode b_MMo_packs 101 = .ok (.bipush 15, 2) := by decide +kernel
theorem d_MMo_packs_103 : decode b_MMo_packs 103 = .ok (.iand, 1) := by decide +kernel
theorem d_MMo_packs_104 : decode b_MMo_packs 104 = .ok (.iastore, 1) := by decide +kernel
theorem d_MMo_packs_105 : decode b_MMo_packs 105 = .ok (.iload 5, 2) := by decide +kernel
theorem d_MMo_packs_107 : decode b_MMo_packs 107 = .ok (.aload_n 3, 1) := by decide +kernel
theorem d_MMo_packs_108 : decode b_MMo_packs 108 = .ok (.iload 6, 2) := by decide +kernel
theorem d_MMo_packs_110 : decode b_MMo_packs 110 = .ok (.iaload, 1) := by decide +kernel
theorem d_MMo_packs_111 : decode b_MMo_packs 111 = .ok (.bipush 10, 2) := by decide +kernel
theorem d_MMo_packs_113 : decode b_MMo_packs 113 = .ok (.if_icmp .ge 7, 3) := by decide +kernel
theorem d_MMo_packs_116 : decode b_MMo_packs 116 = .ok (.iconst 1, 1) := by decide +kernel
theorem d_MMo_packs_117 : decode b_MMo_packs 117 = .ok (.goto 4, 3) := by decide +kernel
theorem d_MMo_packs_120 : decode b_MMo_packs 120 = .ok (.iconst 0, 1) := by decide +kernel
theorem d_MMo_packs_121 : decode b_MMo_packs 121 = .ok (.iand, 1) := by decide +kernel
theorem d_MMo_packs_122 : decode b_MMo_packs 122 = .ok (.istore 5, 2) := by decide +kernel
theorem d_MMo_packs_124 : decode b_MMo_packs 124 = .ok (.iinc 6 1, 3) := by decide +kernel
theorem d_MMo_packs_127 : decode b_MMo_packs 127 = .ok (.goto (-74), 3) := by decide +kernel
theorem d_MMo_packs_130 : decode b_MMo_packs 130 = .ok (.iload 5, 2) := by decide +kernel
theorem d_MMo_packs_132 : decode b_MMo_packs 132 = .ok (.ireturn, 1) := by decide +kernel
theorem d_MMo_isMinus_0 : decode b_MMo_isMinus 0 = .ok (.aload_n 0, 1) := by decide +kernel
theorem d_MMo_isMinus_1 : decode b_MMo_isMinus 1 = .ok (.getfield 7, 3) := by decide +kernel
theorem d_MMo_isMinus_4 : decode b_MMo_isMinus 4 = .ok (.iload_n 1, 1) := by decide +kernel
theorem d_MMo_isMinus_5 : decode b_MMo_isMinus 5 = .ok (.iload_n 2, 1) := by decide +kernel
theorem d_MMo_isMinus_6 : decode b_MMo_isMinus 6 = .ok (.iadd, 1) := by decide +kernel
theorem d_MMo_isMinus_7 : decode b_MMo_isMinus 7 = .ok (.iconst 1, 1) := by decide +kernel
theorem d_MMo_isMinus_8 : decode b_MMo_isMinus 8 = .ok (.isub, 1) := by decide +kernel
theorem d_MMo_isMinus_9 : decode b_MMo_isMinus 9 = .ok (.iaload, 1) := by decide +kernel
theorem d_MMo_isMinus_10 : decode b_MMo_isMinus 10 = .ok (.bipush 15, 2) := by decide +kernel
theorem d_MMo_isMinus_12 : decode b_MMo_isMinus 12 = .ok (.iand, 1) := by decide +kernel
theorem d_MMo_isMinus_13 : decode b_MMo_isMinus 13 = .ok (.istore_n 3, 1) := by decide +kernel
theorem d_MMo_isMinus_14 : decode b_MMo_isMinus 14 = .ok (.iload_n 3, 1) := by decide +kernel
theorem d_MMo_isMinus_15 : decode b_MMo_isMinus 15 = .ok (.bipush 11, 2) := by decide +kernel
theorem d_MMo_isMinus_17 : decode b_MMo_isMinus 17 = .ok (.if_icmp .eq 9, 3) := by decide +kernel
theorem d_MMo_isMinus_20 : decode b_MMo_isMinus 20 = .ok (.iload_n 3, 1) := by decide +kernel
theorem d_MMo_isMinus_21 : decode b_MMo_isMinus 21 = .ok (.bipush 13, 2) := by decide +kernel
theorem d_MMo_isMinus_23 : decode b_MMo_isMinus 23 = .ok (.if_icmp .ne 7, 3) := by decide +kernel
theorem d_MMo_isMinus_26 : decode b_MMo_isMinus 26 = .ok (.iconst 1, 1) := by decide +kernel
theorem d_MMo_isMinus_27 : decode b_MMo_isMinus 27 = .ok (.goto 4, 3) := by decide +kernel
theorem d_MMo_isMinus_30 : decode b_MMo_isMinus 30 = .ok (.iconst 0, 1) := by decide +kernel
theorem d_MMo_isMinus_31 : decode b_MMo_isMinus 31 = .ok (.ireturn, 1) := by decide +kernel
theorem d_MMo_value_0 : decode b_MMo_value 0 = .ok (.lconst 0, 1) := by decide +kernel
theorem d_MMo_value_1 : decode b_MMo_value 1 = .ok (.lstore_n 2, 1) := by decide +kernel
theorem d_MMo_value_2 : decode b_MMo_value 2 = .ok (.bipush 17, 2) := by decide +kernel
theorem d_MMo_value_4 : decode b_MMo_value 4 = .ok (.istore 4, 2) := by decide +kernel
theorem d_MMo_value_6 : decode b_MMo_value 6 = .ok (.iload 4, 2) := by decide +kernel
theorem d_MMo_value_8 : decode b_MMo_value 8 = .ok (.ifCond .lt 21, 3) := by decide +kernel
theorem d_MMo_value_11 : decode b_MMo_value 11 = .ok (.ldc2_w 206, 3) := by decide +kernel
theorem d_MMo_value_14 : decode b_MMo_value 14 = .ok (.lload_n 2, 1) := by decide +kernel
theorem d_MMo_value_15 : decode b_MMo_value 15 = .ok (.lmul, 1) := by decide +kernel
theorem d_MMo_value_16 : decode b_MMo_value 16 = .ok (.aload_n 0, 1) := by decide +kernel
theorem d_MMo_value_17 : decode b_MMo_value 17 = .ok (.iload 4, 2) := by decide +kernel
theorem d_MMo_value_19 : decode b_MMo_value 19 = .ok (.iaload, 1) := by decide +kernel
theorem d_MMo_value_20 : decode b_MMo_value 20 = .ok (.i2l, 1) := by decide +kernel
theorem d_MMo_value_21 : decode b_MMo_value 21 = .ok (.ladd, 1) := by decide +kernel
theorem d_MMo_value_22 : decode b_MMo_value 22 = .ok (.lstore_n 2, 1) := by decide +kernel
theorem d_MMo_value_23 : decode b_MMo_value 23 = .ok (.iinc 4 (-1), 3) := by decide +kernel
theorem d_MMo_value_26 : decode b_MMo_value 26 = .ok (.goto (-20), 3) := by decide +kernel
theorem d_MMo_value_29 : decode b_MMo_value 29 = .ok (.iload_n 1, 1) := by decide +kernel
theorem d_MMo_value_30 : decode b_MMo_value 30 = .ok (.ifCond .eq 8, 3) := by decide +kernel
theorem d_MMo_value_33 : decode b_MMo_value 33 = .ok (.lload_n 2, 1) := by decide +kernel
theorem d_MMo_value_34 : decode b_MMo_value 34 = .ok (.lneg, 1) := by decide +kernel
theorem d_MMo_value_35 : decode b_MMo_value 35 = .ok (.goto 4, 3) := by decide +kernel
theorem d_MMo_value_38 : decode b_MMo_value 38 = .ok (.lload_n 2, 1) := by decide +kernel
theorem d_MMo_value_39 : decode b_MMo_value 39 = .ok (.lreturn, 1) := by decide +kernel
theorem d_MMo_looksAtWord_0 : decode b_MMo_looksAtWord 0 = .ok (.aload_n 0, 1) := by decide +kernel
theorem d_MMo_looksAtWord_1 : decode b_MMo_looksAtWord 1 = .ok (.invokevirtual 179, 3) := by decide +kernel
theorem d_MMo_looksAtWord_4 : decode b_MMo_looksAtWord 4 = .ok (.istore_n 1, 1) := by decide +kernel
theorem d_MMo_looksAtWord_5 : decode b_MMo_looksAtWord 5 = .ok (.aload_n 0, 1) := by decide +kernel
theorem d_MMo_looksAtWord_6 : decode b_MMo_looksAtWord 6 = .ok (.aload_n 0, 1) := by decide +kernel
theorem d_MMo_looksAtWord_7 : decode b_MMo_looksAtWord 7 = .ok (.getfield 132, 3) := by decide +kernel
theorem d_MMo_looksAtWord_10 : decode b_MMo_looksAtWord 10 = .ok (.bipush 92, 2) := by decide +kernel
theorem d_MMo_looksAtWord_12 : decode b_MMo_looksAtWord 12 = .ok (.if_icmp .eq 12, 3) := by decide +kernel
theorem d_MMo_looksAtWord_15 : decode b_MMo_looksAtWord 15 = .ok (.aload_n 0, 1) := by decide +kernel
theorem d_MMo_looksAtWord_16 : decode b_MMo_looksAtWord 16 = .ok (.getfield 132, 3) := by decide +kernel
theorem d_MMo_looksAtWord_19 : decode b_MMo_looksAtWord 19 = .ok (.bipush 93, 2) := by decide +kernel
theorem d_MMo_looksAtWord_21 : decode b_MMo_looksAtWord 21 = .ok (.if_icmp .ne 13, 3) := by decide +kernel
theorem d_MMo_looksAtWord_24 : decode b_MMo_looksAtWord 24 = .ok (.aload_n 0, 1) := by decide +kernel
theorem d_MMo_looksAtWord_25 : decode b_MMo_looksAtWord 25 = .ok (.invokevirtual 163, 3) := by decide +kernel
