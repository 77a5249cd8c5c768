theorem d_MMo_looksAtWord_28 : decode b_MMo_looksAtWord 28 = .ok (.iconst 1, 1) := by decide +kernel
theorem d_MMo_looksAtWord_29 : decode b_MMo_looksAtWord 29 = .ok (.iand, 1) := by decide +kernel
theorem d_MMo_looksAtWord_30 : decode b_MMo_looksAtWord 30 = .ok (.iconst 1, 1) := by decide +kernel
theorem d_MMo_looksAtWord_31 : decode b_MMo_looksAtWord 31 = .ok (.if_icmp .eq 17, 3) := by decide +kernel
theorem d_MMo_looksAtWord_34 : decode b_MMo_looksAtWord 34 = .ok (.iload_n 1, 1) := by decide +kernel
theorem d_MMo_looksAtWord_35 : decode b_MMo_looksAtWord 35 = .ok (.iconst 1, 1) := by decide +kernel
theorem d_MMo_looksAtWord_36 : decode b_MMo_looksAtWord 36 = .ok (.if_icmp .le 16, 3) := by decide +kernel
theorem d_MMo_looksAtWord_39 : decode b_MMo_looksAtWord 39 = .ok (.aload_n 0, 1) := by decide +kernel
theorem d_MMo_looksAtWord_40 : decode b_MMo_looksAtWord 40 = .ok (.getfield 152, 3) := by decide +kernel
theorem d_MMo_looksAtWord_43 : decode b_MMo_looksAtWord 43 = .ok (.iload_n 1, 1) := by decide +kernel
theorem d_MMo_looksAtWord_44 : decode b_MMo_looksAtWord 44 = .ok (.irem, 1) := by decide +kernel
theorem d_MMo_looksAtWord_45 : decode b_MMo_looksAtWord 45 = .ok (.ifCond .le 7, 3) := by decide +kernel
theorem d_MMo_looksAtWord_48 : decode b_MMo_looksAtWord 48 = .ok (.iconst 1, 1) := by decide +kernel
theorem d_MMo_looksAtWord_49 : decode b_MMo_looksAtWord 49 = .ok (.goto 4, 3) := by decide +kernel
theorem d_MMo_looksAtWord_52 : decode b_MMo_looksAtWord 52 = .ok (.iconst 0, 1) := by decide +kernel
theorem d_MMo_looksAtWord_53 : decode b_MMo_looksAtWord 53 = .ok (.bipush 6, 2) := by decide +kernel
theorem d_MMo_looksAtWord_55 : decode b_MMo_looksAtWord 55 = .ok (.invokevirtual 128, 3) := by decide +kernel
theorem d_MMo_looksAtWord_58 : decode b_MMo_looksAtWord 58 = .ok (.aload_n 0, 1) := by decide +kernel
theorem d_MMo_looksAtWord_59 : decode b_MMo_looksAtWord 59 = .ok (.iload_n 1, 1) := by decide +kernel
theorem d_MMo_looksAtWord_60 : decode b_MMo_looksAtWord 60 = .ok (.ifCond .le 18, 3) := by decide +kernel
theorem d_MMo_looksAtWord_63 : decode b_MMo_looksAtWord 63 = .ok (.aload_n 0, 1) := by decide +kernel
theorem d_MMo_looksAtWord_64 : decode b_MMo_looksAtWord 64 = .ok (.getfield 152, 3) := by decide +kernel
theorem d_MMo_looksAtWord_67 : decode b_MMo_looksAtWord 67 = .ok (.iload_n 1, 1) := by decide +kernel
theorem d_MMo_looksAtWord_68 : decode b_MMo_looksAtWord 68 = .ok (.invokestatic 53, 3) := by decide +kernel
theorem d_MMo_looksAtWord_71 : decode b_MMo_looksAtWord 71 = .ok (.ifCond .ne 7, 3) := by decide +kernel
theorem d_MMo_looksAtWord_74 : decode b_MMo_looksAtWord 74 = .ok (.iconst 1, 1) := by decide +kernel
theorem d_MMo_looksAtWord_75 : decode b_MMo_looksAtWord 75 = .ok (.goto 4, 3) := by decide +kernel
theorem d_MMo_looksAtWord_78 : decode b_MMo_looksAtWord 78 = .ok (.iconst 0, 1) := by decide +kernel
theorem d_MMo_looksAtWord_79 : decode b_MMo_looksAtWord 79 = .ok (.iconst 5, 1) := by decide +kernel
theorem d_MMo_looksAtWord_80 : decode b_MMo_looksAtWord 80 = .ok (.invokevirtual 128, 3) := by decide +kernel
theorem d_MMo_looksAtWord_83 : decode b_MMo_looksAtWord 83 = .ok (.aload_n 0, 1) := by decide +kernel
theorem d_MMo_looksAtWord_84 : decode b_MMo_looksAtWord 84 = .ok (.getfield 86, 3) := by decide +kernel
theorem d_MMo_looksAtWord_87 : decode b_MMo_looksAtWord 87 = .ok (.ifCond .le 4, 3) := by decide +kernel
theorem d_MMo_looksAtWord_90 : decode b_MMo_looksAtWord 90 = .ok (.return_, 1) := by decide +kernel
theorem d_MMo_looksAtWord_91 : decode b_MMo_looksAtWord 91 = .ok (.aload_n 0, 1) := by decide +kernel
theorem d_MMo_looksAtWord_92 : decode b_MMo_looksAtWord 92 = .ok (.aload_n 0, 1) := by decide +kernel
theorem d_MMo_looksAtWord_93 : decode b_MMo_looksAtWord 93 = .ok (.getfield 132, 3) := by decide +kernel
theorem d_MMo_looksAtWord_96 : decode b_MMo_looksAtWord 96 = .ok (.bipush 79, 2) := by decide +kernel
theorem d_MMo_looksAtWord_98 : decode b_MMo_looksAtWord 98 = .ok (.if_icmp .ne 24, 3) := by decide +kernel
theorem d_MMo_looksAtWord_101 : decode b_MMo_looksAtWord 101 = .ok (.aload_n 0, 1) := by decide +kernel
theorem d_MMo_looksAtWord_102 : decode b_MMo_looksAtWord 102 = .ok (.aload_n 0, 1) := by decide +kernel
theorem d_MMo_looksAtWord_103 : decode b_MMo_looksAtWord 103 = .ok (.getfield 152, 3) := by decide +kernel
theorem d_MMo_looksAtWord_106 : decode b_MMo_looksAtWord 106 = .ok (.bipush 8, 2) := by decide +kernel
theorem d_MMo_looksAtWord_108 : decode b_MMo_looksAtWord 108 = .ok (.aload_n 0, 1) := by decide +kernel
theorem d_MMo_looksAtWord_109 : decode b_MMo_looksAtWord 109 = .ok (.getfield 19, 3) := by decide +kernel
theorem d_MMo_looksAtWord_112 : decode b_MMo_looksAtWord 112 = .ok (.invokevirtual 182, 3) := by decide +kernel
theorem d_MMo_looksAtWord_115 : decode b_MMo_looksAtWord 115 = .ok (.ifCond .ne 7, 3) := by decide +kernel
theorem d_MMo_looksAtWord_118 : decode b_MMo_looksAtWord 118 = .ok (.iconst 1, 1) := by decide +kernel
theorem d_MMo_looksAtWord_119 : decode b_MMo_looksAtWord 119 = .ok (.goto 4, 3) := by decide +kernel
theorem d_MMo_looksAtWord_122 : decode b_MMo_looksAtWord 122 = .ok (.iconst 0, 1) := by decide +kernel
theorem d_MMo_looksAtWord_123 : decode b_MMo_looksAtWord 123 = .ok (.bipush 7, 2) := by decide +kernel
theorem d_MMo_looksAtWord_125 : decode b_MMo_looksAtWord 125 = .ok (.invokevirtual 128, 3) := by decide +kernel
theorem d_MMo_looksAtWord_128 : decode b_MMo_looksAtWord 128 = .ok (.aload_n 0, 1) := by decide +kernel
theorem d_MMo_looksAtWord_129 : decode b_MMo_looksAtWord 129 = .ok (.getfield 86, 3) := by decide +kernel
theorem d_MMo_looksAtWord_132 : decode b_MMo_looksAtWord 132 = .ok (.ifCond .le 4, 3) := by decide +kernel
theorem d_MMo_looksAtWord_135 : decode b_MMo_looksAtWord 135 = .ok (.return_, 1) := by decide +kernel
theorem d_MMo_looksAtWord_136 : decode b_MMo_looksAtWord 136 = .ok (.aload_n 0, 1) := by decide +kernel
theorem d_MMo_looksAtWord_137 : decode b_MMo_looksAtWord 137 = .ok (.aload_n 0, 1) := by decide +kernel
theorem d_MMo_looksAtWord_138 : decode b_MMo_looksAtWord 138 = .ok (.getfield 132, 3) := by decide +kernel
theorem d_MMo_looksAtWord_141 : decode b_MMo_looksAtWord 141 = .ok (.bipush 79, 2) := by decide +kernel
theorem d_MMo_looksAtWord_143 : decode b_MMo_looksAtWord 143 = .ok (.if_icmp .ne 32, 3) := by decide +kernel
theorem d_MMo_looksAtWord_146 : decode b_MMo_looksAtWord 146 = .ok (.aload_n 0, 1) := by decide +kernel
theorem d_MMo_looksAtWord_147 : decode b_MMo_looksAtWord 147 = .ok (.getfield 19, 3) := by decide +kernel
theorem d_MMo_looksAtWord_150 : decode b_MMo_looksAtWord 150 = .ok (.aload_n 0, 1) := by decide +kernel
theorem d_MMo_looksAtWord_151 : decode b_MMo_looksAtWord 151 = .ok (.aload_n 0, 1) := by decide +kernel
theorem d_MMo_looksAtWord_152 : decode b_MMo_looksAtWord 152 = .ok (.getfield 152, 3) := by decide +kernel
theorem d_MMo_looksAtWord_155 : decode b_MMo_looksAtWord 155 = .ok (.bipush 8, 2) := by decide +kernel
theorem d_MMo_looksAtWord_157 : decode b_MMo_looksAtWord 157 = .ok (.invokevirtual 186, 3) := by decide +kernel
theorem d_MMo_looksAtWord_160 : decode b_MMo_looksAtWord 160 = .ok (.invokestatic 189, 3) := by decide +kernel
theorem d_MMo_looksAtWord_163 : decode b_MMo_looksAtWord 163 = .ok (.ldc2_w 193, 3) := by decide +kernel
theorem d_MMo_looksAtWord_166 : decode b_MMo_looksAtWord 166 = .ok (.ldc2_w 195, 3) := by decide +kernel
theorem d_MMo_looksAtWord_169 : decode b_MMo_looksAtWord 169 = .ok (.invokestatic 41, 3) := by decide +kernel
theorem d_MMo_looksAtWord_172 : decode b_MMo_looksAtWord 172 = .ok (.ifCond .eq 29, 3) := by decide +kernel
theorem d_MMo_looksAtWord_175 : decode b_MMo_looksAtWord 175 = .ok (.aload_n 0, 1) := by decide +kernel
theorem d_MMo_looksAtWord_176 : decode b_MMo_looksAtWord 176 = .ok (.getfield 132, 3) := by decide +kernel
theorem d_MMo_looksAtWord_179 : decode b_MMo_looksAtWord 179 = .ok (.bipush 93, 2) := by decide +kernel
theorem d_MMo_looksAtWord_181 : decode b_MMo_looksAtWord 181 = .ok (.if_icmp .ne 24, 3) := by decide +kernel
theorem d_MMo_looksAtWord_184 : decode b_MMo_looksAtWord 184 = .ok (.aload_n 0, 1) := by decide +kernel
theorem d_MMo_looksAtWord_185 : decode b_MMo_looksAtWord 185 = .ok (.aload_n 0, 1) := by decide +kernel
theorem d_MMo_looksAtWord_186 : decode b_MMo_looksAtWord 186 = .ok (.aload_n 0, 1) := by decide +kernel
theorem d_MMo_looksAtWord_187 : decode b_MMo_looksAtWord 187 = .ok (.getfield 152, 3) := by decide +kernel
theorem d_MMo_looksAtWord_190 : decode b_MMo_looksAtWord 190 = .ok (.iconst 4, 1) := by decide +kernel
theorem d_MMo_looksAtWord_191 : decode b_MMo_looksAtWord 191 = .ok (.invokevirtual 89, 3) := by decide +kernel
theorem d_MMo_looksAtWord_194 : decode b_MMo_looksAtWord 194 = .ok (.l2i, 1) := by decide +kernel
theorem d_MMo_looksAtWord_195 : decode b_MMo_looksAtWord 195 = .ok (.invokevirtual 166, 3) := by decide +kernel
theorem d_MMo_looksAtWord_198 : decode b_MMo_looksAtWord 198 = .ok (.ifCond .ne 7, 3) := by decide +kernel
theorem d_MMo_looksAtWord_201 : decode b_MMo_looksAtWord 201 = .ok (.iconst 1, 1) := by decide +kernel
theorem d_MMo_looksAtWord_202 : decode b_MMo_looksAtWord 202 = .ok (.goto 4, 3) := by decide +kernel
theorem d_MMo_looksAtWord_205 : decode b_MMo_looksAtWord 205 = .ok (.iconst 0, 1) := by decide +kernel
theorem d_MMo_looksAtWord_206 : decode b_MMo_looksAtWord 206 = .ok (.bipush 9, 2) := by decide +kernel
theorem d_MMo_looksAtWord_208 : decode b_MMo_looksAtWord 208 = .ok (.invokevirtual 128, 3) := by decide +kernel
theorem d_MMo_looksAtWord_211 : decode b_MMo_looksAtWord 211 = .ok (.return_, 1) := by decide +kernel
theorem d_MMo_translates_0 : decode b_MMo_translates 0 = .ok (.iconst 0, 1) := by decide +kernel
theorem d_MMo_translates_1 : decode b_MMo_translates 1 = .ok (.istore_n 2, 1) := by decide +kernel
theorem d_MMo_translates_2 : decode b_MMo_translates 2 = .ok (.iload_n 2, 1) := by decide +kernel
theorem d_MMo_translates_3 : decode b_MMo_translates 3 = .ok (.iload_n 1, 1) := by decide +kernel
theorem d_MMo_translates_4 : decode b_MMo_translates 4 = .ok (.if_icmp .ge 26, 3) := by decide +kernel
theorem d_MMo_translates_7 : decode b_MMo_translates 7 = .ok (.aload_n 0, 1) := by decide +kernel
theorem d_MMo_translates_8 : decode b_MMo_translates 8 = .ok (.getfield 16, 3) := by decide +kernel
theorem d_MMo_translates_11 : decode b_MMo_translates 11 = .ok (.iload_n 2, 1) := by decide +kernel
theorem d_MMo_translates_12 : decode b_MMo_translates 12 = .ok (.aload_n 0, 1) := by decide +kernel
theorem d_MMo_translates_13 : decode b_MMo_translates 13 = .ok (.getfield 7, 3) := by decide +kernel
theorem d_MMo_translates_16 : decode b_MMo_translates 16 = .ok (.aload_n 0, 1) := by decide +kernel
theorem d_MMo_translates_17 : decode b_MMo_translates 17 = .ok (.getfield 149, 3) := by decide +kernel
theorem d_MMo_translates_20 : decode b_MMo_translates 20 = .ok (.iload_n 2, 1) := by decide +kernel
theorem d_MMo_translates_21 : decode b_MMo_translates 21 = .ok (.iadd, 1) := by decide +kernel
theorem d_MMo_translates_22 : decode b_MMo_translates 22 = .ok (.iaload, 1) := by decide +kernel
theorem d_MMo_translates_23 : decode b_MMo_translates 23 = .ok (.iastore, 1) := by decide +kernel
theorem d_MMo_translates_24 : decode b_MMo_translates 24 = .ok (.iinc 2 1, 3) := by decide +kernel
theorem d_MMo_translates_27 : decode b_MMo_translates 27 = .ok (.goto (-25), 3) := by decide +kernel
theorem d_MMo_translates_30 : decode b_MMo_translates 30 = .ok (.iconst 1, 1) := by decide +kernel
theorem d_MMo_translates_31 : decode b_MMo_translates 31 = .ok (.istore_n 2, 1) := by decide +kernel
theorem d_MMo_translates_32 : decode b_MMo_translates 32 = .ok (.iconst 0, 1) := by decide +kernel
theorem d_MMo_translates_33 : decode b_MMo_translates 33 = .ok (.istore_n 3, 1) := by decide +kernel
theorem d_MMo_translates_34 : decode b_MMo_translates 34 = .ok (.iload_n 3, 1) := by decide +kernel
theorem d_MMo_translates_35 : decode b_MMo_translates 35 = .ok (.iload_n 1, 1) := by decide +kernel
theorem d_MMo_translates_36 : decode b_MMo_translates 36 = .ok (.if_icmp .ge 63, 3) := by decide +kernel
theorem d_MMo_translates_39 : decode b_MMo_translates 39 = .ok (.iload_n 2, 1) := by decide +kernel
theorem d_MMo_translates_40 : decode b_MMo_translates 40 = .ok (.ifCond .eq 59, 3) := by decide +kernel
theorem d_MMo_translates_43 : decode b_MMo_translates 43 = .ok (.aload_n 0, 1) := by decide +kernel
theorem d_MMo_translates_44 : decode b_MMo_translates 44 = .ok (.getfield 152, 3) := by decide +kernel
theorem d_MMo_translates_47 : decode b_MMo_translates 47 = .ok (.aload_n 0, 1) := by decide +kernel
theorem d_MMo_translates_48 : decode b_MMo_translates 48 = .ok (.getfield 7, 3) := by decide +kernel
theorem d_MMo_translates_51 : decode b_MMo_translates 51 = .ok (.aload_n 0, 1) := by decide +kernel
theorem d_MMo_translates_52 : decode b_MMo_translates 52 = .ok (.getfield 149, 3) := by decide +kernel
theorem d_MMo_translates_55 : decode b_MMo_translates 55 = .ok (.iload_n 3, 1) := by decide +kernel
theorem d_MMo_translates_56 : decode b_MMo_translates 56 = .ok (.iadd, 1) := by decide +kernel
theorem d_MMo_translates_57 : decode b_MMo_translates 57 = .ok (.iaload, 1) := by decide +kernel
theorem d_MMo_translates_58 : decode b_MMo_translates 58 = .ok (.iadd, 1) := by decide +kernel
theorem d_MMo_translates_59 : decode b_MMo_translates 59 = .ok (.ldc 93, 2) := by decide +kernel
theorem d_MMo_translates_61 : decode b_MMo_translates 61 = .ok (.iand, 1) := by decide +kernel
theorem d_MMo_translates_62 : decode b_MMo_translates 62 = .ok (.istore 4, 2) := by decide +kernel
theorem d_MMo_translates_64 : decode b_MMo_translates 64 = .ok (.iload 4, 2) := by decide +kernel
theorem d_MMo_translates_66 : decode b_MMo_translates 66 = .ok (.iconst 1, 1) := by decide +kernel
theorem d_MMo_translates_67 : decode b_MMo_translates 67 = .ok (.invokestatic 53, 3) := by decide +kernel
theorem d_MMo_translates_70 : decode b_MMo_translates 70 = .ok (.istore_n 2, 1) := by decide +kernel
theorem d_MMo_translates_71 : decode b_MMo_translates 71 = .ok (.iload_n 2, 1) := by decide +kernel
theorem d_MMo_translates_72 : decode b_MMo_translates 72 = .ok (.ifCond .eq 21, 3) := by decide +kernel
theorem d_MMo_translates_75 : decode b_MMo_translates 75 = .ok (.aload_n 0, 1) := by decide +kernel
theorem d_MMo_translates_76 : decode b_MMo_translates 76 = .ok (.getfield 7, 3) := by decide +kernel
theorem d_MMo_translates_79 : decode b_MMo_translates 79 = .ok (.aload_n 0, 1) := by decide +kernel
theorem d_MMo_translates_80 : decode b_MMo_translates 80 = .ok (.getfield 149, 3) := by decide +kernel
theorem d_MMo_translates_83 : decode b_MMo_translates 83 = .ok (.iload_n 3, 1) := by decide +kernel
theorem d_MMo_translates_84 : decode b_MMo_translates 84 = .ok (.iadd, 1) := by decide +kernel
theorem d_MMo_translates_85 : decode b_MMo_translates 85 = .ok (.aload_n 0, 1) := by decide +kernel
theorem d_MMo_translates_86 : decode b_MMo_translates 86 = .ok (.getfield 7, 3) := by decide +kernel
theorem d_MMo_translates_89 : decode b_MMo_translates 89 = .ok (.iload 4, 2) := by decide +kernel
theorem d_MMo_translates_91 : decode b_MMo_translates 91 = .ok (.iaload, 1) := by decide +kernel
theorem d_MMo_translates_92 : decode b_MMo_translates 92 = .ok (.iastore, 1) := by decide +kernel
theorem d_MMo_translates_93 : decode b_MMo_translates 93 = .ok (.iinc 3 1, 3) := by decide +kernel
theorem d_MMo_translates_96 : decode b_MMo_translates 96 = .ok (.goto (-62), 3) := by decide +kernel
theorem d_MMo_translates_99 : decode b_MMo_translates 99 = .ok (.iconst 0, 1) := by decide +kernel
theorem d_MMo_translates_100 : decode b_MMo_translates 100 = .ok (.istore_n 3, 1) := by decide +kernel
theorem d_MMo_translates_101 : decode b_MMo_translates 101 = .ok (.iload_n 3, 1) := by decide +kernel
theorem d_MMo_translates_102 : decode b_MMo_translates 102 = .ok (.iload_n 1, 1) := by decide +kernel
theorem d_MMo_translates_103 : decode b_MMo_translates 103 = .ok (.if_icmp .ge 30, 3) := by decide +kernel
theorem d_MMo_translates_106 : decode b_MMo_translates 106 = .ok (.iload_n 2, 1) := by decide +kernel
theorem d_MMo_translates_107 : decode b_MMo_translates 107 = .ok (.ifCond .ne 26, 3) := by decide +kernel
theorem d_MMo_translates_110 : decode b_MMo_translates 110 = .ok (.aload_n 0, 1) := by decide +kernel
theorem d_MMo_translates_111 : decode b_MMo_translates 111 = .ok (.getfield 7, 3) := by decide +kernel
theorem d_MMo_translates_114 : decode b_MMo_translates 114 = .ok (.aload_n 0, 1) := by decide +kernel
theorem d_MMo_translates_115 : decode b_MMo_translates 115 = .ok (.getfield 149, 3) := by decide +kernel
theorem d_MMo_translates_118 : decode b_MMo_translates 118 = .ok (.iload_n 3, 1) := by decide +kernel
theorem d_MMo_translates_119 : decode b_MMo_translates 119 = .ok (.iadd, 1) := by decide +kernel
theorem d_MMo_translates_120 : decode b_MMo_translates 120 = .ok (.aload_n 0, 1) := by decide +kernel
theorem d_MMo_translates_121 : decode b_MMo_translates 121 = .ok (.getfield 16, 3) := by decide +kernel
theorem d_MMo_translates_124 : decode b_MMo_translates 124 = .ok (.iload_n 3, 1) := by decide +kernel
theorem d_MMo_translates_125 : decode b_MMo_translates 125 = .ok (.iaload, 1) := by decide +kernel
theorem d_MMo_translates_126 : decode b_MMo_translates 126 = .ok (.iastore, 1) := by decide +kernel
theorem d_MMo_translates_127 : decode b_MMo_translates 127 = .ok (.iinc 3 1, 3) := by decide +kernel
theorem d_MMo_translates_130 : decode b_MMo_translates 130 = .ok (.goto (-29), 3) := by decide +kernel
theorem d_MMo_translates_133 : decode b_MMo_translates 133 = .ok (.iload_n 2, 1) := by decide +kernel
theorem d_MMo_translates_134 : decode b_MMo_translates 134 = .ok (.ireturn, 1) := by decide +kernel
theorem d_MMo_isZero_0 : decode b_MMo_isZero 0 = .ok (.iconst 0, 1) := by decide +kernel
theorem d_MMo_isZero_1 : decode b_MMo_isZero 1 = .ok (.istore_n 1, 1) := by decide +kernel
theorem d_MMo_isZero_2 : decode b_MMo_isZero 2 = .ok (.iload_n 1, 1) := by decide +kernel
theorem d_MMo_isZero_3 : decode b_MMo_isZero 3 = .ok (.bipush 32, 2) := by decide +kernel
theorem d_MMo_isZero_5 : decode b_MMo_isZero 5 = .ok (.if_icmp .ge 17, 3) := by decide +kernel
theorem d_MMo_isZero_8 : decode b_MMo_isZero 8 = .ok (.aload_n 0, 1) := by decide +kernel
theorem d_MMo_isZero_9 : decode b_MMo_isZero 9 = .ok (.iload_n 1, 1) := by decide +kernel
theorem d_MMo_isZero_10 : decode b_MMo_isZero 10 = .ok (.iaload, 1) := by decide +kernel
theorem d_MMo_isZero_11 : decode b_MMo_isZero 11 = .ok (.ifCond .eq 5, 3) := by decide +kernel
theorem d_MMo_isZero_14 : decode b_MMo_isZero 14 = .ok (.iconst 0, 1) := by decide +kernel
theorem d_MMo_isZero_15 : decode b_MMo_isZero 15 = .ok (.ireturn, 1) := by decide +kernel
theorem d_MMo_isZero_16 : decode b_MMo_isZero 16 = .ok (.iinc 1 1, 3) := by decide +kernel
theorem d_MMo_isZero_19 : decode b_MMo_isZero 19 = .ok (.goto (-17), 3) := by decide +kernel
theorem d_MMo_isZero_22 : decode b_MMo_isZero 22 = .ok (.iconst 1, 1) := by decide +kernel
theorem d_MMo_isZero_23 : decode b_MMo_isZero 23 = .ok (.ireturn, 1) := by decide +kernel
theorem d_MMo_notBelow_0 : decode b_MMo_notBelow 0 = .ok (.bipush 31, 2) := by decide +kernel
theorem d_MMo_notBelow_2 : decode b_MMo_notBelow 2 = .ok (.istore_n 1, 1) := by decide +kernel
theorem d_MMo_notBelow_3 : decode b_MMo_notBelow 3 = .ok (.iload_n 1, 1) := by decide +kernel
theorem d_MMo_notBelow_4 : decode b_MMo_notBelow 4 = .ok (.ifCond .lt 45, 3) := by decide +kernel
theorem d_MMo_notBelow_7 : decode b_MMo_notBelow 7 = .ok (.aload_n 0, 1) := by decide +kernel
theorem d_MMo_notBelow_8 : decode b_MMo_notBelow 8 = .ok (.getfield 28, 3) := by decide +kernel
theorem d_MMo_notBelow_11 : decode b_MMo_notBelow 11 = .ok (.iload_n 1, 1) := by decide +kernel
theorem d_MMo_notBelow_12 : decode b_MMo_notBelow 12 = .ok (.iaload, 1) := by decide +kernel
theorem d_MMo_notBelow_13 : decode b_MMo_notBelow 13 = .ok (.aload_n 0, 1) := by decide +kernel
theorem d_MMo_notBelow_14 : decode b_MMo_notBelow 14 = .ok (.getfield 31, 3) := by decide +kernel
theorem d_MMo_notBelow_17 : decode b_MMo_notBelow 17 = .ok (.iload_n 1, 1) := by decide +kernel
theorem d_MMo_notBelow_18 : decode b_MMo_notBelow 18 = .ok (.iaload, 1) := by decide +kernel
theorem d_MMo_notBelow_19 : decode b_MMo_notBelow 19 = .ok (.if_icmp .eq 24, 3) := by decide +kernel
theorem d_MMo_notBelow_22 : decode b_MMo_notBelow 22 = .ok (.aload_n 0, 1) := by decide +kernel
theorem d_MMo_notBelow_23 : decode b_MMo_notBelow 23 = .ok (.getfield 28, 3) := by decide +kernel
theorem d_MMo_notBelow_26 : decode b_MMo_notBelow 26 = .ok (.iload_n 1, 1) := by decide +kernel
theorem d_MMo_notBelow_27 : decode b_MMo_notBelow 27 = .ok (.iaload, 1) := by decide +kernel
theorem d_MMo_notBelow_28 : decode b_MMo_notBelow 28 = .ok (.aload_n 0, 1) := by decide +kernel
theorem d_MMo_notBelow_29 : decode b_MMo_notBelow 29 = .ok (.getfield 31, 3) := by decide +kernel
theorem d_MMo_notBelow_32 : decode b_MMo_notBelow 32 = .ok (.iload_n 1, 1) := by decide +kernel
theorem d_MMo_notBelow_33 : decode b_MMo_notBelow 33 = .ok (.iaload, 1) := by decide +kernel
theorem d_MMo_notBelow_34 : decode b_MMo_notBelow 34 = .ok (.if_icmp .le 7, 3) := by decide +kernel
theorem d_MMo_notBelow_37 : decode b_MMo_notBelow 37 = .ok (.iconst 1, 1) := by decide +kernel
theorem d_MMo_notBelow_38 : decode b_MMo_notBelow 38 = .ok (.goto 4, 3) := by decide +kernel
theorem d_MMo_notBelow_41 : decode b_MMo_notBelow 41 = .ok (.iconst 0, 1) := by decide +kernel
theorem d_MMo_notBelow_42 : decode b_MMo_notBelow 42 = .ok (.ireturn, 1) := by decide +kernel
theorem d_MMo_notBelow_43 : decode b_MMo_notBelow 43 = .ok (.iinc 1 (-1), 3) := by decide +kernel
theorem d_MMo_notBelow_46 : decode b_MMo_notBelow 46 = .ok (.goto (-43), 3) := by decide +kernel
theorem d_MMo_notBelow_49 : decode b_MMo_notBelow 49 = .ok (.iconst 1, 1) := by decide +kernel
theorem d_MMo_notBelow_50 : decode b_MMo_notBelow 50 = .ok (.ireturn, 1) := by decide +kernel
theorem d_MMo_adds_0 : decode b_MMo_adds 0 = .ok (.iconst 0, 1) := by decide +kernel
theorem d_MMo_adds_1 : decode b_MMo_adds 1 = .ok (.istore 5, 2) := by decide +kernel
theorem d_MMo_adds_3 : decode b_MMo_adds 3 = .ok (.iconst 0, 1) := by decide +kernel
theorem d_MMo_adds_4 : decode b_MMo_adds 4 = .ok (.istore 6, 2) := by decide +kernel
theorem d_MMo_adds_6 : decode b_MMo_adds 6 = .ok (.iload 6, 2) := by decide +kernel
theorem d_MMo_adds_8 : decode b_MMo_adds 8 = .ok (.bipush 32, 2) := by decide +kernel
theorem d_MMo_adds_10 : decode b_MMo_adds 10 = .ok (.if_icmp .ge 73, 3) := by decide +kernel
theorem d_MMo_adds_13 : decode b_MMo_adds 13 = .ok (.aload_n 1, 1) := by decide +kernel
theorem d_MMo_adds_14 : decode b_MMo_adds 14 = .ok (.iload 6, 2) := by decide +kernel
theorem d_MMo_adds_16 : decode b_MMo_adds 16 = .ok (.iaload, 1) := by decide +kernel
theorem d_MMo_adds_17 : decode b_MMo_adds 17 = .ok (.iload 6, 2) := by decide +kernel
theorem d_MMo_adds_19 : decode b_MMo_adds 19 = .ok (.iload 4, 2) := by decide +kernel
theorem d_MMo_adds_21 : decode b_MMo_adds 21 = .ok (.if_icmp .lt 15, 3) := by decide +kernel
theorem d_MMo_adds_24 : decode b_MMo_adds 24 = .ok (.iload_n 3, 1) := by decide +kernel
theorem d_MMo_adds_25 : decode b_MMo_adds 25 = .ok (.aload_n 2, 1) := by decide +kernel
theorem d_MMo_adds_26 : decode b_MMo_adds 26 = .ok (.iload 6, 2) := by decide +kernel
theorem d_MMo_adds_28 : decode b_MMo_adds 28 = .ok (.iload 4, 2) := by decide +kernel
theorem d_MMo_adds_30 : decode b_MMo_adds 30 = .ok (.isub, 1) := by decide +kernel
theorem d_MMo_adds_31 : decode b_MMo_adds 31 = .ok (.iaload, 1) := by decide +kernel
theorem d_MMo_adds_32 : decode b_MMo_adds 32 = .ok (.imul, 1) := by decide +kernel
theorem d_MMo_adds_33 : decode b_MMo_adds 33 = .ok (.goto 4, 3) := by decide +kernel
theorem d_MMo_adds_36 : decode b_MMo_adds 36 = .ok (.iconst 0, 1) := by decide +kernel
theorem d_MMo_adds_37 : decode b_MMo_adds 37 = .ok (.iadd, 1) := by decide +kernel
theorem d_MMo_adds_38 : decode b_MMo_adds 38 = .ok (.iload 5, 2) := by decide +kernel
theorem d_MMo_adds_40 : decode b_MMo_adds 40 = .ok (.iadd, 1) := by decide +kernel
theorem d_MMo_adds_41 : decode b_MMo_adds 41 = .ok (.istore 7, 2) := by decide +kernel
theorem d_MMo_adds_43 : decode b_MMo_adds 43 = .ok (.iload 7, 2) := by decide +kernel
theorem d_MMo_adds_45 : decode b_MMo_adds 45 = .ok (.bipush 10, 2) := by decide +kernel
theorem d_MMo_adds_47 : decode b_MMo_adds 47 = .ok (.idiv, 1) := by decide +kernel
theorem d_MMo_adds_48 : decode b_MMo_adds 48 = .ok (.istore 5, 2) := by decide +kernel
theorem d_MMo_adds_50 : decode b_MMo_adds 50 = .ok (.iload 7, 2) := by decide +kernel
theorem d_MMo_adds_52 : decode b_MMo_adds 52 = .ok (.bipush 10, 2) := by decide +kernel
theorem d_MMo_adds_54 : decode b_MMo_adds 54 = .ok (.iload 5, 2) := by decide +kernel
theorem d_MMo_adds_56 : decode b_MMo_adds 56 = .ok (.imul, 1) := by decide +kernel
theorem d_MMo_adds_57 : decode b_MMo_adds 57 = .ok (.isub, 1) := by decide +kernel
theorem d_MMo_adds_58 : decode b_MMo_adds 58 = .ok (.istore 7, 2) := by decide +kernel
theorem d_MMo_adds_60 : decode b_MMo_adds 60 = .ok (.iload 7, 2) := by decide +kernel
theorem d_MMo_adds_62 : decode b_MMo_adds 62 = .ok (.ifCond .ge 9, 3) := by decide +kernel
theorem d_MMo_adds_65 : decode b_MMo_adds 65 = .ok (.iinc 7 10, 3) := by decide +kernel
theorem d_MMo_adds_68 : decode b_MMo_adds 68 = .ok (.iinc 5 (-1), 3) := by decide +kernel
theorem d_MMo_adds_71 : decode b_MMo_adds 71 = .ok (.aload_n 0, 1) := by decide +kernel
theorem d_MMo_adds_72 : decode b_MMo_adds 72 = .ok (.iload 6, 2) := by decide +kernel
theorem d_MMo_adds_74 : decode b_MMo_adds 74 = .ok (.iload 7, 2) := by decide +kernel
theorem d_MMo_adds_76 : decode b_MMo_adds 76 = .ok (.iastore, 1) := by decide +kernel
theorem d_MMo_adds_77 : decode b_MMo_adds 77 = .ok (.iinc 6 1, 3) := by decide +kernel
theorem d_MMo_adds_80 : decode b_MMo_adds 80 = .ok (.goto (-74), 3) := by decide +kernel
theorem d_MMo_adds_83 : decode b_MMo_adds 83 = .ok (.return_, 1) := by decide +kernel
theorem d_MMo_quotient_0 : decode b_MMo_quotient 0 = .ok (.iconst 0, 1) := by decide +kernel
theorem d_MMo_quotient_1 : decode b_MMo_quotient 1 = .ok (.istore_n 2, 1) := by decide +kernel
theorem d_MMo_quotient_2 : decode b_MMo_quotient 2 = .ok (.iload_n 2, 1) := by decide +kernel
theorem d_MMo_quotient_3 : decode b_MMo_quotient 3 = .ok (.bipush 32, 2) := by decide +kernel
theorem d_MMo_quotient_5 : decode b_MMo_quotient 5 = .ok (.if_icmp .ge 28, 3) := by decide +kernel
theorem d_MMo_quotient_8 : decode b_MMo_quotient 8 = .ok (.aload_n 0, 1) := by decide +kernel
theorem d_MMo_quotient_9 : decode b_MMo_quotient 9 = .ok (.getfield 28, 3) := by decide +kernel
theorem d_MMo_quotient_12 : decode b_MMo_quotient 12 = .ok (.iload_n 2, 1) := by decide +kernel
theorem d_MMo_quotient_13 : decode b_MMo_quotient 13 = .ok (.aload_n 0, 1) := by decide +kernel
theorem d_MMo_quotient_14 : decode b_MMo_quotient 14 = .ok (.getfield 19, 3) := by decide +kernel
theorem d_MMo_quotient_17 : decode b_MMo_quotient 17 = .ok (.iload_n 2, 1) := by decide +kernel
theorem d_MMo_quotient_18 : decode b_MMo_quotient 18 = .ok (.iaload, 1) := by decide +kernel
theorem d_MMo_quotient_19 : decode b_MMo_quotient 19 = .ok (.iastore, 1) := by decide +kernel
theorem d_MMo_quotient_20 : decode b_MMo_quotient 20 = .ok (.aload_n 0, 1) := by decide +kernel
theorem d_MMo_quotient_21 : decode b_MMo_quotient 21 = .ok (.getfield 25, 3) := by decide +kernel
theorem d_MMo_quotient_24 : decode b_MMo_quotient 24 = .ok (.iload_n 2, 1) := by decide +kernel
theorem d_MMo_quotient_25 : decode b_MMo_quotient 25 = .ok (.iconst 0, 1) := by decide +kernel
theorem d_MMo_quotient_26 : decode b_MMo_quotient 26 = .ok (.iastore, 1) := by decide +kernel
theorem d_MMo_quotient_27 : decode b_MMo_quotient 27 = .ok (.iinc 2 1, 3) := by decide +kernel
theorem d_MMo_quotient_30 : decode b_MMo_quotient 30 = .ok (.goto (-28), 3) := by decide +kernel
theorem d_MMo_quotient_33 : decode b_MMo_quotient 33 = .ok (.iconst 1, 1) := by decide +kernel
theorem d_MMo_quotient_34 : decode b_MMo_quotient 34 = .ok (.istore_n 2, 1) := by decide +kernel
theorem d_MMo_quotient_35 : decode b_MMo_quotient 35 = .ok (.bipush 15, 2) := by decide +kernel
theorem d_MMo_quotient_37 : decode b_MMo_quotient 37 = .ok (.istore_n 3, 1) := by decide +kernel
theorem d_MMo_quotient_38 : decode b_MMo_quotient 38 = .ok (.iload_n 3, 1) := by decide +kernel
theorem d_MMo_quotient_39 : decode b_MMo_quotient 39 = .ok (.ifCond .lt 122, 3) := by decide +kernel
theorem d_MMo_quotient_42 : decode b_MMo_quotient 42 = .ok (.iconst 1, 1) := by decide +kernel
theorem d_MMo_quotient_43 : decode b_MMo_quotient 43 = .ok (.istore 4, 2) := by decide +kernel
theorem d_MMo_quotient_45 : decode b_MMo_quotient 45 = .ok (.iload 4, 2) := by decide +kernel
theorem d_MMo_quotient_47 : decode b_MMo_quotient 47 = .ok (.ifCond .eq 86, 3) := by decide +kernel
theorem d_MMo_quotient_50 : decode b_MMo_quotient 50 = .ok (.iconst 0, 1) := by decide +kernel
theorem d_MMo_quotient_51 : decode b_MMo_quotient 51 = .ok (.istore 5, 2) := by decide +kernel
theorem d_MMo_quotient_53 : decode b_MMo_quotient 53 = .ok (.iload 5, 2) := by decide +kernel
theorem d_MMo_quotient_55 : decode b_MMo_quotient 55 = .ok (.bipush 32, 2) := by decide +kernel
theorem d_MMo_quotient_57 : decode b_MMo_quotient 57 = .ok (.if_icmp .ge 35, 3) := by decide +kernel
theorem d_MMo_quotient_60 : decode b_MMo_quotient 60 = .ok (.aload_n 0, 1) := by decide +kernel
theorem d_MMo_quotient_61 : decode b_MMo_quotient 61 = .ok (.getfield 31, 3) := by decide +kernel
theorem d_MMo_quotient_64 : decode b_MMo_quotient 64 = .ok (.iload 5, 2) := by decide +kernel
theorem d_MMo_quotient_66 : decode b_MMo_quotient 66 = .ok (.iload 5, 2) := by decide +kernel
theorem d_MMo_quotient_68 : decode b_MMo_quotient 68 = .ok (.iload_n 3, 1) := by decide +kernel
theorem d_MMo_quotient_69 : decode b_MMo_quotient 69 = .ok (.if_icmp .lt 15, 3) := by decide +kernel
theorem d_MMo_quotient_72 : decode b_MMo_quotient 72 = .ok (.aload_n 0, 1) := by decide +kernel
theorem d_MMo_quotient_73 : decode b_MMo_quotient 73 = .ok (.getfield 22, 3) := by decide +kernel
theorem d_MMo_quotient_76 : decode b_MMo_quotient 76 = .ok (.iload 5, 2) := by decide +kernel
theorem d_MMo_quotient_78 : decode b_MMo_quotient 78 = .ok (.iload_n 3, 1) := by decide +kernel
theorem d_MMo_quotient_79 : decode b_MMo_quotient 79 = .ok (.isub, 1) := by decide +kernel
theorem d_MMo_quotient_80 : decode b_MMo_quotient 80 = .ok (.iaload, 1) := by decide +kernel
theorem d_MMo_quotient_81 : decode b_MMo_quotient 81 = .ok (.goto 4, 3) := by decide +kernel
theorem d_MMo_quotient_84 : decode b_MMo_quotient 84 = .ok (.iconst 0, 1) := by decide +kernel
theorem d_MMo_quotient_85 : decode b_MMo_quotient 85 = .ok (.iastore, 1) := by decide +kernel
theorem d_MMo_quotient_86 : decode b_MMo_quotient 86 = .ok (.iinc 5 1, 3) := by decide +kernel
theorem d_MMo_quotient_89 : decode b_MMo_quotient 89 = .ok (.goto (-36), 3) := by decide +kernel
theorem d_MMo_quotient_92 : decode b_MMo_quotient 92 = .ok (.aload_n 0, 1) := by decide +kernel
theorem d_MMo_quotient_93 : decode b_MMo_quotient 93 = .ok (.invokevirtual 208, 3) := by decide +kernel
theorem d_MMo_quotient_96 : decode b_MMo_quotient 96 = .ok (.istore 4, 2) := by decide +kernel
theorem d_MMo_quotient_98 : decode b_MMo_quotient 98 = .ok (.iload 4, 2) := by decide +kernel
theorem d_MMo_quotient_100 : decode b_MMo_quotient 100 = .ok (.ifCond .eq (-55), 3) := by decide +kernel
theorem d_MMo_quotient_103 : decode b_MMo_quotient 103 = .ok (.aload_n 0, 1) := by decide +kernel
theorem d_MMo_quotient_104 : decode b_MMo_quotient 104 = .ok (.getfield 28, 3) := by decide +kernel
theorem d_MMo_quotient_107 : decode b_MMo_quotient 107 = .ok (.aload_n 0, 1) := by decide +kernel
theorem d_MMo_quotient_108 : decode b_MMo_quotient 108 = .ok (.getfield 28, 3) := by decide +kernel
theorem d_MMo_quotient_111 : decode b_MMo_quotient 111 = .ok (.aload_n 0, 1) := by decide +kernel
theorem d_MMo_quotient_112 : decode b_MMo_quotient 112 = .ok (.getfield 22, 3) := by decide +kernel
theorem d_MMo_quotient_115 : decode b_MMo_quotient 115 = .ok (.iconst (-1), 1) := by decide +kernel
theorem d_MMo_quotient_116 : decode b_MMo_quotient 116 = .ok (.iload_n 3, 1) := by decide +kernel
theorem d_MMo_quotient_117 : decode b_MMo_quotient 117 = .ok (.invokestatic 212, 3) := by decide +kernel
theorem d_MMo_quotient_120 : decode b_MMo_quotient 120 = .ok (.aload_n 0, 1) := by decide +kernel
theorem d_MMo_quotient_121 : decode b_MMo_quotient 121 = .ok (.getfield 25, 3) := by decide +kernel
theorem d_MMo_quotient_124 : decode b_MMo_quotient 124 = .ok (.iload_n 3, 1) := by decide +kernel
theorem d_MMo_quotient_125 : decode b_MMo_quotient 125 = .ok (.dup2, 1) := by decide +kernel
theorem d_MMo_quotient_126 : decode b_MMo_quotient 126 = .ok (.iaload, 1) := by decide +kernel
theorem d_MMo_quotient_127 : decode b_MMo_quotient 127 = .ok (.iconst 1, 1) := by decide +kernel
theorem d_MMo_quotient_128 : decode b_MMo_quotient 128 = .ok (.iadd, 1) := by decide +kernel
theorem d_MMo_quotient_129 : decode b_MMo_quotient 129 = .ok (.iastore, 1) := by decide +kernel
theorem d_MMo_quotient_130 : decode b_MMo_quotient 130 = .ok (.goto (-85), 3) := by decide +kernel
theorem d_MMo_quotient_133 : decode b_MMo_quotient 133 = .ok (.iload_n 2, 1) := by decide +kernel
theorem d_MMo_quotient_134 : decode b_MMo_quotient 134 = .ok (.aload_n 0, 1) := by decide +kernel
theorem d_MMo_quotient_135 : decode b_MMo_quotient 135 = .ok (.getfield 25, 3) := by decide +kernel
theorem d_MMo_quotient_138 : decode b_MMo_quotient 138 = .ok (.iload_n 3, 1) := by decide +kernel
theorem d_MMo_quotient_139 : decode b_MMo_quotient 139 = .ok (.iaload, 1) := by decide +kernel
theorem d_MMo_quotient_140 : decode b_MMo_quotient 140 = .ok (.ifCond .eq 8, 3) := by decide +kernel
theorem d_MMo_quotient_143 : decode b_MMo_quotient 143 = .ok (.iload_n 3, 1) := by decide +kernel
theorem d_MMo_quotient_144 : decode b_MMo_quotient 144 = .ok (.iload_n 1, 1) := by decide +kernel
theorem d_MMo_quotient_145 : decode b_MMo_quotient 145 = .ok (.if_icmp .ge 7, 3) := by decide +kernel
theorem d_MMo_quotient_148 : decode b_MMo_quotient 148 = .ok (.iconst 1, 1) := by decide +kernel
theorem d_MMo_quotient_149 : decode b_MMo_quotient 149 = .ok (.goto 4, 3) := by decide +kernel
theorem d_MMo_quotient_152 : decode b_MMo_quotient 152 = .ok (.iconst 0, 1) := by decide +kernel
theorem d_MMo_quotient_153 : decode b_MMo_quotient 153 = .ok (.iand, 1) := by decide +kernel
theorem d_MMo_quotient_154 : decode b_MMo_quotient 154 = .ok (.istore_n 2, 1) := by decide +kernel
theorem d_MMo_quotient_155 : decode b_MMo_quotient 155 = .ok (.iinc 3 (-1), 3) := by decide +kernel
theorem d_MMo_quotient_158 : decode b_MMo_quotient 158 = .ok (.goto (-120), 3) := by decide +kernel
theorem d_MMo_quotient_161 : decode b_MMo_quotient 161 = .ok (.iload_n 2, 1) := by decide +kernel
theorem d_MMo_quotient_162 : decode b_MMo_quotient 162 = .ok (.ireturn, 1) := by decide +kernel
theorem d_MMo_looksAtDigits_0 : decode b_MMo_looksAtDigits 0 = .ok (.aload_n 0, 1) := by decide +kernel
theorem d_MMo_looksAtDigits_1 : decode b_MMo_looksAtDigits 1 = .ok (.getfield 132, 3) := by decide +kernel
theorem d_MMo_looksAtDigits_4 : decode b_MMo_looksAtDigits 4 = .ok (.sipush 248, 3) := by decide +kernel
theorem d_MMo_looksAtDigits_7 : decode b_MMo_looksAtDigits 7 = .ok (.if_icmp .eq 19, 3) := by decide +kernel
theorem d_MMo_looksAtDigits_10 : decode b_MMo_looksAtDigits 10 = .ok (.aload_n 0, 1) := by decide +kernel
theorem d_MMo_looksAtDigits_11 : decode b_MMo_looksAtDigits 11 = .ok (.aload_n 0, 1) := by decide +kernel
theorem d_MMo_looksAtDigits_12 : decode b_MMo_looksAtDigits 12 = .ok (.getfield 149, 3) := by decide +kernel
theorem d_MMo_looksAtDigits_15 : decode b_MMo_looksAtDigits 15 = .ok (.iload_n 1, 1) := by decide +kernel
theorem d_MMo_looksAtDigits_16 : decode b_MMo_looksAtDigits 16 = .ok (.aload_n 0, 1) := by decide +kernel
theorem d_MMo_looksAtDigits_17 : decode b_MMo_looksAtDigits 17 = .ok (.getfield 19, 3) := by decide +kernel
theorem d_MMo_looksAtDigits_20 : decode b_MMo_looksAtDigits 20 = .ok (.invokevirtual 182, 3) := by decide +kernel
theorem d_MMo_looksAtDigits_23 : decode b_MMo_looksAtDigits 23 = .ok (.ifCond .eq 7, 3) := by decide +kernel
theorem d_MMo_looksAtDigits_26 : decode b_MMo_looksAtDigits 26 = .ok (.iconst 1, 1) := by decide +kernel
theorem d_MMo_looksAtDigits_27 : decode b_MMo_looksAtDigits 27 = .ok (.goto 4, 3) := by decide +kernel
theorem d_MMo_looksAtDigits_30 : decode b_MMo_looksAtDigits 30 = .ok (.iconst 0, 1) := by decide +kernel
theorem d_MMo_looksAtDigits_31 : decode b_MMo_looksAtDigits 31 = .ok (.istore_n 3, 1) := by decide +kernel
theorem d_MMo_looksAtDigits_32 : decode b_MMo_looksAtDigits 32 = .ok (.aload_n 0, 1) := by decide +kernel
theorem d_MMo_looksAtDigits_33 : decode b_MMo_looksAtDigits 33 = .ok (.aload_n 0, 1) := by decide +kernel
theorem d_MMo_looksAtDigits_34 : decode b_MMo_looksAtDigits 34 = .ok (.getfield 152, 3) := by decide +kernel
theorem d_MMo_looksAtDigits_37 : decode b_MMo_looksAtDigits 37 = .ok (.iload_n 2, 1) := by decide +kernel
theorem d_MMo_looksAtDigits_38 : decode b_MMo_looksAtDigits 38 = .ok (.aload_n 0, 1) := by decide +kernel
theorem d_MMo_looksAtDigits_39 : decode b_MMo_looksAtDigits 39 = .ok (.getfield 22, 3) := by decide +kernel
theorem d_MMo_looksAtDigits_42 : decode b_MMo_looksAtDigits 42 = .ok (.invokevirtual 182, 3) := by decide +kernel
theorem d_MMo_looksAtDigits_45 : decode b_MMo_looksAtDigits 45 = .ok (.istore 4, 2) := by decide +kernel
theorem d_MMo_looksAtDigits_47 : decode b_MMo_looksAtDigits 47 = .ok (.aload_n 0, 1) := by decide +kernel
theorem d_MMo_looksAtDigits_48 : decode b_MMo_looksAtDigits 48 = .ok (.iload_n 3, 1) := by decide +kernel
theorem d_MMo_looksAtDigits_49 : decode b_MMo_looksAtDigits 49 = .ok (.ifCond .eq 8, 3) := by decide +kernel
theorem d_MMo_looksAtDigits_52 : decode b_MMo_looksAtDigits 52 = .ok (.iload 4, 2) := by decide +kernel
theorem d_MMo_looksAtDigits_54 : decode b_MMo_looksAtDigits 54 = .ok (.ifCond .ne 7, 3) := by decide +kernel
theorem d_MMo_looksAtDigits_57 : decode b_MMo_looksAtDigits 57 = .ok (.iconst 1, 1) := by decide +kernel
theorem d_MMo_looksAtDigits_58 : decode b_MMo_looksAtDigits 58 = .ok (.goto 4, 3) := by decide +kernel
theorem d_MMo_looksAtDigits_61 : decode b_MMo_looksAtDigits 61 = .ok (.iconst 0, 1) := by decide +kernel
theorem d_MMo_looksAtDigits_62 : decode b_MMo_looksAtDigits 62 = .ok (.bipush 7, 2) := by decide +kernel
theorem d_MMo_looksAtDigits_64 : decode b_MMo_looksAtDigits 64 = .ok (.invokevirtual 128, 3) := by decide +kernel
theorem d_MMo_looksAtDigits_67 : decode b_MMo_looksAtDigits 67 = .ok (.iconst 0, 1) := by decide +kernel
theorem d_MMo_looksAtDigits_68 : decode b_MMo_looksAtDigits 68 = .ok (.istore 5, 2) := by decide +kernel
theorem d_MMo_looksAtDigits_70 : decode b_MMo_looksAtDigits 70 = .ok (.iload 5, 2) := by decide +kernel
theorem d_MMo_looksAtDigits_72 : decode b_MMo_looksAtDigits 72 = .ok (.iload_n 2, 1) := by decide +kernel
theorem d_MMo_looksAtDigits_73 : decode b_MMo_looksAtDigits 73 = .ok (.if_icmp .ge 45, 3) := by decide +kernel
theorem d_MMo_looksAtDigits_76 : decode b_MMo_looksAtDigits 76 = .ok (.aload_n 0, 1) := by decide +kernel
theorem d_MMo_looksAtDigits_77 : decode b_MMo_looksAtDigits 77 = .ok (.getfield 132, 3) := by decide +kernel
theorem d_MMo_looksAtDigits_80 : decode b_MMo_looksAtDigits 80 = .ok (.sipush 252, 3) := by decide +kernel
theorem d_MMo_looksAtDigits_83 : decode b_MMo_looksAtDigits 83 = .ok (.if_icmp .ne 35, 3) := by decide +kernel
theorem d_MMo_looksAtDigits_86 : decode b_MMo_looksAtDigits 86 = .ok (.aload_n 0, 1) := by decide +kernel
theorem d_MMo_looksAtDigits_87 : decode b_MMo_looksAtDigits 87 = .ok (.aload_n 0, 1) := by decide +kernel
theorem d_MMo_looksAtDigits_88 : decode b_MMo_looksAtDigits 88 = .ok (.getfield 7, 3) := by decide +kernel
theorem d_MMo_looksAtDigits_91 : decode b_MMo_looksAtDigits 91 = .ok (.aload_n 0, 1) := by decide +kernel
theorem d_MMo_looksAtDigits_92 : decode b_MMo_looksAtDigits 92 = .ok (.getfield 149, 3) := by decide +kernel
theorem d_MMo_looksAtDigits_95 : decode b_MMo_looksAtDigits 95 = .ok (.iload 5, 2) := by decide +kernel
theorem d_MMo_looksAtDigits_97 : decode b_MMo_looksAtDigits 97 = .ok (.iadd, 1) := by decide +kernel
theorem d_MMo_looksAtDigits_98 : decode b_MMo_looksAtDigits 98 = .ok (.iaload, 1) := by decide +kernel
theorem d_MMo_looksAtDigits_99 : decode b_MMo_looksAtDigits 99 = .ok (.ifCond .eq 7, 3) := by decide +kernel
theorem d_MMo_looksAtDigits_102 : decode b_MMo_looksAtDigits 102 = .ok (.iconst 1, 1) := by decide +kernel
theorem d_MMo_looksAtDigits_103 : decode b_MMo_looksAtDigits 103 = .ok (.goto 4, 3) := by decide +kernel
theorem d_MMo_looksAtDigits_106 : decode b_MMo_looksAtDigits 106 = .ok (.iconst 0, 1) := by decide +kernel
theorem d_MMo_looksAtDigits_107 : decode b_MMo_looksAtDigits 107 = .ok (.bipush 7, 2) := by decide +kernel
theorem d_MMo_looksAtDigits_109 : decode b_MMo_looksAtDigits 109 = .ok (.invokevirtual 128, 3) := by decide +kernel
theorem d_MMo_looksAtDigits_112 : decode b_MMo_looksAtDigits 112 = .ok (.iinc 5 1, 3) := by decide +kernel
theorem d_MMo_looksAtDigits_115 : decode b_MMo_looksAtDigits 115 = .ok (.goto (-45), 3) := by decide +kernel
theorem d_MMo_looksAtDigits_118 : decode b_MMo_looksAtDigits 118 = .ok (.aload_n 0, 1) := by decide +kernel
theorem d_MMo_looksAtDigits_119 : decode b_MMo_looksAtDigits 119 = .ok (.getfield 132, 3) := by decide +kernel
theorem d_MMo_looksAtDigits_122 : decode b_MMo_looksAtDigits 122 = .ok (.sipush 253, 3) := by decide +kernel
theorem d_MMo_looksAtDigits_125 : decode b_MMo_looksAtDigits 125 = .ok (.if_icmp .ne 45, 3) := by decide +kernel
theorem d_MMo_looksAtDigits_128 : decode b_MMo_looksAtDigits 128 = .ok (.aload_n 0, 1) := by decide +kernel
theorem d_MMo_looksAtDigits_129 : decode b_MMo_looksAtDigits 129 = .ok (.getfield 86, 3) := by decide +kernel
theorem d_MMo_looksAtDigits_132 : decode b_MMo_looksAtDigits 132 = .ok (.ifCond .ne 38, 3) := by decide +kernel
theorem d_MMo_looksAtDigits_135 : decode b_MMo_looksAtDigits 135 = .ok (.aload_n 0, 1) := by decide +kernel
theorem d_MMo_looksAtDigits_136 : decode b_MMo_looksAtDigits 136 = .ok (.aload_n 0, 1) := by decide +kernel
theorem d_MMo_looksAtDigits_137 : decode b_MMo_looksAtDigits 137 = .ok (.getfield 22, 3) := by decide +kernel
theorem d_MMo_looksAtDigits_140 : decode b_MMo_looksAtDigits 140 = .ok (.invokestatic 199, 3) := by decide +kernel
theorem d_MMo_looksAtDigits_143 : decode b_MMo_looksAtDigits 143 = .ok (.ifCond .ne 17, 3) := by decide +kernel
theorem d_MMo_looksAtDigits_146 : decode b_MMo_looksAtDigits 146 = .ok (.aload_n 0, 1) := by decide +kernel
theorem d_MMo_looksAtDigits_147 : decode b_MMo_looksAtDigits 147 = .ok (.iconst 2, 1) := by decide +kernel
theorem d_MMo_looksAtDigits_148 : decode b_MMo_looksAtDigits 148 = .ok (.iload_n 1, 1) := by decide +kernel
theorem d_MMo_looksAtDigits_149 : decode b_MMo_looksAtDigits 149 = .ok (.iload_n 2, 1) := by decide +kernel
theorem d_MMo_looksAtDigits_150 : decode b_MMo_looksAtDigits 150 = .ok (.isub, 1) := by decide +kernel
theorem d_MMo_looksAtDigits_151 : decode b_MMo_looksAtDigits 151 = .ok (.imul, 1) := by decide +kernel
theorem d_MMo_looksAtDigits_152 : decode b_MMo_looksAtDigits 152 = .ok (.iconst 1, 1) := by decide +kernel
theorem d_MMo_looksAtDigits_153 : decode b_MMo_looksAtDigits 153 = .ok (.isub, 1) := by decide +kernel
theorem d_MMo_looksAtDigits_154 : decode b_MMo_looksAtDigits 154 = .ok (.invokevirtual 203, 3) := by decide +kernel
theorem d_MMo_looksAtDigits_157 : decode b_MMo_looksAtDigits 157 = .ok (.ifCond .ne 7, 3) := by decide +kernel
theorem d_MMo_looksAtDigits_160 : decode b_MMo_looksAtDigits 160 = .ok (.iconst 1, 1) := by decide +kernel
theorem d_MMo_looksAtDigits_161 : decode b_MMo_looksAtDigits 161 = .ok (.goto 4, 3) := by decide +kernel
theorem d_MMo_looksAtDigits_164 : decode b_MMo_looksAtDigits 164 = .ok (.iconst 0, 1) := by decide +kernel
theorem d_MMo_looksAtDigits_165 : decode b_MMo_looksAtDigits 165 = .ok (.bipush 11, 2) := by decide +kernel
theorem d_MMo_looksAtDigits_167 : decode b_MMo_looksAtDigits 167 = .ok (.invokevirtual 128, 3) := by decide +kernel
theorem d_MMo_looksAtDigits_170 : decode b_MMo_looksAtDigits 170 = .ok (.return_, 1) := by decide +kernel
theorem d_MMo_looks_0 : decode b_MMo_looks 0 = .ok (.aload_n 0, 1) := by decide +kernel
theorem d_MMo_looks_1 : decode b_MMo_looks 1 = .ok (.getfield 142, 3) := by decide +kernel
theorem d_MMo_looks_4 : decode b_MMo_looks 4 = .ok (.iconst 1, 1) := by decide +kernel
theorem d_MMo_looks_5 : decode b_MMo_looks 5 = .ok (.iadd, 1) := by decide +kernel
theorem d_MMo_looks_6 : decode b_MMo_looks 6 = .ok (.istore_n 1, 1) := by decide +kernel
theorem d_MMo_looks_7 : decode b_MMo_looks 7 = .ok (.aload_n 0, 1) := by decide +kernel
theorem d_MMo_looks_8 : decode b_MMo_looks 8 = .ok (.invokevirtual 159, 3) := by decide +kernel
theorem d_MMo_looks_11 : decode b_MMo_looks 11 = .ok (.iconst 1, 1) := by decide +kernel
theorem d_MMo_looks_12 : decode b_MMo_looks 12 = .ok (.iadd, 1) := by decide +kernel
theorem d_MMo_looks_13 : decode b_MMo_looks 13 = .ok (.istore_n 2, 1) := by decide +kernel
theorem d_MMo_looks_14 : decode b_MMo_looks 14 = .ok (.aload_n 0, 1) := by decide +kernel
theorem d_MMo_looks_15 : decode b_MMo_looks 15 = .ok (.invokevirtual 163, 3) := by decide +kernel
theorem d_MMo_looks_18 : decode b_MMo_looks 18 = .ok (.iconst 1, 1) := by decide +kernel
theorem d_MMo_looks_19 : decode b_MMo_looks 19 = .ok (.iadd, 1) := by decide +kernel
theorem d_MMo_looks_20 : decode b_MMo_looks 20 = .ok (.istore_n 3, 1) := by decide +kernel
theorem d_MMo_looks_21 : decode b_MMo_looks 21 = .ok (.aload_n 0, 1) := by decide +kernel
theorem d_MMo_looks_22 : decode b_MMo_looks 22 = .ok (.getfield 132, 3) := by decide +kernel
theorem d_MMo_looks_25 : decode b_MMo_looks 25 = .ok (.bipush 64, 2) := by decide +kernel
theorem d_MMo_looks_27 : decode b_MMo_looks 27 = .ok (.if_icmp .ge 81, 3) := by decide +kernel
theorem d_MMo_looks_30 : decode b_MMo_looks 30 = .ok (.aload_n 0, 1) := by decide +kernel
theorem d_MMo_looks_31 : decode b_MMo_looks 31 = .ok (.aload_n 0, 1) := by decide +kernel
theorem d_MMo_looks_32 : decode b_MMo_looks 32 = .ok (.getfield 132, 3) := by decide +kernel
theorem d_MMo_looks_35 : decode b_MMo_looks 35 = .ok (.bipush 28, 2) := by decide +kernel
theorem d_MMo_looks_37 : decode b_MMo_looks 37 = .ok (.if_icmp .eq 12, 3) := by decide +kernel
theorem d_MMo_looks_40 : decode b_MMo_looks 40 = .ok (.aload_n 0, 1) := by decide +kernel
theorem d_MMo_looks_41 : decode b_MMo_looks 41 = .ok (.getfield 132, 3) := by decide +kernel
theorem d_MMo_looks_44 : decode b_MMo_looks 44 = .ok (.bipush 29, 2) := by decide +kernel
theorem d_MMo_looks_46 : decode b_MMo_looks 46 = .ok (.if_icmp .ne 17, 3) := by decide +kernel
theorem d_MMo_looks_49 : decode b_MMo_looks 49 = .ok (.aload_n 0, 1) := by decide +kernel
theorem d_MMo_looks_50 : decode b_MMo_looks 50 = .ok (.invokevirtual 163, 3) := by decide +kernel
theorem d_MMo_looks_53 : decode b_MMo_looks 53 = .ok (.iconst 1, 1) := by decide +kernel
theorem d_MMo_looks_54 : decode b_MMo_looks 54 = .ok (.iand, 1) := by decide +kernel
theorem d_MMo_looks_55 : decode b_MMo_looks 55 = .ok (.iconst 1, 1) := by decide +kernel
theorem d_MMo_looks_56 : decode b_MMo_looks 56 = .ok (.if_icmp .ne 7, 3) := by decide +kernel
theorem d_MMo_looks_59 : decode b_MMo_looks 59 = .ok (.iconst 1, 1) := by decide +kernel
theorem d_MMo_looks_60 : decode b_MMo_looks 60 = .ok (.goto 4, 3) := by decide +kernel
theorem d_MMo_looks_63 : decode b_MMo_looks 63 = .ok (.iconst 0, 1) := by decide +kernel
theorem d_MMo_looks_64 : decode b_MMo_looks 64 = .ok (.bipush 6, 2) := by decide +kernel
theorem d_MMo_looks_66 : decode b_MMo_looks 66 = .ok (.invokevirtual 128, 3) := by decide +kernel
theorem d_MMo_looks_69 : decode b_MMo_looks 69 = .ok (.aload_n 0, 1) := by decide +kernel
theorem d_MMo_looks_70 : decode b_MMo_looks 70 = .ok (.aload_n 0, 1) := by decide +kernel
theorem d_MMo_looks_71 : decode b_MMo_looks 71 = .ok (.getfield 132, 3) := by decide +kernel
theorem d_MMo_looks_74 : decode b_MMo_looks 74 = .ok (.bipush 29, 2) := by decide +kernel
theorem d_MMo_looks_76 : decode b_MMo_looks 76 = .ok (.if_icmp .ne 23, 3) := by decide +kernel
theorem d_MMo_looks_79 : decode b_MMo_looks 79 = .ok (.aload_n 0, 1) := by decide +kernel
theorem d_MMo_looks_80 : decode b_MMo_looks 80 = .ok (.aload_n 0, 1) := by decide +kernel
theorem d_MMo_looks_81 : decode b_MMo_looks 81 = .ok (.getfield 13, 3) := by decide +kernel
theorem d_MMo_looks_84 : decode b_MMo_looks 84 = .ok (.aload_n 0, 1) := by decide +kernel
theorem d_MMo_looks_85 : decode b_MMo_looks 85 = .ok (.invokevirtual 159, 3) := by decide +kernel
theorem d_MMo_looks_88 : decode b_MMo_looks 88 = .ok (.iaload, 1) := by decide +kernel
theorem d_MMo_looks_89 : decode b_MMo_looks 89 = .ok (.invokevirtual 166, 3) := by decide +kernel
theorem d_MMo_looks_92 : decode b_MMo_looks 92 = .ok (.ifCond .ne 7, 3) := by decide +kernel
theorem d_MMo_looks_95 : decode b_MMo_looks 95 = .ok (.iconst 1, 1) := by decide +kernel
theorem d_MMo_looks_96 : decode b_MMo_looks 96 = .ok (.goto 4, 3) := by decide +kernel
theorem d_MMo_looks_99 : decode b_MMo_looks 99 = .ok (.iconst 0, 1) := by decide +kernel
