theorem d_MMo_run_106 : decode b_MMo_run 106 = .ok (.getfield 86, 3) := by decide +kernel
theorem d_MMo_run_109 : decode b_MMo_run 109 = .ok (.ifCond .ne 6, 3) := by decide +kernel
theorem d_MMo_run_112 : decode b_MMo_run 112 = .ok (.goto (-58), 3) := by decide +kernel
theorem d_MMo_run_115 : decode b_MMo_run 115 = .ok (.aload_n 0, 1) := by decide +kernel
theorem d_MMo_run_116 : decode b_MMo_run 116 = .ok (.dup, 1) := by decide +kernel
theorem d_MMo_run_117 : decode b_MMo_run 117 = .ok (.getfield 301, 3) := by decide +kernel
theorem d_MMo_run_120 : decode b_MMo_run 120 = .ok (.iconst 1, 1) := by decide +kernel
theorem d_MMo_run_121 : decode b_MMo_run 121 = .ok (.iadd, 1) := by decide +kernel
theorem d_MMo_run_122 : decode b_MMo_run 122 = .ok (.putfield 301, 3) := by decide +kernel
theorem d_MMo_run_125 : decode b_MMo_run 125 = .ok (.aload_n 0, 1) := by decide +kernel
theorem d_MMo_run_126 : decode b_MMo_run 126 = .ok (.aload_n 0, 1) := by decide +kernel
theorem d_MMo_run_127 : decode b_MMo_run 127 = .ok (.getfield 86, 3) := by decide +kernel
theorem d_MMo_run_130 : decode b_MMo_run 130 = .ok (.putfield 304, 3) := by decide +kernel
theorem d_MMo_run_133 : decode b_MMo_run 133 = .ok (.aload_n 0, 1) := by decide +kernel
theorem d_MMo_run_134 : decode b_MMo_run 134 = .ok (.iconst 1, 1) := by decide +kernel
theorem d_MMo_run_135 : decode b_MMo_run 135 = .ok (.aload_n 0, 1) := by decide +kernel
theorem d_MMo_run_136 : decode b_MMo_run 136 = .ok (.getfield 86, 3) := by decide +kernel
theorem d_MMo_run_139 : decode b_MMo_run 139 = .ok (.iconst 5, 1) := by decide +kernel
theorem d_MMo_run_140 : decode b_MMo_run 140 = .ok (.if_icmp .ne 7, 3) := by decide +kernel
theorem d_MMo_run_143 : decode b_MMo_run 143 = .ok (.iconst 3, 1) := by decide +kernel
theorem d_MMo_run_144 : decode b_MMo_run 144 = .ok (.goto 17, 3) := by decide +kernel
theorem d_MMo_run_147 : decode b_MMo_run 147 = .ok (.aload_n 0, 1) := by decide +kernel
theorem d_MMo_run_148 : decode b_MMo_run 148 = .ok (.getfield 86, 3) := by decide +kernel
theorem d_MMo_run_151 : decode b_MMo_run 151 = .ok (.bipush 7, 2) := by decide +kernel
theorem d_MMo_run_153 : decode b_MMo_run 153 = .ok (.if_icmp .le 7, 3) := by decide +kernel
theorem d_MMo_run_156 : decode b_MMo_run 156 = .ok (.iconst 4, 1) := by decide +kernel
theorem d_MMo_run_157 : decode b_MMo_run 157 = .ok (.goto 4, 3) := by decide +kernel
theorem d_MMo_run_160 : decode b_MMo_run 160 = .ok (.iconst 2, 1) := by decide +kernel
theorem d_MMo_run_161 : decode b_MMo_run 161 = .ok (.invokevirtual 49, 3) := by decide +kernel
theorem d_MMo_run_164 : decode b_MMo_run 164 = .ok (.pop, 1) := by decide +kernel
theorem d_MMo_run_165 : decode b_MMo_run 165 = .ok (.iconst 0, 1) := by decide +kernel
theorem d_MMo_run_166 : decode b_MMo_run 166 = .ok (.ireturn, 1) := by decide +kernel
theorem d_MMo_run_167 : decode b_MMo_run 167 = .ok (.iload_n 2, 1) := by decide +kernel
theorem d_MMo_run_168 : decode b_MMo_run 168 = .ok (.ireturn, 1) := by decide +kernel
theorem d_MMo_packed_0 : decode b_MMo_packed 0 = .ok (.aload_n 0, 1) := by decide +kernel
theorem d_MMo_packed_1 : decode b_MMo_packed 1 = .ok (.iconst 0, 1) := by decide +kernel
theorem d_MMo_packed_2 : decode b_MMo_packed 2 = .ok (.putfield 38, 3) := by decide +kernel
theorem d_MMo_packed_5 : decode b_MMo_packed 5 = .ok (.aload_n 0, 1) := by decide +kernel
theorem d_MMo_packed_6 : decode b_MMo_packed 6 = .ok (.iload_n 2, 1) := by decide +kernel
theorem d_MMo_packed_7 : decode b_MMo_packed 7 = .ok (.i2l, 1) := by decide +kernel
theorem d_MMo_packed_8 : decode b_MMo_packed 8 = .ok (.lconst 1, 1) := by decide +kernel
theorem d_MMo_packed_9 : decode b_MMo_packed 9 = .ok (.ldc2_w 47, 3) := by decide +kernel
theorem d_MMo_packed_12 : decode b_MMo_packed 12 = .ok (.invokestatic 41, 3) := by decide +kernel
theorem d_MMo_packed_15 : decode b_MMo_packed 15 = .ok (.ifCond .ne 7, 3) := by decide +kernel
theorem d_MMo_packed_18 : decode b_MMo_packed 18 = .ok (.iconst 1, 1) := by decide +kernel
theorem d_MMo_packed_19 : decode b_MMo_packed 19 = .ok (.goto 4, 3) := by decide +kernel
theorem d_MMo_packed_22 : decode b_MMo_packed 22 = .ok (.iconst 0, 1) := by decide +kernel
theorem d_MMo_packed_23 : decode b_MMo_packed 23 = .ok (.iconst 1, 1) := by decide +kernel
theorem d_MMo_packed_24 : decode b_MMo_packed 24 = .ok (.invokevirtual 49, 3) := by decide +kernel
theorem d_MMo_packed_27 : decode b_MMo_packed 27 = .ok (.ifCond .ne 24, 3) := by decide +kernel
theorem d_MMo_packed_30 : decode b_MMo_packed 30 = .ok (.aload_n 0, 1) := by decide +kernel
theorem d_MMo_packed_31 : decode b_MMo_packed 31 = .ok (.iload_n 1, 1) := by decide +kernel
theorem d_MMo_packed_32 : decode b_MMo_packed 32 = .ok (.iload_n 2, 1) := by decide +kernel
theorem d_MMo_packed_33 : decode b_MMo_packed 33 = .ok (.invokestatic 53, 3) := by decide +kernel
theorem d_MMo_packed_36 : decode b_MMo_packed 36 = .ok (.ifCond .ne 7, 3) := by decide +kernel
theorem d_MMo_packed_39 : decode b_MMo_packed 39 = .ok (.iconst 1, 1) := by decide +kernel
theorem d_MMo_packed_40 : decode b_MMo_packed 40 = .ok (.goto 4, 3) := by decide +kernel
theorem d_MMo_packed_43 : decode b_MMo_packed 43 = .ok (.iconst 0, 1) := by decide +kernel
theorem d_MMo_packed_44 : decode b_MMo_packed 44 = .ok (.iconst 2, 1) := by decide +kernel
theorem d_MMo_packed_45 : decode b_MMo_packed 45 = .ok (.invokevirtual 49, 3) := by decide +kernel
theorem d_MMo_packed_48 : decode b_MMo_packed 48 = .ok (.ifCond .eq 5, 3) := by decide +kernel
theorem d_MMo_packed_51 : decode b_MMo_packed 51 = .ok (.lconst 0, 1) := by decide +kernel
theorem d_MMo_packed_52 : decode b_MMo_packed 52 = .ok (.lreturn, 1) := by decide +kernel
theorem d_MMo_packed_53 : decode b_MMo_packed 53 = .ok (.aload_n 0, 1) := by decide +kernel
theorem d_MMo_packed_54 : decode b_MMo_packed 54 = .ok (.iload_n 1, 1) := by decide +kernel
theorem d_MMo_packed_55 : decode b_MMo_packed 55 = .ok (.iload_n 2, 1) := by decide +kernel
theorem d_MMo_packed_56 : decode b_MMo_packed 56 = .ok (.aload_n 0, 1) := by decide +kernel
theorem d_MMo_packed_57 : decode b_MMo_packed 57 = .ok (.getfield 19, 3) := by decide +kernel
theorem d_MMo_packed_60 : decode b_MMo_packed 60 = .ok (.invokevirtual 182, 3) := by decide +kernel
theorem d_MMo_packed_63 : decode b_MMo_packed 63 = .ok (.istore_n 3, 1) := by decide +kernel
theorem d_MMo_packed_64 : decode b_MMo_packed 64 = .ok (.aload_n 0, 1) := by decide +kernel
theorem d_MMo_packed_65 : decode b_MMo_packed 65 = .ok (.iload_n 3, 1) := by decide +kernel
theorem d_MMo_packed_66 : decode b_MMo_packed 66 = .ok (.ifCond .ne 7, 3) := by decide +kernel
theorem d_MMo_packed_69 : decode b_MMo_packed 69 = .ok (.iconst 1, 1) := by decide +kernel
theorem d_MMo_packed_70 : decode b_MMo_packed 70 = .ok (.goto 4, 3) := by decide +kernel
theorem d_MMo_packed_73 : decode b_MMo_packed 73 = .ok (.iconst 0, 1) := by decide +kernel
theorem d_MMo_packed_74 : decode b_MMo_packed 74 = .ok (.iconst 1, 1) := by decide +kernel
theorem d_MMo_packed_75 : decode b_MMo_packed 75 = .ok (.invokevirtual 49, 3) := by decide +kernel
theorem d_MMo_packed_78 : decode b_MMo_packed 78 = .ok (.ifCond .eq 7, 3) := by decide +kernel
theorem d_MMo_packed_81 : decode b_MMo_packed 81 = .ok (.lconst 0, 1) := by decide +kernel
theorem d_MMo_packed_82 : decode b_MMo_packed 82 = .ok (.goto 16, 3) := by decide +kernel
theorem d_MMo_packed_85 : decode b_MMo_packed 85 = .ok (.aload_n 0, 1) := by decide +kernel
theorem d_MMo_packed_86 : decode b_MMo_packed 86 = .ok (.getfield 19, 3) := by decide +kernel
theorem d_MMo_packed_89 : decode b_MMo_packed 89 = .ok (.aload_n 0, 1) := by decide +kernel
theorem d_MMo_packed_90 : decode b_MMo_packed 90 = .ok (.iload_n 1, 1) := by decide +kernel
theorem d_MMo_packed_91 : decode b_MMo_packed 91 = .ok (.iload_n 2, 1) := by decide +kernel
theorem d_MMo_packed_92 : decode b_MMo_packed 92 = .ok (.invokevirtual 186, 3) := by decide +kernel
theorem d_MMo_packed_95 : decode b_MMo_packed 95 = .ok (.invokestatic 189, 3) := by decide +kernel
theorem d_MMo_packed_98 : decode b_MMo_packed 98 = .ok (.lreturn, 1) := by decide +kernel
theorem d_MMo_count_0 : decode b_MMo_count 0 = .ok (.aload_n 0, 1) := by decide +kernel
theorem d_MMo_count_1 : decode b_MMo_count 1 = .ok (.iconst 0, 1) := by decide +kernel
theorem d_MMo_count_2 : decode b_MMo_count 2 = .ok (.putfield 38, 3) := by decide +kernel
theorem d_MMo_count_5 : decode b_MMo_count 5 = .ok (.aload_n 0, 1) := by decide +kernel
theorem d_MMo_count_6 : decode b_MMo_count 6 = .ok (.iload_n 1, 1) := by decide +kernel
theorem d_MMo_count_7 : decode b_MMo_count 7 = .ok (.i2l, 1) := by decide +kernel
theorem d_MMo_count_8 : decode b_MMo_count 8 = .ok (.lconst 0, 1) := by decide +kernel
theorem d_MMo_count_9 : decode b_MMo_count 9 = .ok (.ldc2_w 307, 3) := by decide +kernel
theorem d_MMo_count_12 : decode b_MMo_count 12 = .ok (.invokestatic 41, 3) := by decide +kernel
theorem d_MMo_count_15 : decode b_MMo_count 15 = .ok (.ifCond .ne 7, 3) := by decide +kernel
theorem d_MMo_count_18 : decode b_MMo_count 18 = .ok (.iconst 1, 1) := by decide +kernel
theorem d_MMo_count_19 : decode b_MMo_count 19 = .ok (.goto 4, 3) := by decide +kernel
theorem d_MMo_count_22 : decode b_MMo_count 22 = .ok (.iconst 0, 1) := by decide +kernel
theorem d_MMo_count_23 : decode b_MMo_count 23 = .ok (.iconst 1, 1) := by decide +kernel
theorem d_MMo_count_24 : decode b_MMo_count 24 = .ok (.invokevirtual 49, 3) := by decide +kernel
theorem d_MMo_count_27 : decode b_MMo_count 27 = .ok (.ifCond .eq 5, 3) := by decide +kernel
theorem d_MMo_count_30 : decode b_MMo_count 30 = .ok (.iconst 0, 1) := by decide +kernel
theorem d_MMo_count_31 : decode b_MMo_count 31 = .ok (.ireturn, 1) := by decide +kernel
theorem d_MMo_count_32 : decode b_MMo_count 32 = .ok (.iload_n 1, 1) := by decide +kernel
theorem d_MMo_count_33 : decode b_MMo_count 33 = .ok (.tableswitch 69 0 5 #[39, 44, 49, 54, 59, 64], 39) := by decide +kernel
theorem d_MMo_count_72 : decode b_MMo_count 72 = .ok (.aload_n 0, 1) := by decide +kernel
theorem d_MMo_count_73 : decode b_MMo_count 73 = .ok (.getfield 67, 3) := by decide +kernel
theorem d_MMo_count_76 : decode b_MMo_count 76 = .ok (.ireturn, 1) := by decide +kernel
theorem d_MMo_count_77 : decode b_MMo_count 77 = .ok (.aload_n 0, 1) := by decide +kernel
theorem d_MMo_count_78 : decode b_MMo_count 78 = .ok (.getfield 73, 3) := by decide +kernel
theorem d_MMo_count_81 : decode b_MMo_count 81 = .ok (.ireturn, 1) := by decide +kernel
theorem d_MMo_count_82 : decode b_MMo_count 82 = .ok (.aload_n 0, 1) := by decide +kernel
theorem d_MMo_count_83 : decode b_MMo_count 83 = .ok (.getfield 70, 3) := by decide +kernel
theorem d_MMo_count_86 : decode b_MMo_count 86 = .ok (.ireturn, 1) := by decide +kernel
theorem d_MMo_count_87 : decode b_MMo_count 87 = .ok (.aload_n 0, 1) := by decide +kernel
theorem d_MMo_count_88 : decode b_MMo_count 88 = .ok (.getfield 34, 3) := by decide +kernel
theorem d_MMo_count_91 : decode b_MMo_count 91 = .ok (.ireturn, 1) := by decide +kernel
theorem d_MMo_count_92 : decode b_MMo_count 92 = .ok (.aload_n 0, 1) := by decide +kernel
theorem d_MMo_count_93 : decode b_MMo_count 93 = .ok (.getfield 298, 3) := by decide +kernel
theorem d_MMo_count_96 : decode b_MMo_count 96 = .ok (.ireturn, 1) := by decide +kernel
theorem d_MMo_count_97 : decode b_MMo_count 97 = .ok (.aload_n 0, 1) := by decide +kernel
theorem d_MMo_count_98 : decode b_MMo_count 98 = .ok (.getfield 301, 3) := by decide +kernel
theorem d_MMo_count_101 : decode b_MMo_count 101 = .ok (.ireturn, 1) := by decide +kernel
theorem d_MMo_count_102 : decode b_MMo_count 102 = .ok (.aload_n 0, 1) := by decide +kernel
theorem d_MMo_count_103 : decode b_MMo_count 103 = .ok (.getfield 304, 3) := by decide +kernel
theorem d_MMo_count_106 : decode b_MMo_count 106 = .ok (.ireturn, 1) := by decide +kernel
