theorem d_XDe_divide_36 : decode b_XDe_divide 36 = .ok (.isub, 1) := by decide +kernel
theorem d_XDe_divide_37 : decode b_XDe_divide 37 = .ok (.istore 8, 2) := by decide +kernel
theorem d_XDe_divide_39 : decode b_XDe_divide 39 = .ok (.lload 6, 2) := by decide +kernel
theorem d_XDe_divide_41 : decode b_XDe_divide 41 = .ok (.lconst 0, 1) := by decide +kernel
theorem d_XDe_divide_42 : decode b_XDe_divide 42 = .ok (.lcmp, 1) := by decide +kernel
theorem d_XDe_divide_43 : decode b_XDe_divide 43 = .ok (.ifCond .eq 16, 3) := by decide +kernel
theorem d_XDe_divide_46 : decode b_XDe_divide 46 = .ok (.lload 4, 2) := by decide +kernel
theorem d_XDe_divide_48 : decode b_XDe_divide 48 = .ok (.lload 6, 2) := by decide +kernel
theorem d_XDe_divide_50 : decode b_XDe_divide 50 = .ok (.ldiv, 1) := by decide +kernel
theorem d_XDe_divide_51 : decode b_XDe_divide 51 = .ok (.iload 8, 2) := by decide +kernel
theorem d_XDe_divide_53 : decode b_XDe_divide 53 = .ok (.invokestatic 122, 3) := by decide +kernel
theorem d_XDe_divide_56 : decode b_XDe_divide 56 = .ok (.ifCond .ne 6, 3) := by decide +kernel
theorem d_XDe_divide_59 : decode b_XDe_divide 59 = .ok (.bipush 11, 2) := by decide +kernel
theorem d_XDe_divide_61 : decode b_XDe_divide 61 = .ok (.ireturn, 1) := by decide +kernel
theorem d_XDe_divide_62 : decode b_XDe_divide 62 = .ok (.aload_n 0, 1) := by decide +kernel
theorem d_XDe_divide_63 : decode b_XDe_divide 63 = .ok (.getfield 25, 3) := by decide +kernel
theorem d_XDe_divide_66 : decode b_XDe_divide 66 = .ok (.aload_n 1, 1) := by decide +kernel
theorem d_XDe_divide_67 : decode b_XDe_divide 67 = .ok (.getfield 77, 3) := by decide +kernel
theorem d_XDe_divide_70 : decode b_XDe_divide 70 = .ok (.iload_n 2, 1) := by decide +kernel
theorem d_XDe_divide_71 : decode b_XDe_divide 71 = .ok (.invokevirtual 130, 3) := by decide +kernel
theorem d_XDe_divide_74 : decode b_XDe_divide 74 = .ok (.istore 9, 2) := by decide +kernel
theorem d_XDe_divide_76 : decode b_XDe_divide 76 = .ok (.aload_n 0, 1) := by decide +kernel
theorem d_XDe_divide_77 : decode b_XDe_divide 77 = .ok (.getfield 25, 3) := by decide +kernel
theorem d_XDe_divide_80 : decode b_XDe_divide 80 = .ok (.aload_n 1, 1) := by decide +kernel
theorem d_XDe_divide_81 : decode b_XDe_divide 81 = .ok (.getfield 26, 3) := by decide +kernel
theorem d_XDe_divide_84 : decode b_XDe_divide 84 = .ok (.iload_n 3, 1) := by decide +kernel
theorem d_XDe_divide_85 : decode b_XDe_divide 85 = .ok (.invokevirtual 130, 3) := by decide +kernel
theorem d_XDe_divide_88 : decode b_XDe_divide 88 = .ok (.istore 10, 2) := by decide +kernel
theorem d_XDe_divide_90 : decode b_XDe_divide 90 = .ok (.aload_n 0, 1) := by decide +kernel
theorem d_XDe_divide_91 : decode b_XDe_divide 91 = .ok (.getfield 25, 3) := by decide +kernel
theorem d_XDe_divide_94 : decode b_XDe_divide 94 = .ok (.aload_n 1, 1) := by decide +kernel
theorem d_XDe_divide_95 : decode b_XDe_divide 95 = .ok (.getfield 77, 3) := by decide +kernel
theorem d_XDe_divide_98 : decode b_XDe_divide 98 = .ok (.iload 8, 2) := by decide +kernel
theorem d_XDe_divide_100 : decode b_XDe_divide 100 = .ok (.lload 4, 2) := by decide +kernel
theorem d_XDe_divide_102 : decode b_XDe_divide 102 = .ok (.lload 6, 2) := by decide +kernel
theorem d_XDe_divide_104 : decode b_XDe_divide 104 = .ok (.ldiv, 1) := by decide +kernel
theorem d_XDe_divide_105 : decode b_XDe_divide 105 = .ok (.iload 9, 2) := by decide +kernel
theorem d_XDe_divide_107 : decode b_XDe_divide 107 = .ok (.iload 10, 2) := by decide +kernel
theorem d_XDe_divide_109 : decode b_XDe_divide 109 = .ok (.if_icmp .eq 7, 3) := by decide +kernel
theorem d_XDe_divide_112 : decode b_XDe_divide 112 = .ok (.iconst 1, 1) := by decide +kernel
theorem d_XDe_divide_113 : decode b_XDe_divide 113 = .ok (.goto 4, 3) := by decide +kernel
theorem d_XDe_divide_116 : decode b_XDe_divide 116 = .ok (.iconst 0, 1) := by decide +kernel
theorem d_XDe_divide_117 : decode b_XDe_divide 117 = .ok (.invokevirtual 54, 3) := by decide +kernel
theorem d_XDe_divide_120 : decode b_XDe_divide 120 = .ok (.aload_n 0, 1) := by decide +kernel
theorem d_XDe_divide_121 : decode b_XDe_divide 121 = .ok (.getfield 25, 3) := by decide +kernel
theorem d_XDe_divide_124 : decode b_XDe_divide 124 = .ok (.aload_n 1, 1) := by decide +kernel
theorem d_XDe_divide_125 : decode b_XDe_divide 125 = .ok (.getfield 77, 3) := by decide +kernel
theorem d_XDe_divide_128 : decode b_XDe_divide 128 = .ok (.iload 8, 2) := by decide +kernel
theorem d_XDe_divide_130 : decode b_XDe_divide 130 = .ok (.iadd, 1) := by decide +kernel
theorem d_XDe_divide_131 : decode b_XDe_divide 131 = .ok (.iload_n 3, 1) := by decide +kernel
theorem d_XDe_divide_132 : decode b_XDe_divide 132 = .ok (.lload 4, 2) := by decide +kernel
theorem d_XDe_divide_134 : decode b_XDe_divide 134 = .ok (.lload 6, 2) := by decide +kernel
theorem d_XDe_divide_136 : decode b_XDe_divide 136 = .ok (.lrem, 1) := by decide +kernel
theorem d_XDe_divide_137 : decode b_XDe_divide 137 = .ok (.iload 9, 2) := by decide +kernel
theorem d_XDe_divide_139 : decode b_XDe_divide 139 = .ok (.invokevirtual 54, 3) := by decide +kernel
theorem d_XDe_divide_142 : decode b_XDe_divide 142 = .ok (.iconst 0, 1) := by decide +kernel
theorem d_XDe_divide_143 : decode b_XDe_divide 143 = .ok (.ireturn, 1) := by decide +kernel
theorem d_XDe_calculate_0 : decode b_XDe_calculate 0 = .ok (.aload_n 1, 1) := by decide +kernel
theorem d_XDe_calculate_1 : decode b_XDe_calculate 1 = .ok (.getfield 41, 3) := by decide +kernel
theorem d_XDe_calculate_4 : decode b_XDe_calculate 4 = .ok (.iconst 1, 1) := by decide +kernel
theorem d_XDe_calculate_5 : decode b_XDe_calculate 5 = .ok (.iadd, 1) := by decide +kernel
theorem d_XDe_calculate_6 : decode b_XDe_calculate 6 = .ok (.istore_n 2, 1) := by decide +kernel
theorem d_XDe_calculate_7 : decode b_XDe_calculate 7 = .ok (.aload_n 1, 1) := by decide +kernel
theorem d_XDe_calculate_8 : decode b_XDe_calculate 8 = .ok (.getfield 74, 3) := by decide +kernel
theorem d_XDe_calculate_11 : decode b_XDe_calculate 11 = .ok (.iconst 1, 1) := by decide +kernel
theorem d_XDe_calculate_12 : decode b_XDe_calculate 12 = .ok (.iadd, 1) := by decide +kernel
theorem d_XDe_calculate_13 : decode b_XDe_calculate 13 = .ok (.istore_n 3, 1) := by decide +kernel
theorem d_XDe_calculate_14 : decode b_XDe_calculate 14 = .ok (.aload_n 0, 1) := by decide +kernel
theorem d_XDe_calculate_15 : decode b_XDe_calculate 15 = .ok (.aload_n 1, 1) := by decide +kernel
theorem d_XDe_calculate_16 : decode b_XDe_calculate 16 = .ok (.iload_n 2, 1) := by decide +kernel
theorem d_XDe_calculate_17 : decode b_XDe_calculate 17 = .ok (.iload_n 3, 1) := by decide +kernel
theorem d_XDe_calculate_18 : decode b_XDe_calculate 18 = .ok (.invokevirtual 97, 3) := by decide +kernel
theorem d_XDe_calculate_21 : decode b_XDe_calculate 21 = .ok (.istore 4, 2) := by decide +kernel
theorem d_XDe_calculate_23 : decode b_XDe_calculate 23 = .ok (.iload 4, 2) := by decide +kernel
theorem d_XDe_calculate_25 : decode b_XDe_calculate 25 = .ok (.ifCond .eq 6, 3) := by decide +kernel
theorem d_XDe_calculate_28 : decode b_XDe_calculate 28 = .ok (.iload 4, 2) := by decide +kernel
theorem d_XDe_calculate_30 : decode b_XDe_calculate 30 = .ok (.ireturn, 1) := by decide +kernel
theorem d_XDe_calculate_31 : decode b_XDe_calculate 31 = .ok (.aload_n 0, 1) := by decide +kernel
theorem d_XDe_calculate_32 : decode b_XDe_calculate 32 = .ok (.getfield 25, 3) := by decide +kernel
theorem d_XDe_calculate_35 : decode b_XDe_calculate 35 = .ok (.aload_n 1, 1) := by decide +kernel
theorem d_XDe_calculate_36 : decode b_XDe_calculate 36 = .ok (.getfield 77, 3) := by decide +kernel
theorem d_XDe_calculate_39 : decode b_XDe_calculate 39 = .ok (.iload_n 2, 1) := by decide +kernel
theorem d_XDe_calculate_40 : decode b_XDe_calculate 40 = .ok (.invokevirtual 66, 3) := by decide +kernel
theorem d_XDe_calculate_43 : decode b_XDe_calculate 43 = .ok (.lstore 5, 2) := by decide +kernel
theorem d_XDe_calculate_45 : decode b_XDe_calculate 45 = .ok (.aload_n 0, 1) := by decide +kernel
theorem d_XDe_calculate_46 : decode b_XDe_calculate 46 = .ok (.getfield 25, 3) := by decide +kernel
theorem d_XDe_calculate_49 : decode b_XDe_calculate 49 = .ok (.aload_n 1, 1) := by decide +kernel
theorem d_XDe_calculate_50 : decode b_XDe_calculate 50 = .ok (.getfield 26, 3) := by decide +kernel
theorem d_XDe_calculate_53 : decode b_XDe_calculate 53 = .ok (.iload_n 3, 1) := by decide +kernel
theorem d_XDe_calculate_54 : decode b_XDe_calculate 54 = .ok (.invokevirtual 66, 3) := by decide +kernel
theorem d_XDe_calculate_57 : decode b_XDe_calculate 57 = .ok (.lstore 7, 2) := by decide +kernel
theorem d_XDe_calculate_59 : decode b_XDe_calculate 59 = .ok (.aload_n 1, 1) := by decide +kernel
theorem d_XDe_calculate_60 : decode b_XDe_calculate 60 = .ok (.getfield 38, 3) := by decide +kernel
theorem d_XDe_calculate_63 : decode b_XDe_calculate 63 = .ok (.tableswitch 97 248 252 #[33, 45, 59, 74, 89], 33) := by decide +kernel
theorem d_XDe_calculate_96 : decode b_XDe_calculate 96 = .ok (.aload_n 0, 1) := by decide +kernel
theorem d_XDe_calculate_97 : decode b_XDe_calculate 97 = .ok (.aload_n 1, 1) := by decide +kernel
theorem d_XDe_calculate_98 : decode b_XDe_calculate 98 = .ok (.getfield 77, 3) := by decide +kernel
theorem d_XDe_calculate_101 : decode b_XDe_calculate 101 = .ok (.iload_n 2, 1) := by decide +kernel
theorem d_XDe_calculate_102 : decode b_XDe_calculate 102 = .ok (.lload 7, 2) := by decide +kernel
theorem d_XDe_calculate_104 : decode b_XDe_calculate 104 = .ok (.invokevirtual 101, 3) := by decide +kernel
theorem d_XDe_calculate_107 : decode b_XDe_calculate 107 = .ok (.ireturn, 1) := by decide +kernel
theorem d_XDe_calculate_108 : decode b_XDe_calculate 108 = .ok (.aload_n 0, 1) := by decide +kernel
theorem d_XDe_calculate_109 : decode b_XDe_calculate 109 = .ok (.getfield 15, 3) := by decide +kernel
theorem d_XDe_calculate_112 : decode b_XDe_calculate 112 = .ok (.lload 5, 2) := by decide +kernel
theorem d_XDe_calculate_114 : decode b_XDe_calculate 114 = .ok (.lload 7, 2) := by decide +kernel
theorem d_XDe_calculate_116 : decode b_XDe_calculate 116 = .ok (.lsub, 1) := by decide +kernel
theorem d_XDe_calculate_117 : decode b_XDe_calculate 117 = .ok (.invokevirtual 105, 3) := by decide +kernel
theorem d_XDe_calculate_120 : decode b_XDe_calculate 120 = .ok (.iconst 0, 1) := by decide +kernel
theorem d_XDe_calculate_121 : decode b_XDe_calculate 121 = .ok (.ireturn, 1) := by decide +kernel
theorem d_XDe_calculate_122 : decode b_XDe_calculate 122 = .ok (.aload_n 0, 1) := by decide +kernel
theorem d_XDe_calculate_123 : decode b_XDe_calculate 123 = .ok (.aload_n 1, 1) := by decide +kernel
theorem d_XDe_calculate_124 : decode b_XDe_calculate 124 = .ok (.getfield 77, 3) := by decide +kernel
theorem d_XDe_calculate_127 : decode b_XDe_calculate 127 = .ok (.iload_n 2, 1) := by decide +kernel
theorem d_XDe_calculate_128 : decode b_XDe_calculate 128 = .ok (.lload 5, 2) := by decide +kernel
theorem d_XDe_calculate_130 : decode b_XDe_calculate 130 = .ok (.lload 7, 2) := by decide +kernel
theorem d_XDe_calculate_132 : decode b_XDe_calculate 132 = .ok (.ladd, 1) := by decide +kernel
theorem d_XDe_calculate_133 : decode b_XDe_calculate 133 = .ok (.invokevirtual 101, 3) := by decide +kernel
theorem d_XDe_calculate_136 : decode b_XDe_calculate 136 = .ok (.ireturn, 1) := by decide +kernel
theorem d_XDe_calculate_137 : decode b_XDe_calculate 137 = .ok (.aload_n 0, 1) := by decide +kernel
theorem d_XDe_calculate_138 : decode b_XDe_calculate 138 = .ok (.aload_n 1, 1) := by decide +kernel
theorem d_XDe_calculate_139 : decode b_XDe_calculate 139 = .ok (.getfield 77, 3) := by decide +kernel
theorem d_XDe_calculate_142 : decode b_XDe_calculate 142 = .ok (.iload_n 2, 1) := by decide +kernel
theorem d_XDe_calculate_143 : decode b_XDe_calculate 143 = .ok (.lload 5, 2) := by decide +kernel
theorem d_XDe_calculate_145 : decode b_XDe_calculate 145 = .ok (.lload 7, 2) := by decide +kernel
theorem d_XDe_calculate_147 : decode b_XDe_calculate 147 = .ok (.lsub, 1) := by decide +kernel
theorem d_XDe_calculate_148 : decode b_XDe_calculate 148 = .ok (.invokevirtual 101, 3) := by decide +kernel
theorem d_XDe_calculate_151 : decode b_XDe_calculate 151 = .ok (.ireturn, 1) := by decide +kernel
theorem d_XDe_calculate_152 : decode b_XDe_calculate 152 = .ok (.aload_n 0, 1) := by decide +kernel
theorem d_XDe_calculate_153 : decode b_XDe_calculate 153 = .ok (.aload_n 1, 1) := by decide +kernel
theorem d_XDe_calculate_154 : decode b_XDe_calculate 154 = .ok (.iload_n 2, 1) := by decide +kernel
theorem d_XDe_calculate_155 : decode b_XDe_calculate 155 = .ok (.iload_n 3, 1) := by decide +kernel
theorem d_XDe_calculate_156 : decode b_XDe_calculate 156 = .ok (.invokevirtual 109, 3) := by decide +kernel
theorem d_XDe_calculate_159 : decode b_XDe_calculate 159 = .ok (.ireturn, 1) := by decide +kernel
theorem d_XDe_calculate_160 : decode b_XDe_calculate 160 = .ok (.aload_n 0, 1) := by decide +kernel
theorem d_XDe_calculate_161 : decode b_XDe_calculate 161 = .ok (.aload_n 1, 1) := by decide +kernel
theorem d_XDe_calculate_162 : decode b_XDe_calculate 162 = .ok (.iload_n 2, 1) := by decide +kernel
theorem d_XDe_calculate_163 : decode b_XDe_calculate 163 = .ok (.iload_n 3, 1) := by decide +kernel
theorem d_XDe_calculate_164 : decode b_XDe_calculate 164 = .ok (.invokevirtual 112, 3) := by decide +kernel
theorem d_XDe_calculate_167 : decode b_XDe_calculate 167 = .ok (.ireturn, 1) := by decide +kernel
theorem d_XIn_place_0 : decode b_XIn_place 0 = .ok (.aload_n 0, 1) := by decide +kernel
theorem d_XIn_place_1 : decode b_XIn_place 1 = .ok (.getfield 15, 3) := by decide +kernel
theorem d_XIn_place_4 : decode b_XIn_place 4 = .ok (.iload_n 1, 1) := by decide +kernel
theorem d_XIn_place_5 : decode b_XIn_place 5 = .ok (.invokevirtual 25, 3) := by decide +kernel
theorem d_XIn_place_8 : decode b_XIn_place 8 = .ok (.iconst 4, 1) := by decide +kernel
theorem d_XIn_place_9 : decode b_XIn_place 9 = .ok (.ishr, 1) := by decide +kernel
theorem d_XIn_place_10 : decode b_XIn_place 10 = .ok (.istore_n 2, 1) := by decide +kernel
theorem d_XIn_place_11 : decode b_XIn_place 11 = .ok (.aload_n 0, 1) := by decide +kernel
theorem d_XIn_place_12 : decode b_XIn_place 12 = .ok (.getfield 15, 3) := by decide +kernel
theorem d_XIn_place_15 : decode b_XIn_place 15 = .ok (.iload_n 1, 1) := by decide +kernel
theorem d_XIn_place_16 : decode b_XIn_place 16 = .ok (.invokevirtual 25, 3) := by decide +kernel
theorem d_XIn_place_19 : decode b_XIn_place 19 = .ok (.bipush 15, 2) := by decide +kernel
theorem d_XIn_place_21 : decode b_XIn_place 21 = .ok (.iand, 1) := by decide +kernel
theorem d_XIn_place_22 : decode b_XIn_place 22 = .ok (.sipush 256, 3) := by decide +kernel
theorem d_XIn_place_25 : decode b_XIn_place 25 = .ok (.imul, 1) := by decide +kernel
theorem d_XIn_place_26 : decode b_XIn_place 26 = .ok (.aload_n 0, 1) := by decide +kernel
theorem d_XIn_place_27 : decode b_XIn_place 27 = .ok (.getfield 15, 3) := by decide +kernel
theorem d_XIn_place_30 : decode b_XIn_place 30 = .ok (.iload_n 1, 1) := by decide +kernel
theorem d_XIn_place_31 : decode b_XIn_place 31 = .ok (.iconst 1, 1) := by decide +kernel
theorem d_XIn_place_32 : decode b_XIn_place 32 = .ok (.iadd, 1) := by decide +kernel
theorem d_XIn_place_33 : decode b_XIn_place 33 = .ok (.invokevirtual 25, 3) := by decide +kernel
theorem d_XIn_place_36 : decode b_XIn_place 36 = .ok (.iadd, 1) := by decide +kernel
theorem d_XIn_place_37 : decode b_XIn_place 37 = .ok (.istore_n 3, 1) := by decide +kernel
theorem d_XIn_place_38 : decode b_XIn_place 38 = .ok (.iload_n 2, 1) := by decide +kernel
theorem d_XIn_place_39 : decode b_XIn_place 39 = .ok (.ifCond .ne 7, 3) := by decide +kernel
theorem d_XIn_place_42 : decode b_XIn_place 42 = .ok (.iload_n 3, 1) := by decide +kernel
theorem d_XIn_place_43 : decode b_XIn_place 43 = .ok (.goto 10, 3) := by decide +kernel
theorem d_XIn_place_46 : decode b_XIn_place 46 = .ok (.iload_n 3, 1) := by decide +kernel
theorem d_XIn_place_47 : decode b_XIn_place 47 = .ok (.aload_n 0, 1) := by decide +kernel
theorem d_XIn_place_48 : decode b_XIn_place 48 = .ok (.iload_n 2, 1) := by decide +kernel
theorem d_XIn_place_49 : decode b_XIn_place 49 = .ok (.invokevirtual 50, 3) := by decide +kernel
theorem d_XIn_place_52 : decode b_XIn_place 52 = .ok (.iadd, 1) := by decide +kernel
theorem d_XIn_place_53 : decode b_XIn_place 53 = .ok (.ireturn, 1) := by decide +kernel
theorem d_XIn_findAddresses_0 : decode b_XIn_findAddresses 0 = .ok (.aload_n 0, 1) := by decide +kernel
theorem d_XIn_findAddresses_1 : decode b_XIn_findAddresses 1 = .ok (.getfield 29, 3) := by decide +kernel
theorem d_XIn_findAddresses_4 : decode b_XIn_findAddresses 4 = .ok (.sipush 128, 3) := by decide +kernel
theorem d_XIn_findAddresses_7 : decode b_XIn_findAddresses 7 = .ok (.if_icmp .ge 21, 3) := by decide +kernel
theorem d_XIn_findAddresses_10 : decode b_XIn_findAddresses 10 = .ok (.aload_n 0, 1) := by decide +kernel
theorem d_XIn_findAddresses_11 : decode b_XIn_findAddresses 11 = .ok (.getfield 40, 3) := by decide +kernel
theorem d_XIn_findAddresses_14 : decode b_XIn_findAddresses 14 = .ok (.ifCond .eq 14, 3) := by decide +kernel
theorem d_XIn_findAddresses_17 : decode b_XIn_findAddresses 17 = .ok (.aload_n 1, 1) := by decide +kernel
theorem d_XIn_findAddresses_18 : decode b_XIn_findAddresses 18 = .ok (.aload_n 0, 1) := by decide +kernel
theorem d_XIn_findAddresses_19 : decode b_XIn_findAddresses 19 = .ok (.getfield 40, 3) := by decide +kernel
theorem d_XIn_findAddresses_22 : decode b_XIn_findAddresses 22 = .ok (.invokevirtual 50, 3) := by decide +kernel
theorem d_XIn_findAddresses_25 : decode b_XIn_findAddresses 25 = .ok (.goto 4, 3) := by decide +kernel
theorem d_XIn_findAddresses_28 : decode b_XIn_findAddresses 28 = .ok (.iconst 0, 1) := by decide +kernel
theorem d_XIn_findAddresses_29 : decode b_XIn_findAddresses 29 = .ok (.istore_n 3, 1) := by decide +kernel
theorem d_XIn_findAddresses_30 : decode b_XIn_findAddresses 30 = .ok (.aload_n 0, 1) := by decide +kernel
theorem d_XIn_findAddresses_31 : decode b_XIn_findAddresses 31 = .ok (.aload_n 1, 1) := by decide +kernel
theorem d_XIn_findAddresses_32 : decode b_XIn_findAddresses 32 = .ok (.iload_n 2, 1) := by decide +kernel
theorem d_XIn_findAddresses_33 : decode b_XIn_findAddresses 33 = .ok (.iconst 2, 1) := by decide +kernel
theorem d_XIn_findAddresses_34 : decode b_XIn_findAddresses 34 = .ok (.iadd, 1) := by decide +kernel
theorem d_XIn_findAddresses_35 : decode b_XIn_findAddresses 35 = .ok (.invokestatic 53, 3) := by decide +kernel
theorem d_XIn_findAddresses_38 : decode b_XIn_findAddresses 38 = .ok (.iload_n 3, 1) := by decide +kernel
theorem d_XIn_findAddresses_39 : decode b_XIn_findAddresses 39 = .ok (.iadd, 1) := by decide +kernel
theorem d_XIn_findAddresses_40 : decode b_XIn_findAddresses 40 = .ok (.ldc 57, 2) := by decide +kernel
theorem d_XIn_findAddresses_42 : decode b_XIn_findAddresses 42 = .ok (.iand, 1) := by decide +kernel
theorem d_XIn_findAddresses_43 : decode b_XIn_findAddresses 43 = .ok (.putfield 58, 3) := by decide +kernel
theorem d_XIn_findAddresses_46 : decode b_XIn_findAddresses 46 = .ok (.aload_n 0, 1) := by decide +kernel
theorem d_XIn_findAddresses_47 : decode b_XIn_findAddresses 47 = .ok (.aload_n 0, 1) := by decide +kernel
theorem d_XIn_findAddresses_48 : decode b_XIn_findAddresses 48 = .ok (.getfield 29, 3) := by decide +kernel
theorem d_XIn_findAddresses_51 : decode b_XIn_findAddresses 51 = .ok (.sipush 192, 3) := by decide +kernel
theorem d_XIn_findAddresses_54 : decode b_XIn_findAddresses 54 = .ok (.if_icmp .ge 10, 3) := by decide +kernel
theorem d_XIn_findAddresses_57 : decode b_XIn_findAddresses 57 = .ok (.aload_n 0, 1) := by decide +kernel
theorem d_XIn_findAddresses_58 : decode b_XIn_findAddresses 58 = .ok (.getfield 58, 3) := by decide +kernel
theorem d_XIn_findAddresses_61 : decode b_XIn_findAddresses 61 = .ok (.goto 13, 3) := by decide +kernel
theorem d_XIn_findAddresses_64 : decode b_XIn_findAddresses 64 = .ok (.aload_n 1, 1) := by decide +kernel
theorem d_XIn_findAddresses_65 : decode b_XIn_findAddresses 65 = .ok (.iload_n 2, 1) := by decide +kernel
theorem d_XIn_findAddresses_66 : decode b_XIn_findAddresses 66 = .ok (.iconst 4, 1) := by decide +kernel
theorem d_XIn_findAddresses_67 : decode b_XIn_findAddresses 67 = .ok (.iadd, 1) := by decide +kernel
theorem d_XIn_findAddresses_68 : decode b_XIn_findAddresses 68 = .ok (.invokestatic 53, 3) := by decide +kernel
theorem d_XIn_findAddresses_71 : decode b_XIn_findAddresses 71 = .ok (.ldc 57, 2) := by decide +kernel
theorem d_XIn_findAddresses_73 : decode b_XIn_findAddresses 73 = .ok (.iand, 1) := by decide +kernel
theorem d_XIn_findAddresses_74 : decode b_XIn_findAddresses 74 = .ok (.putfield 61, 3) := by decide +kernel
theorem d_XIn_findAddresses_77 : decode b_XIn_findAddresses 77 = .ok (.return_, 1) := by decide +kernel
theorem d_XIn_fetch_0 : decode b_XIn_fetch 0 = .ok (.aload_n 1, 1) := by decide +kernel
theorem d_XIn_fetch_1 : decode b_XIn_fetch 1 = .ok (.getfield 9, 3) := by decide +kernel
theorem d_XIn_fetch_4 : decode b_XIn_fetch 4 = .ok (.istore_n 2, 1) := by decide +kernel
theorem d_XIn_fetch_5 : decode b_XIn_fetch 5 = .ok (.iload_n 2, 1) := by decide +kernel
theorem d_XIn_fetch_6 : decode b_XIn_fetch 6 = .ok (.iconst 1, 1) := by decide +kernel
theorem d_XIn_fetch_7 : decode b_XIn_fetch 7 = .ok (.iand, 1) := by decide +kernel
theorem d_XIn_fetch_8 : decode b_XIn_fetch 8 = .ok (.ifCond .eq 6, 3) := by decide +kernel
theorem d_XIn_fetch_11 : decode b_XIn_fetch 11 = .ok (.bipush 6, 2) := by decide +kernel
theorem d_XIn_fetch_13 : decode b_XIn_fetch 13 = .ok (.ireturn, 1) := by decide +kernel
theorem d_XIn_fetch_14 : decode b_XIn_fetch 14 = .ok (.aload_n 1, 1) := by decide +kernel
theorem d_XIn_fetch_15 : decode b_XIn_fetch 15 = .ok (.getfield 15, 3) := by decide +kernel
theorem d_XIn_fetch_18 : decode b_XIn_fetch 18 = .ok (.iload_n 2, 1) := by decide +kernel
theorem d_XIn_fetch_19 : decode b_XIn_fetch 19 = .ok (.iconst 2, 1) := by decide +kernel
theorem d_XIn_fetch_20 : decode b_XIn_fetch 20 = .ok (.invokevirtual 19, 3) := by decide +kernel
theorem d_XIn_fetch_23 : decode b_XIn_fetch 23 = .ok (.ifCond .ne 5, 3) := by decide +kernel
theorem d_XIn_fetch_26 : decode b_XIn_fetch 26 = .ok (.iconst 5, 1) := by decide +kernel
theorem d_XIn_fetch_27 : decode b_XIn_fetch 27 = .ok (.ireturn, 1) := by decide +kernel
theorem d_XIn_fetch_28 : decode b_XIn_fetch 28 = .ok (.aload_n 0, 1) := by decide +kernel
theorem d_XIn_fetch_29 : decode b_XIn_fetch 29 = .ok (.aload_n 1, 1) := by decide +kernel
theorem d_XIn_fetch_30 : decode b_XIn_fetch 30 = .ok (.getfield 15, 3) := by decide +kernel
theorem d_XIn_fetch_33 : decode b_XIn_fetch 33 = .ok (.iload_n 2, 1) := by decide +kernel
theorem d_XIn_fetch_34 : decode b_XIn_fetch 34 = .ok (.invokevirtual 25, 3) := by decide +kernel
theorem d_XIn_fetch_37 : decode b_XIn_fetch 37 = .ok (.putfield 29, 3) := by decide +kernel
theorem d_XIn_fetch_40 : decode b_XIn_fetch 40 = .ok (.aload_n 0, 1) := by decide +kernel
theorem d_XIn_fetch_41 : decode b_XIn_fetch 41 = .ok (.getfield 29, 3) := by decide +kernel
theorem d_XIn_fetch_44 : decode b_XIn_fetch 44 = .ok (.bipush 64, 2) := by decide +kernel
theorem d_XIn_fetch_46 : decode b_XIn_fetch 46 = .ok (.if_icmp .ge 7, 3) := by decide +kernel
theorem d_XIn_fetch_49 : decode b_XIn_fetch 49 = .ok (.iconst 2, 1) := by decide +kernel
theorem d_XIn_fetch_50 : decode b_XIn_fetch 50 = .ok (.goto 19, 3) := by decide +kernel
theorem d_XIn_fetch_53 : decode b_XIn_fetch 53 = .ok (.aload_n 0, 1) := by decide +kernel
theorem d_XIn_fetch_54 : decode b_XIn_fetch 54 = .ok (.getfield 29, 3) := by decide +kernel
theorem d_XIn_fetch_57 : decode b_XIn_fetch 57 = .ok (.sipush 192, 3) := by decide +kernel
theorem d_XIn_fetch_60 : decode b_XIn_fetch 60 = .ok (.if_icmp .ge 7, 3) := by decide +kernel
theorem d_XIn_fetch_63 : decode b_XIn_fetch 63 = .ok (.iconst 4, 1) := by decide +kernel
theorem d_XIn_fetch_64 : decode b_XIn_fetch 64 = .ok (.goto 5, 3) := by decide +kernel
theorem d_XIn_fetch_67 : decode b_XIn_fetch 67 = .ok (.bipush 6, 2) := by decide +kernel
theorem d_XIn_fetch_69 : decode b_XIn_fetch 69 = .ok (.istore_n 3, 1) := by decide +kernel
theorem d_XIn_fetch_70 : decode b_XIn_fetch 70 = .ok (.aload_n 1, 1) := by decide +kernel
theorem d_XIn_fetch_71 : decode b_XIn_fetch 71 = .ok (.getfield 15, 3) := by decide +kernel
theorem d_XIn_fetch_74 : decode b_XIn_fetch 74 = .ok (.iload_n 2, 1) := by decide +kernel
theorem d_XIn_fetch_75 : decode b_XIn_fetch 75 = .ok (.iload_n 3, 1) := by decide +kernel
theorem d_XIn_fetch_76 : decode b_XIn_fetch 76 = .ok (.invokevirtual 19, 3) := by decide +kernel
theorem d_XIn_fetch_79 : decode b_XIn_fetch 79 = .ok (.ifCond .ne 5, 3) := by decide +kernel
theorem d_XIn_fetch_82 : decode b_XIn_fetch 82 = .ok (.iconst 5, 1) := by decide +kernel
theorem d_XIn_fetch_83 : decode b_XIn_fetch 83 = .ok (.ireturn, 1) := by decide +kernel
theorem d_XIn_fetch_84 : decode b_XIn_fetch 84 = .ok (.aload_n 0, 1) := by decide +kernel
theorem d_XIn_fetch_85 : decode b_XIn_fetch 85 = .ok (.aload_n 1, 1) := by decide +kernel
theorem d_XIn_fetch_86 : decode b_XIn_fetch 86 = .ok (.getfield 15, 3) := by decide +kernel
theorem d_XIn_fetch_89 : decode b_XIn_fetch 89 = .ok (.iload_n 2, 1) := by decide +kernel
theorem d_XIn_fetch_90 : decode b_XIn_fetch 90 = .ok (.iconst 1, 1) := by decide +kernel
theorem d_XIn_fetch_91 : decode b_XIn_fetch 91 = .ok (.iadd, 1) := by decide +kernel
theorem d_XIn_fetch_92 : decode b_XIn_fetch 92 = .ok (.invokevirtual 25, 3) := by decide +kernel
theorem d_XIn_fetch_95 : decode b_XIn_fetch 95 = .ok (.putfield 34, 3) := by decide +kernel
theorem d_XIn_fetch_98 : decode b_XIn_fetch 98 = .ok (.aload_n 0, 1) := by decide +kernel
theorem d_XIn_fetch_99 : decode b_XIn_fetch 99 = .ok (.aload_n 0, 1) := by decide +kernel
theorem d_XIn_fetch_100 : decode b_XIn_fetch 100 = .ok (.getfield 34, 3) := by decide +kernel
theorem d_XIn_fetch_103 : decode b_XIn_fetch 103 = .ok (.iconst 4, 1) := by decide +kernel
theorem d_XIn_fetch_104 : decode b_XIn_fetch 104 = .ok (.ishr, 1) := by decide +kernel
theorem d_XIn_fetch_105 : decode b_XIn_fetch 105 = .ok (.putfield 37, 3) := by decide +kernel
theorem d_XIn_fetch_108 : decode b_XIn_fetch 108 = .ok (.aload_n 0, 1) := by decide +kernel
theorem d_XIn_fetch_109 : decode b_XIn_fetch 109 = .ok (.aload_n 0, 1) := by decide +kernel
theorem d_XIn_fetch_110 : decode b_XIn_fetch 110 = .ok (.getfield 34, 3) := by decide +kernel
theorem d_XIn_fetch_113 : decode b_XIn_fetch 113 = .ok (.bipush 15, 2) := by decide +kernel
theorem d_XIn_fetch_115 : decode b_XIn_fetch 115 = .ok (.iand, 1) := by decide +kernel
theorem d_XIn_fetch_116 : decode b_XIn_fetch 116 = .ok (.putfield 40, 3) := by decide +kernel
theorem d_XIn_fetch_119 : decode b_XIn_fetch 119 = .ok (.aload_n 0, 1) := by decide +kernel
theorem d_XIn_fetch_120 : decode b_XIn_fetch 120 = .ok (.iload_n 2, 1) := by decide +kernel
theorem d_XIn_fetch_121 : decode b_XIn_fetch 121 = .ok (.iload_n 3, 1) := by decide +kernel
theorem d_XIn_fetch_122 : decode b_XIn_fetch 122 = .ok (.iadd, 1) := by decide +kernel
theorem d_XIn_fetch_123 : decode b_XIn_fetch 123 = .ok (.putfield 43, 3) := by decide +kernel
theorem d_XIn_fetch_126 : decode b_XIn_fetch 126 = .ok (.iload_n 3, 1) := by decide +kernel
theorem d_XIn_fetch_127 : decode b_XIn_fetch 127 = .ok (.iconst 2, 1) := by decide +kernel
theorem d_XIn_fetch_128 : decode b_XIn_fetch 128 = .ok (.if_icmp .le 9, 3) := by decide +kernel
theorem d_XIn_fetch_131 : decode b_XIn_fetch 131 = .ok (.aload_n 0, 1) := by decide +kernel
theorem d_XIn_fetch_132 : decode b_XIn_fetch 132 = .ok (.aload_n 1, 1) := by decide +kernel
theorem d_XIn_fetch_133 : decode b_XIn_fetch 133 = .ok (.iload_n 2, 1) := by decide +kernel
theorem d_XIn_fetch_134 : decode b_XIn_fetch 134 = .ok (.invokevirtual 46, 3) := by decide +kernel
theorem d_XIn_fetch_137 : decode b_XIn_fetch 137 = .ok (.iconst 0, 1) := by decide +kernel
theorem d_XIn_fetch_138 : decode b_XIn_fetch 138 = .ok (.ireturn, 1) := by decide +kernel
theorem d_XMe_store_0 : decode b_XMe_store 0 = .ok (.lload_n 3, 1) := by decide +kernel
theorem d_XMe_store_1 : decode b_XMe_store 1 = .ok (.lstore 5, 2) := by decide +kernel
theorem d_XMe_store_3 : decode b_XMe_store 3 = .ok (.iload_n 2, 1) := by decide +kernel
theorem d_XMe_store_4 : decode b_XMe_store 4 = .ok (.iconst 1, 1) := by decide +kernel
theorem d_XMe_store_5 : decode b_XMe_store 5 = .ok (.isub, 1) := by decide +kernel
theorem d_XMe_store_6 : decode b_XMe_store 6 = .ok (.istore 7, 2) := by decide +kernel
theorem d_XMe_store_8 : decode b_XMe_store 8 = .ok (.iload 7, 2) := by decide +kernel
theorem d_XMe_store_10 : decode b_XMe_store 10 = .ok (.ifCond .lt 31, 3) := by decide +kernel
theorem d_XMe_store_13 : decode b_XMe_store 13 = .ok (.aload_n 0, 1) := by decide +kernel
theorem d_XMe_store_14 : decode b_XMe_store 14 = .ok (.iload_n 1, 1) := by decide +kernel
theorem d_XMe_store_15 : decode b_XMe_store 15 = .ok (.iload 7, 2) := by decide +kernel
theorem d_XMe_store_17 : decode b_XMe_store 17 = .ok (.iadd, 1) := by decide +kernel
theorem d_XMe_store_18 : decode b_XMe_store 18 = .ok (.lload 5, 2) := by decide +kernel
theorem d_XMe_store_20 : decode b_XMe_store 20 = .ok (.ldc2_w 23, 3) := by decide +kernel
theorem d_XMe_store_23 : decode b_XMe_store 23 = .ok (.land, 1) := by decide +kernel
theorem d_XMe_store_24 : decode b_XMe_store 24 = .ok (.l2i, 1) := by decide +kernel
theorem d_XMe_store_25 : decode b_XMe_store 25 = .ok (.invokevirtual 25, 3) := by decide +kernel
theorem d_XMe_store_28 : decode b_XMe_store 28 = .ok (.lload 5, 2) := by decide +kernel
theorem d_XMe_store_30 : decode b_XMe_store 30 = .ok (.bipush 8, 2) := by decide +kernel
theorem d_XMe_store_32 : decode b_XMe_store 32 = .ok (.lshr, 1) := by decide +kernel
theorem d_XMe_store_33 : decode b_XMe_store 33 = .ok (.lstore 5, 2) := by decide +kernel
theorem d_XMe_store_35 : decode b_XMe_store 35 = .ok (.iinc 7 (-1), 3) := by decide +kernel
theorem d_XMe_store_38 : decode b_XMe_store 38 = .ok (.goto (-30), 3) := by decide +kernel
theorem d_XMe_store_41 : decode b_XMe_store 41 = .ok (.return_, 1) := by decide +kernel
theorem d_XOc_testBits_0 : decode b_XOc_testBits 0 = .ok (.iload_n 1, 1) := by decide +kernel
theorem d_XOc_testBits_1 : decode b_XOc_testBits 1 = .ok (.iload_n 2, 1) := by decide +kernel
theorem d_XOc_testBits_2 : decode b_XOc_testBits 2 = .ok (.iand, 1) := by decide +kernel
theorem d_XOc_testBits_3 : decode b_XOc_testBits 3 = .ok (.istore_n 3, 1) := by decide +kernel
theorem d_XOc_testBits_4 : decode b_XOc_testBits 4 = .ok (.aload_n 0, 1) := by decide +kernel
theorem d_XOc_testBits_5 : decode b_XOc_testBits 5 = .ok (.getfield 9, 3) := by decide +kernel
theorem d_XOc_testBits_8 : decode b_XOc_testBits 8 = .ok (.iload_n 3, 1) := by decide +kernel
theorem d_XOc_testBits_9 : decode b_XOc_testBits 9 = .ok (.ifCond .ne 7, 3) := by decide +kernel
theorem d_XOc_testBits_12 : decode b_XOc_testBits 12 = .ok (.iconst 0, 1) := by decide +kernel
theorem d_XOc_testBits_13 : decode b_XOc_testBits 13 = .ok (.goto 13, 3) := by decide +kernel
theorem d_XOc_testBits_16 : decode b_XOc_testBits 16 = .ok (.iload_n 3, 1) := by decide +kernel
theorem d_XOc_testBits_17 : decode b_XOc_testBits 17 = .ok (.iload_n 2, 1) := by decide +kernel
theorem d_XOc_testBits_18 : decode b_XOc_testBits 18 = .ok (.if_icmp .ne 7, 3) := by decide +kernel
theorem d_XOc_testBits_21 : decode b_XOc_testBits 21 = .ok (.iconst 3, 1) := by decide +kernel
theorem d_XOc_testBits_22 : decode b_XOc_testBits 22 = .ok (.goto 4, 3) := by decide +kernel
theorem d_XOc_testBits_25 : decode b_XOc_testBits 25 = .ok (.iconst 1, 1) := by decide +kernel
theorem d_XOc_testBits_26 : decode b_XOc_testBits 26 = .ok (.putfield 72, 3) := by decide +kernel
theorem d_XOc_testBits_29 : decode b_XOc_testBits 29 = .ok (.return_, 1) := by decide +kernel
theorem d_XOc_putBits_0 : decode b_XOc_putBits 0 = .ok (.aload_n 0, 1) := by decide +kernel
theorem d_XOc_putBits_1 : decode b_XOc_putBits 1 = .ok (.getfield 21, 3) := by decide +kernel
theorem d_XOc_putBits_4 : decode b_XOc_putBits 4 = .ok (.iload_n 1, 1) := by decide +kernel
theorem d_XOc_putBits_5 : decode b_XOc_putBits 5 = .ok (.iload_n 2, 1) := by decide +kernel
theorem d_XOc_putBits_6 : decode b_XOc_putBits 6 = .ok (.invokevirtual 48, 3) := by decide +kernel
theorem d_XOc_putBits_9 : decode b_XOc_putBits 9 = .ok (.aload_n 0, 1) := by decide +kernel
theorem d_XOc_putBits_10 : decode b_XOc_putBits 10 = .ok (.getfield 9, 3) := by decide +kernel
theorem d_XOc_putBits_13 : decode b_XOc_putBits 13 = .ok (.iload_n 2, 1) := by decide +kernel
theorem d_XOc_putBits_14 : decode b_XOc_putBits 14 = .ok (.invokevirtual 75, 3) := by decide +kernel
theorem d_XOc_putBits_17 : decode b_XOc_putBits 17 = .ok (.iconst 0, 1) := by decide +kernel
theorem d_XOc_putBits_18 : decode b_XOc_putBits 18 = .ok (.ireturn, 1) := by decide +kernel
theorem d_XOc_withImmediate_0 : decode b_XOc_withImmediate 0 = .ok (.aload_n 0, 1) := by decide +kernel
theorem d_XOc_withImmediate_1 : decode b_XOc_withImmediate 1 = .ok (.getfield 21, 3) := by decide +kernel
theorem d_XOc_withImmediate_4 : decode b_XOc_withImmediate 4 = .ok (.aload_n 1, 1) := by decide +kernel
theorem d_XOc_withImmediate_5 : decode b_XOc_withImmediate 5 = .ok (.getfield 22, 3) := by decide +kernel
theorem d_XOc_withImmediate_8 : decode b_XOc_withImmediate 8 = .ok (.iconst 1, 1) := by decide +kernel
theorem d_XOc_withImmediate_9 : decode b_XOc_withImmediate 9 = .ok (.invokevirtual 28, 3) := by decide +kernel
theorem d_XOc_withImmediate_12 : decode b_XOc_withImmediate 12 = .ok (.ifCond .ne 5, 3) := by decide +kernel
theorem d_XOc_withImmediate_15 : decode b_XOc_withImmediate 15 = .ok (.iconst 5, 1) := by decide +kernel
theorem d_XOc_withImmediate_16 : decode b_XOc_withImmediate 16 = .ok (.ireturn, 1) := by decide +kernel
theorem d_XOc_withImmediate_17 : decode b_XOc_withImmediate 17 = .ok (.aload_n 0, 1) := by decide +kernel
theorem d_XOc_withImmediate_18 : decode b_XOc_withImmediate 18 = .ok (.getfield 21, 3) := by decide +kernel
theorem d_XOc_withImmediate_21 : decode b_XOc_withImmediate 21 = .ok (.aload_n 1, 1) := by decide +kernel
theorem d_XOc_withImmediate_22 : decode b_XOc_withImmediate 22 = .ok (.getfield 22, 3) := by decide +kernel
theorem d_XOc_withImmediate_25 : decode b_XOc_withImmediate 25 = .ok (.invokevirtual 34, 3) := by decide +kernel
theorem d_XOc_withImmediate_28 : decode b_XOc_withImmediate 28 = .ok (.istore_n 2, 1) := by decide +kernel
theorem d_XOc_withImmediate_29 : decode b_XOc_withImmediate 29 = .ok (.aload_n 1, 1) := by decide +kernel
theorem d_XOc_withImmediate_30 : decode b_XOc_withImmediate 30 = .ok (.getfield 38, 3) := by decide +kernel
theorem d_XOc_withImmediate_33 : decode b_XOc_withImmediate 33 = .ok (.tableswitch 113 145 150 #[39, 50, 113, 67, 82, 98], 39) := by decide +kernel
theorem d_XOc_withImmediate_72 : decode b_XOc_withImmediate 72 = .ok (.aload_n 0, 1) := by decide +kernel
theorem d_XOc_withImmediate_73 : decode b_XOc_withImmediate 73 = .ok (.iload_n 2, 1) := by decide +kernel
theorem d_XOc_withImmediate_74 : decode b_XOc_withImmediate 74 = .ok (.aload_n 1, 1) := by decide +kernel
theorem d_XOc_withImmediate_75 : decode b_XOc_withImmediate 75 = .ok (.getfield 41, 3) := by decide +kernel
theorem d_XOc_withImmediate_78 : decode b_XOc_withImmediate 78 = .ok (.invokevirtual 44, 3) := by decide +kernel
theorem d_XOc_withImmediate_81 : decode b_XOc_withImmediate 81 = .ok (.iconst 0, 1) := by decide +kernel
theorem d_XOc_withImmediate_82 : decode b_XOc_withImmediate 82 = .ok (.ireturn, 1) := by decide +kernel
theorem d_XOc_withImmediate_83 : decode b_XOc_withImmediate 83 = .ok (.aload_n 0, 1) := by decide +kernel
theorem d_XOc_withImmediate_84 : decode b_XOc_withImmediate 84 = .ok (.getfield 21, 3) := by decide +kernel
theorem d_XOc_withImmediate_87 : decode b_XOc_withImmediate 87 = .ok (.aload_n 1, 1) := by decide +kernel
theorem d_XOc_withImmediate_88 : decode b_XOc_withImmediate 88 = .ok (.getfield 22, 3) := by decide +kernel
theorem d_XOc_withImmediate_91 : decode b_XOc_withImmediate 91 = .ok (.aload_n 1, 1) := by decide +kernel
theorem d_XOc_withImmediate_92 : decode b_XOc_withImmediate 92 = .ok (.getfield 41, 3) := by decide +kernel
theorem d_XOc_withImmediate_95 : decode b_XOc_withImmediate 95 = .ok (.invokevirtual 48, 3) := by decide +kernel
theorem d_XOc_withImmediate_98 : decode b_XOc_withImmediate 98 = .ok (.iconst 0, 1) := by decide +kernel
theorem d_XOc_withImmediate_99 : decode b_XOc_withImmediate 99 = .ok (.ireturn, 1) := by decide +kernel
theorem d_XOc_withImmediate_100 : decode b_XOc_withImmediate 100 = .ok (.aload_n 0, 1) := by decide +kernel
theorem d_XOc_withImmediate_101 : decode b_XOc_withImmediate 101 = .ok (.aload_n 1, 1) := by decide +kernel
theorem d_XOc_withImmediate_102 : decode b_XOc_withImmediate 102 = .ok (.getfield 22, 3) := by decide +kernel
theorem d_XOc_withImmediate_105 : decode b_XOc_withImmediate 105 = .ok (.iload_n 2, 1) := by decide +kernel
theorem d_XOc_withImmediate_106 : decode b_XOc_withImmediate 106 = .ok (.aload_n 1, 1) := by decide +kernel
theorem d_XOc_withImmediate_107 : decode b_XOc_withImmediate 107 = .ok (.getfield 41, 3) := by decide +kernel
theorem d_XOc_withImmediate_110 : decode b_XOc_withImmediate 110 = .ok (.iand, 1) := by decide +kernel
theorem d_XOc_withImmediate_111 : decode b_XOc_withImmediate 111 = .ok (.invokevirtual 51, 3) := by decide +kernel
theorem d_XOc_withImmediate_114 : decode b_XOc_withImmediate 114 = .ok (.ireturn, 1) := by decide +kernel
theorem d_XOc_withImmediate_115 : decode b_XOc_withImmediate 115 = .ok (.aload_n 0, 1) := by decide +kernel
theorem d_XOc_withImmediate_116 : decode b_XOc_withImmediate 116 = .ok (.getfield 9, 3) := by decide +kernel
theorem d_XOc_withImmediate_119 : decode b_XOc_withImmediate 119 = .ok (.iload_n 2, 1) := by decide +kernel
theorem d_XOc_withImmediate_120 : decode b_XOc_withImmediate 120 = .ok (.aload_n 1, 1) := by decide +kernel
theorem d_XOc_withImmediate_121 : decode b_XOc_withImmediate 121 = .ok (.getfield 41, 3) := by decide +kernel
theorem d_XOc_withImmediate_124 : decode b_XOc_withImmediate 124 = .ok (.isub, 1) := by decide +kernel
theorem d_XOc_withImmediate_125 : decode b_XOc_withImmediate 125 = .ok (.i2l, 1) := by decide +kernel
theorem d_XOc_withImmediate_126 : decode b_XOc_withImmediate 126 = .ok (.invokevirtual 55, 3) := by decide +kernel
theorem d_XOc_withImmediate_129 : decode b_XOc_withImmediate 129 = .ok (.iconst 0, 1) := by decide +kernel
theorem d_XOc_withImmediate_130 : decode b_XOc_withImmediate 130 = .ok (.ireturn, 1) := by decide +kernel
theorem d_XOc_withImmediate_131 : decode b_XOc_withImmediate 131 = .ok (.aload_n 0, 1) := by decide +kernel
theorem d_XOc_withImmediate_132 : decode b_XOc_withImmediate 132 = .ok (.aload_n 1, 1) := by decide +kernel
theorem d_XOc_withImmediate_133 : decode b_XOc_withImmediate 133 = .ok (.getfield 22, 3) := by decide +kernel
theorem d_XOc_withImmediate_136 : decode b_XOc_withImmediate 136 = .ok (.iload_n 2, 1) := by decide +kernel
theorem d_XOc_withImmediate_137 : decode b_XOc_withImmediate 137 = .ok (.aload_n 1, 1) := by decide +kernel
theorem d_XOc_withImmediate_138 : decode b_XOc_withImmediate 138 = .ok (.getfield 41, 3) := by decide +kernel
theorem d_XOc_withImmediate_141 : decode b_XOc_withImmediate 141 = .ok (.ior, 1) := by decide +kernel
theorem d_XOc_withImmediate_142 : decode b_XOc_withImmediate 142 = .ok (.invokevirtual 51, 3) := by decide +kernel
theorem d_XOc_withImmediate_145 : decode b_XOc_withImmediate 145 = .ok (.ireturn, 1) := by decide +kernel
theorem d_XOc_withImmediate_146 : decode b_XOc_withImmediate 146 = .ok (.aload_n 0, 1) := by decide +kernel
theorem d_XOc_withImmediate_147 : decode b_XOc_withImmediate 147 = .ok (.aload_n 1, 1) := by decide +kernel
theorem d_XOc_withImmediate_148 : decode b_XOc_withImmediate 148 = .ok (.getfield 22, 3) := by decide +kernel
theorem d_XOc_withImmediate_151 : decode b_XOc_withImmediate 151 = .ok (.iload_n 2, 1) := by decide +kernel
theorem d_XOc_withImmediate_152 : decode b_XOc_withImmediate 152 = .ok (.aload_n 1, 1) := by decide +kernel
theorem d_XOc_withImmediate_153 : decode b_XOc_withImmediate 153 = .ok (.getfield 41, 3) := by decide +kernel
theorem d_XOc_withImmediate_156 : decode b_XOc_withImmediate 156 = .ok (.ixor, 1) := by decide +kernel
theorem d_XOc_withImmediate_157 : decode b_XOc_withImmediate 157 = .ok (.invokevirtual 51, 3) := by decide +kernel
theorem d_XOc_withImmediate_160 : decode b_XOc_withImmediate 160 = .ok (.ireturn, 1) := by decide +kernel
theorem d_XOc_entry_0 : decode b_XOc_entry 0 = .ok (.aload_n 1, 1) := by decide +kernel
theorem d_XOc_entry_1 : decode b_XOc_entry 1 = .ok (.getfield 63, 3) := by decide +kernel
theorem d_XOc_entry_4 : decode b_XOc_entry 4 = .ok (.aload_n 0, 1) := by decide +kernel
theorem d_XOc_entry_5 : decode b_XOc_entry 5 = .ok (.getfield 21, 3) := by decide +kernel
theorem d_XOc_entry_8 : decode b_XOc_entry 8 = .ok (.aload_n 1, 1) := by decide +kernel
theorem d_XOc_entry_9 : decode b_XOc_entry 9 = .ok (.getfield 22, 3) := by decide +kernel
theorem d_XOc_entry_12 : decode b_XOc_entry 12 = .ok (.iload_n 2, 1) := by decide +kernel
theorem d_XOc_entry_13 : decode b_XOc_entry 13 = .ok (.iadd, 1) := by decide +kernel
theorem d_XOc_entry_14 : decode b_XOc_entry 14 = .ok (.invokevirtual 34, 3) := by decide +kernel
theorem d_XOc_entry_17 : decode b_XOc_entry 17 = .ok (.iadd, 1) := by decide +kernel
theorem d_XOc_entry_18 : decode b_XOc_entry 18 = .ok (.ldc 86, 2) := by decide +kernel
theorem d_XOc_entry_20 : decode b_XOc_entry 20 = .ok (.iand, 1) := by decide +kernel
theorem d_XOc_entry_21 : decode b_XOc_entry 21 = .ok (.ireturn, 1) := by decide +kernel
theorem d_XOc_translate_0 : decode b_XOc_translate 0 = .ok (.iconst 0, 1) := by decide +kernel
theorem d_XOc_translate_1 : decode b_XOc_translate 1 = .ok (.istore_n 3, 1) := by decide +kernel
theorem d_XOc_translate_2 : decode b_XOc_translate 2 = .ok (.iload_n 3, 1) := by decide +kernel
theorem d_XOc_translate_3 : decode b_XOc_translate 3 = .ok (.iload_n 2, 1) := by decide +kernel
theorem d_XOc_translate_4 : decode b_XOc_translate 4 = .ok (.if_icmp .ge 28, 3) := by decide +kernel
theorem d_XOc_translate_7 : decode b_XOc_translate 7 = .ok (.aload_n 0, 1) := by decide +kernel
theorem d_XOc_translate_8 : decode b_XOc_translate 8 = .ok (.getfield 21, 3) := by decide +kernel
theorem d_XOc_translate_11 : decode b_XOc_translate 11 = .ok (.aload_n 0, 1) := by decide +kernel
theorem d_XOc_translate_12 : decode b_XOc_translate 12 = .ok (.aload_n 1, 1) := by decide +kernel
theorem d_XOc_translate_13 : decode b_XOc_translate 13 = .ok (.iload_n 3, 1) := by decide +kernel
theorem d_XOc_translate_14 : decode b_XOc_translate 14 = .ok (.invokevirtual 83, 3) := by decide +kernel
theorem d_XOc_translate_17 : decode b_XOc_translate 17 = .ok (.iconst 1, 1) := by decide +kernel
theorem d_XOc_translate_18 : decode b_XOc_translate 18 = .ok (.invokevirtual 28, 3) := by decide +kernel
theorem d_XOc_translate_21 : decode b_XOc_translate 21 = .ok (.ifCond .ne 5, 3) := by decide +kernel
theorem d_XOc_translate_24 : decode b_XOc_translate 24 = .ok (.iconst 5, 1) := by decide +kernel
theorem d_XOc_translate_25 : decode b_XOc_translate 25 = .ok (.ireturn, 1) := by decide +kernel
theorem d_XOc_translate_26 : decode b_XOc_translate 26 = .ok (.iinc 3 1, 3) := by decide +kernel
theorem d_XOc_translate_29 : decode b_XOc_translate 29 = .ok (.goto (-27), 3) := by decide +kernel
theorem d_XOc_translate_32 : decode b_XOc_translate 32 = .ok (.iconst 0, 1) := by decide +kernel
theorem d_XOc_translate_33 : decode b_XOc_translate 33 = .ok (.istore_n 3, 1) := by decide +kernel
theorem d_XOc_translate_34 : decode b_XOc_translate 34 = .ok (.iload_n 3, 1) := by decide +kernel
theorem d_XOc_translate_35 : decode b_XOc_translate 35 = .ok (.iload_n 2, 1) := by decide +kernel
theorem d_XOc_translate_36 : decode b_XOc_translate 36 = .ok (.if_icmp .ge 35, 3) := by decide +kernel
theorem d_XOc_translate_39 : decode b_XOc_translate 39 = .ok (.aload_n 0, 1) := by decide +kernel
theorem d_XOc_translate_40 : decode b_XOc_translate 40 = .ok (.getfield 21, 3) := by decide +kernel
theorem d_XOc_translate_43 : decode b_XOc_translate 43 = .ok (.aload_n 1, 1) := by decide +kernel
theorem d_XOc_translate_44 : decode b_XOc_translate 44 = .ok (.getfield 22, 3) := by decide +kernel
theorem d_XOc_translate_47 : decode b_XOc_translate 47 = .ok (.iload_n 3, 1) := by decide +kernel
theorem d_XOc_translate_48 : decode b_XOc_translate 48 = .ok (.iadd, 1) := by decide +kernel
theorem d_XOc_translate_49 : decode b_XOc_translate 49 = .ok (.aload_n 0, 1) := by decide +kernel
theorem d_XOc_translate_50 : decode b_XOc_translate 50 = .ok (.getfield 21, 3) := by decide +kernel
theorem d_XOc_translate_53 : decode b_XOc_translate 53 = .ok (.aload_n 0, 1) := by decide +kernel
theorem d_XOc_translate_54 : decode b_XOc_translate 54 = .ok (.aload_n 1, 1) := by decide +kernel
theorem d_XOc_translate_55 : decode b_XOc_translate 55 = .ok (.iload_n 3, 1) := by decide +kernel
theorem d_XOc_translate_56 : decode b_XOc_translate 56 = .ok (.invokevirtual 83, 3) := by decide +kernel
theorem d_XOc_translate_59 : decode b_XOc_translate 59 = .ok (.invokevirtual 34, 3) := by decide +kernel
theorem d_XOc_translate_62 : decode b_XOc_translate 62 = .ok (.invokevirtual 48, 3) := by decide +kernel
theorem d_XOc_translate_65 : decode b_XOc_translate 65 = .ok (.iinc 3 1, 3) := by decide +kernel
theorem d_XOc_translate_68 : decode b_XOc_translate 68 = .ok (.goto (-34), 3) := by decide +kernel
theorem d_XOc_translate_71 : decode b_XOc_translate 71 = .ok (.iconst 0, 1) := by decide +kernel
theorem d_XOc_translate_72 : decode b_XOc_translate 72 = .ok (.ireturn, 1) := by decide +kernel
theorem d_XOc_compare_0 : decode b_XOc_compare 0 = .ok (.iconst 0, 1) := by decide +kernel
theorem d_XOc_compare_1 : decode b_XOc_compare 1 = .ok (.istore_n 3, 1) := by decide +kernel
theorem d_XOc_compare_2 : decode b_XOc_compare 2 = .ok (.iconst 0, 1) := by decide +kernel
theorem d_XOc_compare_3 : decode b_XOc_compare 3 = .ok (.istore 4, 2) := by decide +kernel
theorem d_XOc_compare_5 : decode b_XOc_compare 5 = .ok (.iload 4, 2) := by decide +kernel
theorem d_XOc_compare_7 : decode b_XOc_compare 7 = .ok (.iload_n 2, 1) := by decide +kernel
theorem d_XOc_compare_8 : decode b_XOc_compare 8 = .ok (.if_icmp .ge 43, 3) := by decide +kernel
theorem d_XOc_compare_11 : decode b_XOc_compare 11 = .ok (.iload_n 3, 1) := by decide +kernel
theorem d_XOc_compare_12 : decode b_XOc_compare 12 = .ok (.ifCond .ne 39, 3) := by decide +kernel
theorem d_XOc_compare_15 : decode b_XOc_compare 15 = .ok (.aload_n 0, 1) := by decide +kernel
theorem d_XOc_compare_16 : decode b_XOc_compare 16 = .ok (.getfield 21, 3) := by decide +kernel
theorem d_XOc_compare_19 : decode b_XOc_compare 19 = .ok (.aload_n 1, 1) := by decide +kernel
theorem d_XOc_compare_20 : decode b_XOc_compare 20 = .ok (.getfield 22, 3) := by decide +kernel
theorem d_XOc_compare_23 : decode b_XOc_compare 23 = .ok (.iload 4, 2) := by decide +kernel
theorem d_XOc_compare_25 : decode b_XOc_compare 25 = .ok (.iadd, 1) := by decide +kernel
theorem d_XOc_compare_26 : decode b_XOc_compare 26 = .ok (.invokevirtual 34, 3) := by decide +kernel
theorem d_XOc_compare_29 : decode b_XOc_compare 29 = .ok (.aload_n 0, 1) := by decide +kernel
theorem d_XOc_compare_30 : decode b_XOc_compare 30 = .ok (.getfield 21, 3) := by decide +kernel
theorem d_XOc_compare_33 : decode b_XOc_compare 33 = .ok (.aload_n 1, 1) := by decide +kernel
theorem d_XOc_compare_34 : decode b_XOc_compare 34 = .ok (.getfield 63, 3) := by decide +kernel
theorem d_XOc_compare_37 : decode b_XOc_compare 37 = .ok (.iload 4, 2) := by decide +kernel
theorem d_XOc_compare_39 : decode b_XOc_compare 39 = .ok (.iadd, 1) := by decide +kernel
theorem d_XOc_compare_40 : decode b_XOc_compare 40 = .ok (.invokevirtual 34, 3) := by decide +kernel
theorem d_XOc_compare_43 : decode b_XOc_compare 43 = .ok (.isub, 1) := by decide +kernel
theorem d_XOc_compare_44 : decode b_XOc_compare 44 = .ok (.istore_n 3, 1) := by decide +kernel
theorem d_XOc_compare_45 : decode b_XOc_compare 45 = .ok (.iinc 4 1, 3) := by decide +kernel
theorem d_XOc_compare_48 : decode b_XOc_compare 48 = .ok (.goto (-43), 3) := by decide +kernel
theorem d_XOc_compare_51 : decode b_XOc_compare 51 = .ok (.aload_n 0, 1) := by decide +kernel
theorem d_XOc_compare_52 : decode b_XOc_compare 52 = .ok (.getfield 9, 3) := by decide +kernel
