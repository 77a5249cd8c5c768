theorem d_XAr_withWord_37 : decode b_XAr_withWord 37 = .ok (.istore_n 3, 1) := by decide +kernel
theorem d_XAr_withWord_38 : decode b_XAr_withWord 38 = .ok (.iload_n 3, 1) := by decide +kernel
theorem d_XAr_withWord_39 : decode b_XAr_withWord 39 = .ok (.ifCond .eq 7, 3) := by decide +kernel
theorem d_XAr_withWord_42 : decode b_XAr_withWord 42 = .ok (.iload_n 3, 1) := by decide +kernel
theorem d_XAr_withWord_43 : decode b_XAr_withWord 43 = .ok (.goto 26, 3) := by decide +kernel
theorem d_XAr_withWord_46 : decode b_XAr_withWord 46 = .ok (.aload_n 0, 1) := by decide +kernel
theorem d_XAr_withWord_47 : decode b_XAr_withWord 47 = .ok (.iload_n 2, 1) := by decide +kernel
theorem d_XAr_withWord_48 : decode b_XAr_withWord 48 = .ok (.aload_n 1, 1) := by decide +kernel
theorem d_XAr_withWord_49 : decode b_XAr_withWord 49 = .ok (.getfield 21, 3) := by decide +kernel
theorem d_XAr_withWord_52 : decode b_XAr_withWord 52 = .ok (.aload_n 0, 1) := by decide +kernel
theorem d_XAr_withWord_53 : decode b_XAr_withWord 53 = .ok (.getfield 9, 3) := by decide +kernel
theorem d_XAr_withWord_56 : decode b_XAr_withWord 56 = .ok (.getfield 41, 3) := by decide +kernel
theorem d_XAr_withWord_59 : decode b_XAr_withWord 59 = .ok (.aload_n 1, 1) := by decide +kernel
theorem d_XAr_withWord_60 : decode b_XAr_withWord 60 = .ok (.getfield 45, 3) := by decide +kernel
theorem d_XAr_withWord_63 : decode b_XAr_withWord 63 = .ok (.invokevirtual 54, 3) := by decide +kernel
theorem d_XAr_withWord_66 : decode b_XAr_withWord 66 = .ok (.invokevirtual 37, 3) := by decide +kernel
theorem d_XAr_withWord_69 : decode b_XAr_withWord 69 = .ok (.ireturn, 1) := by decide +kernel
theorem d_XMe_half_0 : decode b_XMe_half 0 = .ok (.aload_n 0, 1) := by decide +kernel
theorem d_XMe_half_1 : decode b_XMe_half 1 = .ok (.iload_n 1, 1) := by decide +kernel
theorem d_XMe_half_2 : decode b_XMe_half 2 = .ok (.invokevirtual 19, 3) := by decide +kernel
theorem d_XMe_half_5 : decode b_XMe_half 5 = .ok (.bipush 8, 2) := by decide +kernel
theorem d_XMe_half_7 : decode b_XMe_half 7 = .ok (.ishl, 1) := by decide +kernel
theorem d_XMe_half_8 : decode b_XMe_half 8 = .ok (.aload_n 0, 1) := by decide +kernel
theorem d_XMe_half_9 : decode b_XMe_half 9 = .ok (.iload_n 1, 1) := by decide +kernel
theorem d_XMe_half_10 : decode b_XMe_half 10 = .ok (.iconst 1, 1) := by decide +kernel
theorem d_XMe_half_11 : decode b_XMe_half 11 = .ok (.iadd, 1) := by decide +kernel
theorem d_XMe_half_12 : decode b_XMe_half 12 = .ok (.invokevirtual 19, 3) := by decide +kernel
theorem d_XMe_half_15 : decode b_XMe_half 15 = .ok (.ior, 1) := by decide +kernel
theorem d_XMe_half_16 : decode b_XMe_half 16 = .ok (.i2s, 1) := by decide +kernel
theorem d_XMe_half_17 : decode b_XMe_half 17 = .ok (.ireturn, 1) := by decide +kernel
theorem d_XAr_withHalf_0 : decode b_XAr_withHalf 0 = .ok (.aload_n 0, 1) := by decide +kernel
theorem d_XAr_withHalf_1 : decode b_XAr_withHalf 1 = .ok (.getfield 9, 3) := by decide +kernel
theorem d_XAr_withHalf_4 : decode b_XAr_withHalf 4 = .ok (.getfield 41, 3) := by decide +kernel
theorem d_XAr_withHalf_7 : decode b_XAr_withHalf 7 = .ok (.aload_n 1, 1) := by decide +kernel
theorem d_XAr_withHalf_8 : decode b_XAr_withHalf 8 = .ok (.getfield 45, 3) := by decide +kernel
theorem d_XAr_withHalf_11 : decode b_XAr_withHalf 11 = .ok (.iconst 2, 1) := by decide +kernel
theorem d_XAr_withHalf_12 : decode b_XAr_withHalf 12 = .ok (.invokevirtual 48, 3) := by decide +kernel
theorem d_XAr_withHalf_15 : decode b_XAr_withHalf 15 = .ok (.istore_n 2, 1) := by decide +kernel
theorem d_XAr_withHalf_16 : decode b_XAr_withHalf 16 = .ok (.iload_n 2, 1) := by decide +kernel
theorem d_XAr_withHalf_17 : decode b_XAr_withHalf 17 = .ok (.ifCond .eq 5, 3) := by decide +kernel
theorem d_XAr_withHalf_20 : decode b_XAr_withHalf 20 = .ok (.iload_n 2, 1) := by decide +kernel
theorem d_XAr_withHalf_21 : decode b_XAr_withHalf 21 = .ok (.ireturn, 1) := by decide +kernel
theorem d_XAr_withHalf_22 : decode b_XAr_withHalf 22 = .ok (.aload_n 0, 1) := by decide +kernel
theorem d_XAr_withHalf_23 : decode b_XAr_withHalf 23 = .ok (.getfield 9, 3) := by decide +kernel
theorem d_XAr_withHalf_26 : decode b_XAr_withHalf 26 = .ok (.getfield 41, 3) := by decide +kernel
theorem d_XAr_withHalf_29 : decode b_XAr_withHalf 29 = .ok (.aload_n 1, 1) := by decide +kernel
theorem d_XAr_withHalf_30 : decode b_XAr_withHalf 30 = .ok (.getfield 45, 3) := by decide +kernel
theorem d_XAr_withHalf_33 : decode b_XAr_withHalf 33 = .ok (.invokevirtual 57, 3) := by decide +kernel
theorem d_XAr_withHalf_36 : decode b_XAr_withHalf 36 = .ok (.istore_n 3, 1) := by decide +kernel
theorem d_XAr_withHalf_37 : decode b_XAr_withHalf 37 = .ok (.aload_n 1, 1) := by decide +kernel
theorem d_XAr_withHalf_38 : decode b_XAr_withHalf 38 = .ok (.getfield 15, 3) := by decide +kernel
theorem d_XAr_withHalf_41 : decode b_XAr_withHalf 41 = .ok (.bipush 76, 2) := by decide +kernel
theorem d_XAr_withHalf_43 : decode b_XAr_withHalf 43 = .ok (.if_icmp .ne 29, 3) := by decide +kernel
theorem d_XAr_withHalf_46 : decode b_XAr_withHalf 46 = .ok (.aload_n 0, 1) := by decide +kernel
theorem d_XAr_withHalf_47 : decode b_XAr_withHalf 47 = .ok (.getfield 9, 3) := by decide +kernel
theorem d_XAr_withHalf_50 : decode b_XAr_withHalf 50 = .ok (.aload_n 1, 1) := by decide +kernel
theorem d_XAr_withHalf_51 : decode b_XAr_withHalf 51 = .ok (.getfield 21, 3) := by decide +kernel
theorem d_XAr_withHalf_54 : decode b_XAr_withHalf 54 = .ok (.aload_n 0, 1) := by decide +kernel
theorem d_XAr_withHalf_55 : decode b_XAr_withHalf 55 = .ok (.getfield 9, 3) := by decide +kernel
theorem d_XAr_withHalf_58 : decode b_XAr_withHalf 58 = .ok (.aload_n 1, 1) := by decide +kernel
theorem d_XAr_withHalf_59 : decode b_XAr_withHalf 59 = .ok (.getfield 21, 3) := by decide +kernel
theorem d_XAr_withHalf_62 : decode b_XAr_withHalf 62 = .ok (.invokevirtual 31, 3) := by decide +kernel
theorem d_XAr_withHalf_65 : decode b_XAr_withHalf 65 = .ok (.iload_n 3, 1) := by decide +kernel
theorem d_XAr_withHalf_66 : decode b_XAr_withHalf 66 = .ok (.imul, 1) := by decide +kernel
theorem d_XAr_withHalf_67 : decode b_XAr_withHalf 67 = .ok (.invokevirtual 60, 3) := by decide +kernel
theorem d_XAr_withHalf_70 : decode b_XAr_withHalf 70 = .ok (.iconst 0, 1) := by decide +kernel
theorem d_XAr_withHalf_71 : decode b_XAr_withHalf 71 = .ok (.ireturn, 1) := by decide +kernel
theorem d_XAr_withHalf_72 : decode b_XAr_withHalf 72 = .ok (.aload_n 0, 1) := by decide +kernel
theorem d_XAr_withHalf_73 : decode b_XAr_withHalf 73 = .ok (.aload_n 1, 1) := by decide +kernel
theorem d_XAr_withHalf_74 : decode b_XAr_withHalf 74 = .ok (.getfield 15, 3) := by decide +kernel
theorem d_XAr_withHalf_77 : decode b_XAr_withHalf 77 = .ok (.bipush 48, 2) := by decide +kernel
theorem d_XAr_withHalf_79 : decode b_XAr_withHalf 79 = .ok (.isub, 1) := by decide +kernel
theorem d_XAr_withHalf_80 : decode b_XAr_withHalf 80 = .ok (.aload_n 1, 1) := by decide +kernel
theorem d_XAr_withHalf_81 : decode b_XAr_withHalf 81 = .ok (.getfield 21, 3) := by decide +kernel
theorem d_XAr_withHalf_84 : decode b_XAr_withHalf 84 = .ok (.iload_n 3, 1) := by decide +kernel
theorem d_XAr_withHalf_85 : decode b_XAr_withHalf 85 = .ok (.invokevirtual 37, 3) := by decide +kernel
theorem d_XAr_withHalf_88 : decode b_XAr_withHalf 88 = .ok (.ireturn, 1) := by decide +kernel
theorem d_XAr_shiftLeftBelowSign_0 : decode b_XAr_shiftLeftBelowSign 0 = .ok (.aload_n 0, 1) := by decide +kernel
theorem d_XAr_shiftLeftBelowSign_1 : decode b_XAr_shiftLeftBelowSign 1 = .ok (.getfield 9, 3) := by decide +kernel
theorem d_XAr_shiftLeftBelowSign_4 : decode b_XAr_shiftLeftBelowSign 4 = .ok (.iload_n 1, 1) := by decide +kernel
theorem d_XAr_shiftLeftBelowSign_5 : decode b_XAr_shiftLeftBelowSign 5 = .ok (.invokevirtual 31, 3) := by decide +kernel
theorem d_XAr_shiftLeftBelowSign_8 : decode b_XAr_shiftLeftBelowSign 8 = .ok (.istore_n 3, 1) := by decide +kernel
theorem d_XAr_shiftLeftBelowSign_9 : decode b_XAr_shiftLeftBelowSign 9 = .ok (.iload_n 3, 1) := by decide +kernel
theorem d_XAr_shiftLeftBelowSign_10 : decode b_XAr_shiftLeftBelowSign 10 = .ok (.ldc 113, 2) := by decide +kernel
theorem d_XAr_shiftLeftBelowSign_12 : decode b_XAr_shiftLeftBelowSign 12 = .ok (.iand, 1) := by decide +kernel
theorem d_XAr_shiftLeftBelowSign_13 : decode b_XAr_shiftLeftBelowSign 13 = .ok (.istore 4, 2) := by decide +kernel
theorem d_XAr_shiftLeftBelowSign_15 : decode b_XAr_shiftLeftBelowSign 15 = .ok (.iconst 0, 1) := by decide +kernel
theorem d_XAr_shiftLeftBelowSign_16 : decode b_XAr_shiftLeftBelowSign 16 = .ok (.istore 5, 2) := by decide +kernel
theorem d_XAr_shiftLeftBelowSign_18 : decode b_XAr_shiftLeftBelowSign 18 = .ok (.iconst 0, 1) := by decide +kernel
theorem d_XAr_shiftLeftBelowSign_19 : decode b_XAr_shiftLeftBelowSign 19 = .ok (.istore 6, 2) := by decide +kernel
theorem d_XAr_shiftLeftBelowSign_21 : decode b_XAr_shiftLeftBelowSign 21 = .ok (.iload 6, 2) := by decide +kernel
theorem d_XAr_shiftLeftBelowSign_23 : decode b_XAr_shiftLeftBelowSign 23 = .ok (.iload_n 2, 1) := by decide +kernel
theorem d_XAr_shiftLeftBelowSign_24 : decode b_XAr_shiftLeftBelowSign 24 = .ok (.if_icmp .ge 45, 3) := by decide +kernel
theorem d_XAr_shiftLeftBelowSign_27 : decode b_XAr_shiftLeftBelowSign 27 = .ok (.iload_n 3, 1) := by decide +kernel
theorem d_XAr_shiftLeftBelowSign_28 : decode b_XAr_shiftLeftBelowSign 28 = .ok (.iconst 1, 1) := by decide +kernel
theorem d_XAr_shiftLeftBelowSign_29 : decode b_XAr_shiftLeftBelowSign 29 = .ok (.ishl, 1) := by decide +kernel
theorem d_XAr_shiftLeftBelowSign_30 : decode b_XAr_shiftLeftBelowSign 30 = .ok (.istore 7, 2) := by decide +kernel
theorem d_XAr_shiftLeftBelowSign_32 : decode b_XAr_shiftLeftBelowSign 32 = .ok (.iload 5, 2) := by decide +kernel
theorem d_XAr_shiftLeftBelowSign_34 : decode b_XAr_shiftLeftBelowSign 34 = .ok (.ifCond .ne 13, 3) := by decide +kernel
theorem d_XAr_shiftLeftBelowSign_37 : decode b_XAr_shiftLeftBelowSign 37 = .ok (.iload 7, 2) := by decide +kernel
theorem d_XAr_shiftLeftBelowSign_39 : decode b_XAr_shiftLeftBelowSign 39 = .ok (.ldc 113, 2) := by decide +kernel
theorem d_XAr_shiftLeftBelowSign_41 : decode b_XAr_shiftLeftBelowSign 41 = .ok (.iand, 1) := by decide +kernel
theorem d_XAr_shiftLeftBelowSign_42 : decode b_XAr_shiftLeftBelowSign 42 = .ok (.iload 4, 2) := by decide +kernel
theorem d_XAr_shiftLeftBelowSign_44 : decode b_XAr_shiftLeftBelowSign 44 = .ok (.if_icmp .eq 7, 3) := by decide +kernel
theorem d_XAr_shiftLeftBelowSign_47 : decode b_XAr_shiftLeftBelowSign 47 = .ok (.iconst 1, 1) := by decide +kernel
theorem d_XAr_shiftLeftBelowSign_48 : decode b_XAr_shiftLeftBelowSign 48 = .ok (.goto 4, 3) := by decide +kernel
theorem d_XAr_shiftLeftBelowSign_51 : decode b_XAr_shiftLeftBelowSign 51 = .ok (.iconst 0, 1) := by decide +kernel
theorem d_XAr_shiftLeftBelowSign_52 : decode b_XAr_shiftLeftBelowSign 52 = .ok (.istore 5, 2) := by decide +kernel
theorem d_XAr_shiftLeftBelowSign_54 : decode b_XAr_shiftLeftBelowSign 54 = .ok (.iload 7, 2) := by decide +kernel
theorem d_XAr_shiftLeftBelowSign_56 : decode b_XAr_shiftLeftBelowSign 56 = .ok (.ldc 114, 2) := by decide +kernel
theorem d_XAr_shiftLeftBelowSign_58 : decode b_XAr_shiftLeftBelowSign 58 = .ok (.iand, 1) := by decide +kernel
theorem d_XAr_shiftLeftBelowSign_59 : decode b_XAr_shiftLeftBelowSign 59 = .ok (.iload 4, 2) := by decide +kernel
theorem d_XAr_shiftLeftBelowSign_61 : decode b_XAr_shiftLeftBelowSign 61 = .ok (.ior, 1) := by decide +kernel
theorem d_XAr_shiftLeftBelowSign_62 : decode b_XAr_shiftLeftBelowSign 62 = .ok (.istore_n 3, 1) := by decide +kernel
theorem d_XAr_shiftLeftBelowSign_63 : decode b_XAr_shiftLeftBelowSign 63 = .ok (.iinc 6 1, 3) := by decide +kernel
theorem d_XAr_shiftLeftBelowSign_66 : decode b_XAr_shiftLeftBelowSign 66 = .ok (.goto (-45), 3) := by decide +kernel
theorem d_XAr_shiftLeftBelowSign_69 : decode b_XAr_shiftLeftBelowSign 69 = .ok (.aload_n 0, 1) := by decide +kernel
theorem d_XAr_shiftLeftBelowSign_70 : decode b_XAr_shiftLeftBelowSign 70 = .ok (.getfield 9, 3) := by decide +kernel
theorem d_XAr_shiftLeftBelowSign_73 : decode b_XAr_shiftLeftBelowSign 73 = .ok (.iload_n 1, 1) := by decide +kernel
theorem d_XAr_shiftLeftBelowSign_74 : decode b_XAr_shiftLeftBelowSign 74 = .ok (.iload_n 3, 1) := by decide +kernel
theorem d_XAr_shiftLeftBelowSign_75 : decode b_XAr_shiftLeftBelowSign 75 = .ok (.invokevirtual 60, 3) := by decide +kernel
theorem d_XAr_shiftLeftBelowSign_78 : decode b_XAr_shiftLeftBelowSign 78 = .ok (.aload_n 0, 1) := by decide +kernel
theorem d_XAr_shiftLeftBelowSign_79 : decode b_XAr_shiftLeftBelowSign 79 = .ok (.getfield 9, 3) := by decide +kernel
theorem d_XAr_shiftLeftBelowSign_82 : decode b_XAr_shiftLeftBelowSign 82 = .ok (.iload_n 3, 1) := by decide +kernel
theorem d_XAr_shiftLeftBelowSign_83 : decode b_XAr_shiftLeftBelowSign 83 = .ok (.i2l, 1) := by decide +kernel
theorem d_XAr_shiftLeftBelowSign_84 : decode b_XAr_shiftLeftBelowSign 84 = .ok (.invokevirtual 98, 3) := by decide +kernel
theorem d_XAr_shiftLeftBelowSign_87 : decode b_XAr_shiftLeftBelowSign 87 = .ok (.iload 5, 2) := by decide +kernel
theorem d_XAr_shiftLeftBelowSign_89 : decode b_XAr_shiftLeftBelowSign 89 = .ok (.ifCond .eq 13, 3) := by decide +kernel
theorem d_XAr_shiftLeftBelowSign_92 : decode b_XAr_shiftLeftBelowSign 92 = .ok (.aload_n 0, 1) := by decide +kernel
theorem d_XAr_shiftLeftBelowSign_93 : decode b_XAr_shiftLeftBelowSign 93 = .ok (.getfield 9, 3) := by decide +kernel
theorem d_XAr_shiftLeftBelowSign_96 : decode b_XAr_shiftLeftBelowSign 96 = .ok (.invokevirtual 106, 3) := by decide +kernel
theorem d_XAr_shiftLeftBelowSign_99 : decode b_XAr_shiftLeftBelowSign 99 = .ok (.goto 4, 3) := by decide +kernel
theorem d_XAr_shiftLeftBelowSign_102 : decode b_XAr_shiftLeftBelowSign 102 = .ok (.iconst 0, 1) := by decide +kernel
theorem d_XAr_shiftLeftBelowSign_103 : decode b_XAr_shiftLeftBelowSign 103 = .ok (.ireturn, 1) := by decide +kernel
theorem d_XAr_shift_0 : decode b_XAr_shift 0 = .ok (.aload_n 1, 1) := by decide +kernel
theorem d_XAr_shift_1 : decode b_XAr_shift 1 = .ok (.getfield 45, 3) := by decide +kernel
theorem d_XAr_shift_4 : decode b_XAr_shift 4 = .ok (.bipush 63, 2) := by decide +kernel
theorem d_XAr_shift_6 : decode b_XAr_shift 6 = .ok (.iand, 1) := by decide +kernel
theorem d_XAr_shift_7 : decode b_XAr_shift 7 = .ok (.istore_n 2, 1) := by decide +kernel
theorem d_XAr_shift_8 : decode b_XAr_shift 8 = .ok (.aload_n 0, 1) := by decide +kernel
theorem d_XAr_shift_9 : decode b_XAr_shift 9 = .ok (.getfield 9, 3) := by decide +kernel
theorem d_XAr_shift_12 : decode b_XAr_shift 12 = .ok (.aload_n 1, 1) := by decide +kernel
theorem d_XAr_shift_13 : decode b_XAr_shift 13 = .ok (.getfield 21, 3) := by decide +kernel
theorem d_XAr_shift_16 : decode b_XAr_shift 16 = .ok (.invokevirtual 31, 3) := by decide +kernel
theorem d_XAr_shift_19 : decode b_XAr_shift 19 = .ok (.istore_n 3, 1) := by decide +kernel
theorem d_XAr_shift_20 : decode b_XAr_shift 20 = .ok (.aload_n 1, 1) := by decide +kernel
theorem d_XAr_shift_21 : decode b_XAr_shift 21 = .ok (.getfield 15, 3) := by decide +kernel
theorem d_XAr_shift_24 : decode b_XAr_shift 24 = .ok (.tableswitch 77 136 138 #[28, 46, 64], 28) := by decide +kernel
theorem d_XAr_shift_52 : decode b_XAr_shift 52 = .ok (.aload_n 0, 1) := by decide +kernel
theorem d_XAr_shift_53 : decode b_XAr_shift 53 = .ok (.aload_n 1, 1) := by decide +kernel
theorem d_XAr_shift_54 : decode b_XAr_shift 54 = .ok (.getfield 21, 3) := by decide +kernel
theorem d_XAr_shift_57 : decode b_XAr_shift 57 = .ok (.iload_n 3, 1) := by decide +kernel
theorem d_XAr_shift_58 : decode b_XAr_shift 58 = .ok (.i2l, 1) := by decide +kernel
theorem d_XAr_shift_59 : decode b_XAr_shift 59 = .ok (.ldc2_w 64, 3) := by decide +kernel
theorem d_XAr_shift_62 : decode b_XAr_shift 62 = .ok (.land, 1) := by decide +kernel
theorem d_XAr_shift_63 : decode b_XAr_shift 63 = .ok (.iload_n 2, 1) := by decide +kernel
theorem d_XAr_shift_64 : decode b_XAr_shift 64 = .ok (.lushr, 1) := by decide +kernel
theorem d_XAr_shift_65 : decode b_XAr_shift 65 = .ok (.l2i, 1) := by decide +kernel
theorem d_XAr_shift_66 : decode b_XAr_shift 66 = .ok (.invokevirtual 66, 3) := by decide +kernel
theorem d_XAr_shift_69 : decode b_XAr_shift 69 = .ok (.ireturn, 1) := by decide +kernel
theorem d_XAr_shift_70 : decode b_XAr_shift 70 = .ok (.aload_n 0, 1) := by decide +kernel
theorem d_XAr_shift_71 : decode b_XAr_shift 71 = .ok (.aload_n 1, 1) := by decide +kernel
theorem d_XAr_shift_72 : decode b_XAr_shift 72 = .ok (.getfield 21, 3) := by decide +kernel
theorem d_XAr_shift_75 : decode b_XAr_shift 75 = .ok (.iload_n 3, 1) := by decide +kernel
theorem d_XAr_shift_76 : decode b_XAr_shift 76 = .ok (.i2l, 1) := by decide +kernel
theorem d_XAr_shift_77 : decode b_XAr_shift 77 = .ok (.ldc2_w 64, 3) := by decide +kernel
theorem d_XAr_shift_80 : decode b_XAr_shift 80 = .ok (.land, 1) := by decide +kernel
theorem d_XAr_shift_81 : decode b_XAr_shift 81 = .ok (.iload_n 2, 1) := by decide +kernel
theorem d_XAr_shift_82 : decode b_XAr_shift 82 = .ok (.lshl, 1) := by decide +kernel
theorem d_XAr_shift_83 : decode b_XAr_shift 83 = .ok (.l2i, 1) := by decide +kernel
theorem d_XAr_shift_84 : decode b_XAr_shift 84 = .ok (.invokevirtual 66, 3) := by decide +kernel
theorem d_XAr_shift_87 : decode b_XAr_shift 87 = .ok (.ireturn, 1) := by decide +kernel
theorem d_XAr_shift_88 : decode b_XAr_shift 88 = .ok (.aload_n 0, 1) := by decide +kernel
theorem d_XAr_shift_89 : decode b_XAr_shift 89 = .ok (.aload_n 1, 1) := by decide +kernel
theorem d_XAr_shift_90 : decode b_XAr_shift 90 = .ok (.getfield 21, 3) := by decide +kernel
theorem d_XAr_shift_93 : decode b_XAr_shift 93 = .ok (.iload_n 3, 1) := by decide +kernel
theorem d_XAr_shift_94 : decode b_XAr_shift 94 = .ok (.i2l, 1) := by decide +kernel
theorem d_XAr_shift_95 : decode b_XAr_shift 95 = .ok (.iload_n 2, 1) := by decide +kernel
theorem d_XAr_shift_96 : decode b_XAr_shift 96 = .ok (.lshr, 1) := by decide +kernel
theorem d_XAr_shift_97 : decode b_XAr_shift 97 = .ok (.invokevirtual 69, 3) := by decide +kernel
theorem d_XAr_shift_100 : decode b_XAr_shift 100 = .ok (.ireturn, 1) := by decide +kernel
theorem d_XAr_shift_101 : decode b_XAr_shift 101 = .ok (.aload_n 0, 1) := by decide +kernel
theorem d_XAr_shift_102 : decode b_XAr_shift 102 = .ok (.aload_n 1, 1) := by decide +kernel
theorem d_XAr_shift_103 : decode b_XAr_shift 103 = .ok (.getfield 21, 3) := by decide +kernel
theorem d_XAr_shift_106 : decode b_XAr_shift 106 = .ok (.iload_n 2, 1) := by decide +kernel
theorem d_XAr_shift_107 : decode b_XAr_shift 107 = .ok (.invokevirtual 73, 3) := by decide +kernel
theorem d_XAr_shift_110 : decode b_XAr_shift 110 = .ok (.ireturn, 1) := by decide +kernel
theorem d_XBr_isAboveAfterStep_0 : decode b_XBr_isAboveAfterStep 0 = .ok (.aload_n 0, 1) := by decide +kernel
theorem d_XBr_isAboveAfterStep_1 : decode b_XBr_isAboveAfterStep 1 = .ok (.getfield 9, 3) := by decide +kernel
theorem d_XBr_isAboveAfterStep_4 : decode b_XBr_isAboveAfterStep 4 = .ok (.aload_n 1, 1) := by decide +kernel
theorem d_XBr_isAboveAfterStep_5 : decode b_XBr_isAboveAfterStep 5 = .ok (.getfield 21, 3) := by decide +kernel
theorem d_XBr_isAboveAfterStep_8 : decode b_XBr_isAboveAfterStep 8 = .ok (.iconst 1, 1) := by decide +kernel
theorem d_XBr_isAboveAfterStep_9 : decode b_XBr_isAboveAfterStep 9 = .ok (.ior, 1) := by decide +kernel
theorem d_XBr_isAboveAfterStep_10 : decode b_XBr_isAboveAfterStep 10 = .ok (.invokevirtual 24, 3) := by decide +kernel
theorem d_XBr_isAboveAfterStep_13 : decode b_XBr_isAboveAfterStep 13 = .ok (.istore_n 2, 1) := by decide +kernel
theorem d_XBr_isAboveAfterStep_14 : decode b_XBr_isAboveAfterStep 14 = .ok (.aload_n 0, 1) := by decide +kernel
theorem d_XBr_isAboveAfterStep_15 : decode b_XBr_isAboveAfterStep 15 = .ok (.getfield 9, 3) := by decide +kernel
theorem d_XBr_isAboveAfterStep_18 : decode b_XBr_isAboveAfterStep 18 = .ok (.aload_n 1, 1) := by decide +kernel
theorem d_XBr_isAboveAfterStep_19 : decode b_XBr_isAboveAfterStep 19 = .ok (.getfield 41, 3) := by decide +kernel
theorem d_XBr_isAboveAfterStep_22 : decode b_XBr_isAboveAfterStep 22 = .ok (.invokevirtual 24, 3) := by decide +kernel
theorem d_XBr_isAboveAfterStep_25 : decode b_XBr_isAboveAfterStep 25 = .ok (.aload_n 0, 1) := by decide +kernel
theorem d_XBr_isAboveAfterStep_26 : decode b_XBr_isAboveAfterStep 26 = .ok (.getfield 9, 3) := by decide +kernel
theorem d_XBr_isAboveAfterStep_29 : decode b_XBr_isAboveAfterStep 29 = .ok (.aload_n 1, 1) := by decide +kernel
theorem d_XBr_isAboveAfterStep_30 : decode b_XBr_isAboveAfterStep 30 = .ok (.getfield 21, 3) := by decide +kernel
theorem d_XBr_isAboveAfterStep_33 : decode b_XBr_isAboveAfterStep 33 = .ok (.invokevirtual 24, 3) := by decide +kernel
theorem d_XBr_isAboveAfterStep_36 : decode b_XBr_isAboveAfterStep 36 = .ok (.iadd, 1) := by decide +kernel
theorem d_XBr_isAboveAfterStep_37 : decode b_XBr_isAboveAfterStep 37 = .ok (.istore_n 3, 1) := by decide +kernel
theorem d_XBr_isAboveAfterStep_38 : decode b_XBr_isAboveAfterStep 38 = .ok (.aload_n 0, 1) := by decide +kernel
theorem d_XBr_isAboveAfterStep_39 : decode b_XBr_isAboveAfterStep 39 = .ok (.getfield 9, 3) := by decide +kernel
theorem d_XBr_isAboveAfterStep_42 : decode b_XBr_isAboveAfterStep 42 = .ok (.aload_n 1, 1) := by decide +kernel
theorem d_XBr_isAboveAfterStep_43 : decode b_XBr_isAboveAfterStep 43 = .ok (.getfield 41, 3) := by decide +kernel
theorem d_XBr_isAboveAfterStep_46 : decode b_XBr_isAboveAfterStep 46 = .ok (.iload_n 3, 1) := by decide +kernel
theorem d_XBr_isAboveAfterStep_47 : decode b_XBr_isAboveAfterStep 47 = .ok (.invokevirtual 47, 3) := by decide +kernel
theorem d_XBr_isAboveAfterStep_50 : decode b_XBr_isAboveAfterStep 50 = .ok (.iload_n 3, 1) := by decide +kernel
theorem d_XBr_isAboveAfterStep_51 : decode b_XBr_isAboveAfterStep 51 = .ok (.iload_n 2, 1) := by decide +kernel
theorem d_XBr_isAboveAfterStep_52 : decode b_XBr_isAboveAfterStep 52 = .ok (.if_icmp .le 7, 3) := by decide +kernel
theorem d_XBr_isAboveAfterStep_55 : decode b_XBr_isAboveAfterStep 55 = .ok (.iconst 1, 1) := by decide +kernel
theorem d_XBr_isAboveAfterStep_56 : decode b_XBr_isAboveAfterStep 56 = .ok (.goto 4, 3) := by decide +kernel
theorem d_XBr_isAboveAfterStep_59 : decode b_XBr_isAboveAfterStep 59 = .ok (.iconst 0, 1) := by decide +kernel
theorem d_XBr_isAboveAfterStep_60 : decode b_XBr_isAboveAfterStep 60 = .ok (.ireturn, 1) := by decide +kernel
theorem d_XBr_decide_0 : decode b_XBr_decide 0 = .ok (.aload_n 1, 1) := by decide +kernel
theorem d_XBr_decide_1 : decode b_XBr_decide 1 = .ok (.getfield 15, 3) := by decide +kernel
theorem d_XBr_decide_4 : decode b_XBr_decide 4 = .ok (.lookupswitch 145 #[(5, 60), (6, 77), (7, 121), (69, 60), (70, 77), (71, 121)], 60) := by decide +kernel
theorem d_XBr_decide_64 : decode b_XBr_decide 64 = .ok (.aload_n 0, 1) := by decide +kernel
theorem d_XBr_decide_65 : decode b_XBr_decide 65 = .ok (.getfield 9, 3) := by decide +kernel
theorem d_XBr_decide_68 : decode b_XBr_decide 68 = .ok (.aload_n 1, 1) := by decide +kernel
theorem d_XBr_decide_69 : decode b_XBr_decide 69 = .ok (.getfield 41, 3) := by decide +kernel
theorem d_XBr_decide_72 : decode b_XBr_decide 72 = .ok (.aload_n 1, 1) := by decide +kernel
theorem d_XBr_decide_73 : decode b_XBr_decide 73 = .ok (.getfield 44, 3) := by decide +kernel
theorem d_XBr_decide_76 : decode b_XBr_decide 76 = .ok (.invokevirtual 47, 3) := by decide +kernel
theorem d_XBr_decide_79 : decode b_XBr_decide 79 = .ok (.iconst 1, 1) := by decide +kernel
theorem d_XBr_decide_80 : decode b_XBr_decide 80 = .ok (.ireturn, 1) := by decide +kernel
theorem d_XBr_decide_81 : decode b_XBr_decide 81 = .ok (.aload_n 0, 1) := by decide +kernel
theorem d_XBr_decide_82 : decode b_XBr_decide 82 = .ok (.getfield 9, 3) := by decide +kernel
theorem d_XBr_decide_85 : decode b_XBr_decide 85 = .ok (.aload_n 1, 1) := by decide +kernel
theorem d_XBr_decide_86 : decode b_XBr_decide 86 = .ok (.getfield 41, 3) := by decide +kernel
theorem d_XBr_decide_89 : decode b_XBr_decide 89 = .ok (.aload_n 0, 1) := by decide +kernel
theorem d_XBr_decide_90 : decode b_XBr_decide 90 = .ok (.getfield 9, 3) := by decide +kernel
theorem d_XBr_decide_93 : decode b_XBr_decide 93 = .ok (.aload_n 1, 1) := by decide +kernel
theorem d_XBr_decide_94 : decode b_XBr_decide 94 = .ok (.getfield 41, 3) := by decide +kernel
theorem d_XBr_decide_97 : decode b_XBr_decide 97 = .ok (.invokevirtual 24, 3) := by decide +kernel
theorem d_XBr_decide_100 : decode b_XBr_decide 100 = .ok (.iconst 1, 1) := by decide +kernel
theorem d_XBr_decide_101 : decode b_XBr_decide 101 = .ok (.isub, 1) := by decide +kernel
theorem d_XBr_decide_102 : decode b_XBr_decide 102 = .ok (.invokevirtual 47, 3) := by decide +kernel
theorem d_XBr_decide_105 : decode b_XBr_decide 105 = .ok (.aload_n 0, 1) := by decide +kernel
theorem d_XBr_decide_106 : decode b_XBr_decide 106 = .ok (.getfield 9, 3) := by decide +kernel
theorem d_XBr_decide_109 : decode b_XBr_decide 109 = .ok (.aload_n 1, 1) := by decide +kernel
theorem d_XBr_decide_110 : decode b_XBr_decide 110 = .ok (.getfield 41, 3) := by decide +kernel
theorem d_XBr_decide_113 : decode b_XBr_decide 113 = .ok (.invokevirtual 24, 3) := by decide +kernel
theorem d_XBr_decide_116 : decode b_XBr_decide 116 = .ok (.ifCond .eq 7, 3) := by decide +kernel
theorem d_XBr_decide_119 : decode b_XBr_decide 119 = .ok (.iconst 1, 1) := by decide +kernel
theorem d_XBr_decide_120 : decode b_XBr_decide 120 = .ok (.goto 4, 3) := by decide +kernel
theorem d_XBr_decide_123 : decode b_XBr_decide 123 = .ok (.iconst 0, 1) := by decide +kernel
theorem d_XBr_decide_124 : decode b_XBr_decide 124 = .ok (.ireturn, 1) := by decide +kernel
theorem d_XBr_decide_125 : decode b_XBr_decide 125 = .ok (.aload_n 1, 1) := by decide +kernel
theorem d_XBr_decide_126 : decode b_XBr_decide 126 = .ok (.getfield 41, 3) := by decide +kernel
theorem d_XBr_decide_129 : decode b_XBr_decide 129 = .ok (.bipush 8, 2) := by decide +kernel
theorem d_XBr_decide_131 : decode b_XBr_decide 131 = .ok (.aload_n 0, 1) := by decide +kernel
theorem d_XBr_decide_132 : decode b_XBr_decide 132 = .ok (.getfield 9, 3) := by decide +kernel
theorem d_XBr_decide_135 : decode b_XBr_decide 135 = .ok (.getfield 51, 3) := by decide +kernel
theorem d_XBr_decide_138 : decode b_XBr_decide 138 = .ok (.ishr, 1) := by decide +kernel
theorem d_XBr_decide_139 : decode b_XBr_decide 139 = .ok (.iand, 1) := by decide +kernel
theorem d_XBr_decide_140 : decode b_XBr_decide 140 = .ok (.ifCond .eq 7, 3) := by decide +kernel
theorem d_XBr_decide_143 : decode b_XBr_decide 143 = .ok (.iconst 1, 1) := by decide +kernel
theorem d_XBr_decide_144 : decode b_XBr_decide 144 = .ok (.goto 4, 3) := by decide +kernel
theorem d_XBr_decide_147 : decode b_XBr_decide 147 = .ok (.iconst 0, 1) := by decide +kernel
theorem d_XBr_decide_148 : decode b_XBr_decide 148 = .ok (.ireturn, 1) := by decide +kernel
theorem d_XBr_decide_149 : decode b_XBr_decide 149 = .ok (.aload_n 0, 1) := by decide +kernel
theorem d_XBr_decide_150 : decode b_XBr_decide 150 = .ok (.aload_n 1, 1) := by decide +kernel
theorem d_XBr_decide_151 : decode b_XBr_decide 151 = .ok (.invokevirtual 54, 3) := by decide +kernel
theorem d_XBr_decide_154 : decode b_XBr_decide 154 = .ok (.aload_n 1, 1) := by decide +kernel
theorem d_XBr_decide_155 : decode b_XBr_decide 155 = .ok (.getfield 15, 3) := by decide +kernel
theorem d_XBr_decide_158 : decode b_XBr_decide 158 = .ok (.sipush 134, 3) := by decide +kernel
theorem d_XBr_decide_161 : decode b_XBr_decide 161 = .ok (.if_icmp .ne 7, 3) := by decide +kernel
theorem d_XBr_decide_164 : decode b_XBr_decide 164 = .ok (.iconst 1, 1) := by decide +kernel
theorem d_XBr_decide_165 : decode b_XBr_decide 165 = .ok (.goto 4, 3) := by decide +kernel
theorem d_XBr_decide_168 : decode b_XBr_decide 168 = .ok (.iconst 0, 1) := by decide +kernel
theorem d_XBr_decide_169 : decode b_XBr_decide 169 = .ok (.if_icmp .ne 7, 3) := by decide +kernel
theorem d_XBr_decide_172 : decode b_XBr_decide 172 = .ok (.iconst 1, 1) := by decide +kernel
theorem d_XBr_decide_173 : decode b_XBr_decide 173 = .ok (.goto 4, 3) := by decide +kernel
theorem d_XBr_decide_176 : decode b_XBr_decide 176 = .ok (.iconst 0, 1) := by decide +kernel
theorem d_XBr_decide_177 : decode b_XBr_decide 177 = .ok (.ireturn, 1) := by decide +kernel
theorem d_XBr_perform_0 : decode b_XBr_perform 0 = .ok (.aload_n 1, 1) := by decide +kernel
theorem d_XBr_perform_1 : decode b_XBr_perform 1 = .ok (.getfield 15, 3) := by decide +kernel
theorem d_XBr_perform_4 : decode b_XBr_perform 4 = .ok (.bipush 64, 2) := by decide +kernel
theorem d_XBr_perform_6 : decode b_XBr_perform 6 = .ok (.if_icmp .ge 7, 3) := by decide +kernel
theorem d_XBr_perform_9 : decode b_XBr_perform 9 = .ok (.iconst 1, 1) := by decide +kernel
theorem d_XBr_perform_10 : decode b_XBr_perform 10 = .ok (.goto 4, 3) := by decide +kernel
theorem d_XBr_perform_13 : decode b_XBr_perform 13 = .ok (.iconst 0, 1) := by decide +kernel
theorem d_XBr_perform_14 : decode b_XBr_perform 14 = .ok (.istore_n 2, 1) := by decide +kernel
theorem d_XBr_perform_15 : decode b_XBr_perform 15 = .ok (.iload_n 2, 1) := by decide +kernel
theorem d_XBr_perform_16 : decode b_XBr_perform 16 = .ok (.ifCond .eq 20, 3) := by decide +kernel
theorem d_XBr_perform_19 : decode b_XBr_perform 19 = .ok (.aload_n 0, 1) := by decide +kernel
theorem d_XBr_perform_20 : decode b_XBr_perform 20 = .ok (.getfield 9, 3) := by decide +kernel
theorem d_XBr_perform_23 : decode b_XBr_perform 23 = .ok (.aload_n 1, 1) := by decide +kernel
theorem d_XBr_perform_24 : decode b_XBr_perform 24 = .ok (.getfield 21, 3) := by decide +kernel
theorem d_XBr_perform_27 : decode b_XBr_perform 27 = .ok (.invokevirtual 24, 3) := by decide +kernel
theorem d_XBr_perform_30 : decode b_XBr_perform 30 = .ok (.ldc 30, 2) := by decide +kernel
theorem d_XBr_perform_32 : decode b_XBr_perform 32 = .ok (.iand, 1) := by decide +kernel
theorem d_XBr_perform_33 : decode b_XBr_perform 33 = .ok (.goto 7, 3) := by decide +kernel
theorem d_XBr_perform_36 : decode b_XBr_perform 36 = .ok (.aload_n 1, 1) := by decide +kernel
theorem d_XBr_perform_37 : decode b_XBr_perform 37 = .ok (.getfield 31, 3) := by decide +kernel
theorem d_XBr_perform_40 : decode b_XBr_perform 40 = .ok (.istore_n 3, 1) := by decide +kernel
theorem d_XBr_perform_41 : decode b_XBr_perform 41 = .ok (.aload_n 0, 1) := by decide +kernel
theorem d_XBr_perform_42 : decode b_XBr_perform 42 = .ok (.aload_n 1, 1) := by decide +kernel
theorem d_XBr_perform_43 : decode b_XBr_perform 43 = .ok (.invokevirtual 34, 3) := by decide +kernel
theorem d_XBr_perform_46 : decode b_XBr_perform 46 = .ok (.istore 4, 2) := by decide +kernel
theorem d_XBr_perform_48 : decode b_XBr_perform 48 = .ok (.iload 4, 2) := by decide +kernel
theorem d_XBr_perform_50 : decode b_XBr_perform 50 = .ok (.ifCond .eq 22, 3) := by decide +kernel
theorem d_XBr_perform_53 : decode b_XBr_perform 53 = .ok (.iload_n 2, 1) := by decide +kernel
theorem d_XBr_perform_54 : decode b_XBr_perform 54 = .ok (.ifCond .eq 10, 3) := by decide +kernel
theorem d_XBr_perform_57 : decode b_XBr_perform 57 = .ok (.aload_n 1, 1) := by decide +kernel
theorem d_XBr_perform_58 : decode b_XBr_perform 58 = .ok (.getfield 21, 3) := by decide +kernel
theorem d_XBr_perform_61 : decode b_XBr_perform 61 = .ok (.ifCond .eq 11, 3) := by decide +kernel
theorem d_XBr_perform_64 : decode b_XBr_perform 64 = .ok (.aload_n 0, 1) := by decide +kernel
theorem d_XBr_perform_65 : decode b_XBr_perform 65 = .ok (.getfield 9, 3) := by decide +kernel
theorem d_XBr_perform_68 : decode b_XBr_perform 68 = .ok (.iload_n 3, 1) := by decide +kernel
theorem d_XBr_perform_69 : decode b_XBr_perform 69 = .ok (.putfield 38, 3) := by decide +kernel
theorem d_XBr_perform_72 : decode b_XBr_perform 72 = .ok (.iconst 0, 1) := by decide +kernel
theorem d_XBr_perform_73 : decode b_XBr_perform 73 = .ok (.ireturn, 1) := by decide +kernel
theorem d_XMe_put_0 : decode b_XMe_put 0 = .ok (.iload_n 1, 1) := by decide +kernel
theorem d_XMe_put_1 : decode b_XMe_put 1 = .ok (.ifCond .lt 21, 3) := by decide +kernel
theorem d_XMe_put_4 : decode b_XMe_put 4 = .ok (.iload_n 1, 1) := by decide +kernel
theorem d_XMe_put_5 : decode b_XMe_put 5 = .ok (.sipush 1024, 3) := by decide +kernel
theorem d_XMe_put_8 : decode b_XMe_put 8 = .ok (.if_icmp .ge 14, 3) := by decide +kernel
theorem d_XMe_put_11 : decode b_XMe_put 11 = .ok (.aload_n 0, 1) := by decide +kernel
theorem d_XMe_put_12 : decode b_XMe_put 12 = .ok (.getfield 11, 3) := by decide +kernel
theorem d_XMe_put_15 : decode b_XMe_put 15 = .ok (.iload_n 1, 1) := by decide +kernel
theorem d_XMe_put_16 : decode b_XMe_put 16 = .ok (.iload_n 2, 1) := by decide +kernel
theorem d_XMe_put_17 : decode b_XMe_put 17 = .ok (.sipush 255, 3) := by decide +kernel
theorem d_XMe_put_20 : decode b_XMe_put 20 = .ok (.iand, 1) := by decide +kernel
theorem d_XMe_put_21 : decode b_XMe_put 21 = .ok (.iastore, 1) := by decide +kernel
theorem d_XMe_put_22 : decode b_XMe_put 22 = .ok (.return_, 1) := by decide +kernel
theorem d_XMe_putDecimal_0 : decode b_XMe_putDecimal 0 = .ok (.lload_n 3, 1) := by decide +kernel
theorem d_XMe_putDecimal_1 : decode b_XMe_putDecimal 1 = .ok (.lstore 6, 2) := by decide +kernel
theorem d_XMe_putDecimal_3 : decode b_XMe_putDecimal 3 = .ok (.iload 5, 2) := by decide +kernel
theorem d_XMe_putDecimal_5 : decode b_XMe_putDecimal 5 = .ok (.ifCond .eq 8, 3) := by decide +kernel
theorem d_XMe_putDecimal_8 : decode b_XMe_putDecimal 8 = .ok (.bipush 13, 2) := by decide +kernel
theorem d_XMe_putDecimal_10 : decode b_XMe_putDecimal 10 = .ok (.goto 5, 3) := by decide +kernel
theorem d_XMe_putDecimal_13 : decode b_XMe_putDecimal 13 = .ok (.bipush 12, 2) := by decide +kernel
theorem d_XMe_putDecimal_15 : decode b_XMe_putDecimal 15 = .ok (.istore 8, 2) := by decide +kernel
theorem d_XMe_putDecimal_17 : decode b_XMe_putDecimal 17 = .ok (.iload_n 2, 1) := by decide +kernel
theorem d_XMe_putDecimal_18 : decode b_XMe_putDecimal 18 = .ok (.iconst 1, 1) := by decide +kernel
theorem d_XMe_putDecimal_19 : decode b_XMe_putDecimal 19 = .ok (.isub, 1) := by decide +kernel
theorem d_XMe_putDecimal_20 : decode b_XMe_putDecimal 20 = .ok (.istore 9, 2) := by decide +kernel
theorem d_XMe_putDecimal_22 : decode b_XMe_putDecimal 22 = .ok (.iload 9, 2) := by decide +kernel
theorem d_XMe_putDecimal_24 : decode b_XMe_putDecimal 24 = .ok (.ifCond .lt 51, 3) := by decide +kernel
theorem d_XMe_putDecimal_27 : decode b_XMe_putDecimal 27 = .ok (.aload_n 0, 1) := by decide +kernel
theorem d_XMe_putDecimal_28 : decode b_XMe_putDecimal 28 = .ok (.iload_n 1, 1) := by decide +kernel
theorem d_XMe_putDecimal_29 : decode b_XMe_putDecimal 29 = .ok (.iload 9, 2) := by decide +kernel
theorem d_XMe_putDecimal_31 : decode b_XMe_putDecimal 31 = .ok (.iadd, 1) := by decide +kernel
theorem d_XMe_putDecimal_32 : decode b_XMe_putDecimal 32 = .ok (.lload 6, 2) := by decide +kernel
theorem d_XMe_putDecimal_34 : decode b_XMe_putDecimal 34 = .ok (.ldc2_w 31, 3) := by decide +kernel
theorem d_XMe_putDecimal_37 : decode b_XMe_putDecimal 37 = .ok (.lrem, 1) := by decide +kernel
theorem d_XMe_putDecimal_38 : decode b_XMe_putDecimal 38 = .ok (.l2i, 1) := by decide +kernel
theorem d_XMe_putDecimal_39 : decode b_XMe_putDecimal 39 = .ok (.bipush 16, 2) := by decide +kernel
theorem d_XMe_putDecimal_41 : decode b_XMe_putDecimal 41 = .ok (.imul, 1) := by decide +kernel
theorem d_XMe_putDecimal_42 : decode b_XMe_putDecimal 42 = .ok (.iload 8, 2) := by decide +kernel
theorem d_XMe_putDecimal_44 : decode b_XMe_putDecimal 44 = .ok (.iadd, 1) := by decide +kernel
theorem d_XMe_putDecimal_45 : decode b_XMe_putDecimal 45 = .ok (.invokevirtual 25, 3) := by decide +kernel
theorem d_XMe_putDecimal_48 : decode b_XMe_putDecimal 48 = .ok (.lload 6, 2) := by decide +kernel
theorem d_XMe_putDecimal_50 : decode b_XMe_putDecimal 50 = .ok (.ldc2_w 31, 3) := by decide +kernel
theorem d_XMe_putDecimal_53 : decode b_XMe_putDecimal 53 = .ok (.ldiv, 1) := by decide +kernel
theorem d_XMe_putDecimal_54 : decode b_XMe_putDecimal 54 = .ok (.ldc2_w 31, 3) := by decide +kernel
theorem d_XMe_putDecimal_57 : decode b_XMe_putDecimal 57 = .ok (.lrem, 1) := by decide +kernel
theorem d_XMe_putDecimal_58 : decode b_XMe_putDecimal 58 = .ok (.l2i, 1) := by decide +kernel
theorem d_XMe_putDecimal_59 : decode b_XMe_putDecimal 59 = .ok (.istore 8, 2) := by decide +kernel
theorem d_XMe_putDecimal_61 : decode b_XMe_putDecimal 61 = .ok (.lload 6, 2) := by decide +kernel
theorem d_XMe_putDecimal_63 : decode b_XMe_putDecimal 63 = .ok (.ldc2_w 29, 3) := by decide +kernel
theorem d_XMe_putDecimal_66 : decode b_XMe_putDecimal 66 = .ok (.ldiv, 1) := by decide +kernel
theorem d_XMe_putDecimal_67 : decode b_XMe_putDecimal 67 = .ok (.lstore 6, 2) := by decide +kernel
theorem d_XMe_putDecimal_69 : decode b_XMe_putDecimal 69 = .ok (.iinc 9 (-1), 3) := by decide +kernel
theorem d_XMe_putDecimal_72 : decode b_XMe_putDecimal 72 = .ok (.goto (-50), 3) := by decide +kernel
theorem d_XMe_putDecimal_75 : decode b_XMe_putDecimal 75 = .ok (.return_, 1) := by decide +kernel
theorem d_XMe_isPacked_0 : decode b_XMe_isPacked 0 = .ok (.aload_n 0, 1) := by decide +kernel
theorem d_XMe_isPacked_1 : decode b_XMe_isPacked 1 = .ok (.iload_n 1, 1) := by decide +kernel
theorem d_XMe_isPacked_2 : decode b_XMe_isPacked 2 = .ok (.iload_n 2, 1) := by decide +kernel
theorem d_XMe_isPacked_3 : decode b_XMe_isPacked 3 = .ok (.iadd, 1) := by decide +kernel
theorem d_XMe_isPacked_4 : decode b_XMe_isPacked 4 = .ok (.iconst 1, 1) := by decide +kernel
theorem d_XMe_isPacked_5 : decode b_XMe_isPacked 5 = .ok (.isub, 1) := by decide +kernel
theorem d_XMe_isPacked_6 : decode b_XMe_isPacked 6 = .ok (.invokevirtual 19, 3) := by decide +kernel
theorem d_XMe_isPacked_9 : decode b_XMe_isPacked 9 = .ok (.istore_n 3, 1) := by decide +kernel
theorem d_XMe_isPacked_10 : decode b_XMe_isPacked 10 = .ok (.iload_n 3, 1) := by decide +kernel
theorem d_XMe_isPacked_11 : decode b_XMe_isPacked 11 = .ok (.iconst 4, 1) := by decide +kernel
theorem d_XMe_isPacked_12 : decode b_XMe_isPacked 12 = .ok (.ishr, 1) := by decide +kernel
theorem d_XMe_isPacked_13 : decode b_XMe_isPacked 13 = .ok (.bipush 9, 2) := by decide +kernel
theorem d_XMe_isPacked_15 : decode b_XMe_isPacked 15 = .ok (.if_icmp .gt 16, 3) := by decide +kernel
theorem d_XMe_isPacked_18 : decode b_XMe_isPacked 18 = .ok (.iload_n 3, 1) := by decide +kernel
theorem d_XMe_isPacked_19 : decode b_XMe_isPacked 19 = .ok (.bipush 15, 2) := by decide +kernel
theorem d_XMe_isPacked_21 : decode b_XMe_isPacked 21 = .ok (.iand, 1) := by decide +kernel
theorem d_XMe_isPacked_22 : decode b_XMe_isPacked 22 = .ok (.bipush 10, 2) := by decide +kernel
theorem d_XMe_isPacked_24 : decode b_XMe_isPacked 24 = .ok (.if_icmp .lt 7, 3) := by decide +kernel
theorem d_XMe_isPacked_27 : decode b_XMe_isPacked 27 = .ok (.iconst 1, 1) := by decide +kernel
theorem d_XMe_isPacked_28 : decode b_XMe_isPacked 28 = .ok (.goto 4, 3) := by decide +kernel
theorem d_XMe_isPacked_31 : decode b_XMe_isPacked 31 = .ok (.iconst 0, 1) := by decide +kernel
theorem d_XMe_isPacked_32 : decode b_XMe_isPacked 32 = .ok (.istore 4, 2) := by decide +kernel
theorem d_XMe_isPacked_34 : decode b_XMe_isPacked 34 = .ok (.iconst 0, 1) := by decide +kernel
theorem d_XMe_isPacked_35 : decode b_XMe_isPacked 35 = .ok (.istore 5, 2) := by decide +kernel
theorem d_XMe_isPacked_37 : decode b_XMe_isPacked 37 = .ok (.iload 5, 2) := by decide +kernel
theorem d_XMe_isPacked_39 : decode b_XMe_isPacked 39 = .ok (.iload_n 2, 1) := by decide +kernel
theorem d_XMe_isPacked_40 : decode b_XMe_isPacked 40 = .ok (.iconst 1, 1) := by decide +kernel
theorem d_XMe_isPacked_41 : decode b_XMe_isPacked 41 = .ok (.isub, 1) := by decide +kernel
theorem d_XMe_isPacked_42 : decode b_XMe_isPacked 42 = .ok (.if_icmp .ge 50, 3) := by decide +kernel
theorem d_XMe_isPacked_45 : decode b_XMe_isPacked 45 = .ok (.aload_n 0, 1) := by decide +kernel
theorem d_XMe_isPacked_46 : decode b_XMe_isPacked 46 = .ok (.iload_n 1, 1) := by decide +kernel
theorem d_XMe_isPacked_47 : decode b_XMe_isPacked 47 = .ok (.iload 5, 2) := by decide +kernel
theorem d_XMe_isPacked_49 : decode b_XMe_isPacked 49 = .ok (.iadd, 1) := by decide +kernel
theorem d_XMe_isPacked_50 : decode b_XMe_isPacked 50 = .ok (.invokevirtual 19, 3) := by decide +kernel
theorem d_XMe_isPacked_53 : decode b_XMe_isPacked 53 = .ok (.istore 6, 2) := by decide +kernel
theorem d_XMe_isPacked_55 : decode b_XMe_isPacked 55 = .ok (.iload 4, 2) := by decide +kernel
theorem d_XMe_isPacked_57 : decode b_XMe_isPacked 57 = .ok (.ifCond .eq 26, 3) := by decide +kernel
theorem d_XMe_isPacked_60 : decode b_XMe_isPacked 60 = .ok (.iload 6, 2) := by decide +kernel
theorem d_XMe_isPacked_62 : decode b_XMe_isPacked 62 = .ok (.iconst 4, 1) := by decide +kernel
theorem d_XMe_isPacked_63 : decode b_XMe_isPacked 63 = .ok (.ishr, 1) := by decide +kernel
theorem d_XMe_isPacked_64 : decode b_XMe_isPacked 64 = .ok (.bipush 9, 2) := by decide +kernel
theorem d_XMe_isPacked_66 : decode b_XMe_isPacked 66 = .ok (.if_icmp .gt 17, 3) := by decide +kernel
theorem d_XMe_isPacked_69 : decode b_XMe_isPacked 69 = .ok (.iload 6, 2) := by decide +kernel
theorem d_XMe_isPacked_71 : decode b_XMe_isPacked 71 = .ok (.bipush 15, 2) := by decide +kernel
theorem d_XMe_isPacked_73 : decode b_XMe_isPacked 73 = .ok (.iand, 1) := by decide +kernel
theorem d_XMe_isPacked_74 : decode b_XMe_isPacked 74 = .ok (.bipush 9, 2) := by decide +kernel
theorem d_XMe_isPacked_76 : decode b_XMe_isPacked 76 = .ok (.if_icmp .gt 7, 3) := by decide +kernel
theorem d_XMe_isPacked_79 : decode b_XMe_isPacked 79 = .ok (.iconst 1, 1) := by decide +kernel
theorem d_XMe_isPacked_80 : decode b_XMe_isPacked 80 = .ok (.goto 4, 3) := by decide +kernel
theorem d_XMe_isPacked_83 : decode b_XMe_isPacked 83 = .ok (.iconst 0, 1) := by decide +kernel
theorem d_XMe_isPacked_84 : decode b_XMe_isPacked 84 = .ok (.istore 4, 2) := by decide +kernel
theorem d_XMe_isPacked_86 : decode b_XMe_isPacked 86 = .ok (.iinc 5 1, 3) := by decide +kernel
theorem d_XMe_isPacked_89 : decode b_XMe_isPacked 89 = .ok (.goto (-52), 3) := by decide +kernel
theorem d_XMe_isPacked_92 : decode b_XMe_isPacked 92 = .ok (.iload 4, 2) := by decide +kernel
theorem d_XMe_isPacked_94 : decode b_XMe_isPacked 94 = .ok (.ireturn, 1) := by decide +kernel
theorem d_XMe_isMinus_0 : decode b_XMe_isMinus 0 = .ok (.aload_n 0, 1) := by decide +kernel
theorem d_XMe_isMinus_1 : decode b_XMe_isMinus 1 = .ok (.iload_n 1, 1) := by decide +kernel
theorem d_XMe_isMinus_2 : decode b_XMe_isMinus 2 = .ok (.iload_n 2, 1) := by decide +kernel
theorem d_XMe_isMinus_3 : decode b_XMe_isMinus 3 = .ok (.iadd, 1) := by decide +kernel
theorem d_XMe_isMinus_4 : decode b_XMe_isMinus 4 = .ok (.iconst 1, 1) := by decide +kernel
theorem d_XMe_isMinus_5 : decode b_XMe_isMinus 5 = .ok (.isub, 1) := by decide +kernel
theorem d_XMe_isMinus_6 : decode b_XMe_isMinus 6 = .ok (.invokevirtual 19, 3) := by decide +kernel
theorem d_XMe_isMinus_9 : decode b_XMe_isMinus 9 = .ok (.bipush 15, 2) := by decide +kernel
theorem d_XMe_isMinus_11 : decode b_XMe_isMinus 11 = .ok (.iand, 1) := by decide +kernel
theorem d_XMe_isMinus_12 : decode b_XMe_isMinus 12 = .ok (.istore_n 3, 1) := by decide +kernel
theorem d_XMe_isMinus_13 : decode b_XMe_isMinus 13 = .ok (.iload_n 3, 1) := by decide +kernel
theorem d_XMe_isMinus_14 : decode b_XMe_isMinus 14 = .ok (.bipush 13, 2) := by decide +kernel
theorem d_XMe_isMinus_16 : decode b_XMe_isMinus 16 = .ok (.if_icmp .eq 9, 3) := by decide +kernel
theorem d_XMe_isMinus_19 : decode b_XMe_isMinus 19 = .ok (.iload_n 3, 1) := by decide +kernel
theorem d_XMe_isMinus_20 : decode b_XMe_isMinus 20 = .ok (.bipush 11, 2) := by decide +kernel
theorem d_XMe_isMinus_22 : decode b_XMe_isMinus 22 = .ok (.if_icmp .ne 7, 3) := by decide +kernel
theorem d_XMe_isMinus_25 : decode b_XMe_isMinus 25 = .ok (.iconst 1, 1) := by decide +kernel
theorem d_XMe_isMinus_26 : decode b_XMe_isMinus 26 = .ok (.goto 4, 3) := by decide +kernel
theorem d_XMe_isMinus_29 : decode b_XMe_isMinus 29 = .ok (.iconst 0, 1) := by decide +kernel
theorem d_XMe_isMinus_30 : decode b_XMe_isMinus 30 = .ok (.ireturn, 1) := by decide +kernel
theorem d_XMe_decimal_0 : decode b_XMe_decimal 0 = .ok (.lconst 0, 1) := by decide +kernel
theorem d_XMe_decimal_1 : decode b_XMe_decimal 1 = .ok (.lstore_n 3, 1) := by decide +kernel
theorem d_XMe_decimal_2 : decode b_XMe_decimal 2 = .ok (.iconst 0, 1) := by decide +kernel
theorem d_XMe_decimal_3 : decode b_XMe_decimal 3 = .ok (.istore 5, 2) := by decide +kernel
theorem d_XMe_decimal_5 : decode b_XMe_decimal 5 = .ok (.iload 5, 2) := by decide +kernel
theorem d_XMe_decimal_7 : decode b_XMe_decimal 7 = .ok (.iload_n 2, 1) := by decide +kernel
theorem d_XMe_decimal_8 : decode b_XMe_decimal 8 = .ok (.iconst 1, 1) := by decide +kernel
theorem d_XMe_decimal_9 : decode b_XMe_decimal 9 = .ok (.isub, 1) := by decide +kernel
theorem d_XMe_decimal_10 : decode b_XMe_decimal 10 = .ok (.if_icmp .ge 41, 3) := by decide +kernel
theorem d_XMe_decimal_13 : decode b_XMe_decimal 13 = .ok (.aload_n 0, 1) := by decide +kernel
theorem d_XMe_decimal_14 : decode b_XMe_decimal 14 = .ok (.iload_n 1, 1) := by decide +kernel
theorem d_XMe_decimal_15 : decode b_XMe_decimal 15 = .ok (.iload 5, 2) := by decide +kernel
theorem d_XMe_decimal_17 : decode b_XMe_decimal 17 = .ok (.iadd, 1) := by decide +kernel
theorem d_XMe_decimal_18 : decode b_XMe_decimal 18 = .ok (.invokevirtual 19, 3) := by decide +kernel
theorem d_XMe_decimal_21 : decode b_XMe_decimal 21 = .ok (.istore 6, 2) := by decide +kernel
theorem d_XMe_decimal_23 : decode b_XMe_decimal 23 = .ok (.lload_n 3, 1) := by decide +kernel
theorem d_XMe_decimal_24 : decode b_XMe_decimal 24 = .ok (.ldc2_w 29, 3) := by decide +kernel
theorem d_XMe_decimal_27 : decode b_XMe_decimal 27 = .ok (.lmul, 1) := by decide +kernel
theorem d_XMe_decimal_28 : decode b_XMe_decimal 28 = .ok (.iload 6, 2) := by decide +kernel
theorem d_XMe_decimal_30 : decode b_XMe_decimal 30 = .ok (.iconst 4, 1) := by decide +kernel
theorem d_XMe_decimal_31 : decode b_XMe_decimal 31 = .ok (.ishr, 1) := by decide +kernel
theorem d_XMe_decimal_32 : decode b_XMe_decimal 32 = .ok (.bipush 10, 2) := by decide +kernel
theorem d_XMe_decimal_34 : decode b_XMe_decimal 34 = .ok (.imul, 1) := by decide +kernel
theorem d_XMe_decimal_35 : decode b_XMe_decimal 35 = .ok (.i2l, 1) := by decide +kernel
theorem d_XMe_decimal_36 : decode b_XMe_decimal 36 = .ok (.ladd, 1) := by decide +kernel
theorem d_XMe_decimal_37 : decode b_XMe_decimal 37 = .ok (.iload 6, 2) := by decide +kernel
theorem d_XMe_decimal_39 : decode b_XMe_decimal 39 = .ok (.bipush 15, 2) := by decide +kernel
theorem d_XMe_decimal_41 : decode b_XMe_decimal 41 = .ok (.iand, 1) := by decide +kernel
theorem d_XMe_decimal_42 : decode b_XMe_decimal 42 = .ok (.i2l, 1) := by decide +kernel
theorem d_XMe_decimal_43 : decode b_XMe_decimal 43 = .ok (.ladd, 1) := by decide +kernel
theorem d_XMe_decimal_44 : decode b_XMe_decimal 44 = .ok (.lstore_n 3, 1) := by decide +kernel
theorem d_XMe_decimal_45 : decode b_XMe_decimal 45 = .ok (.iinc 5 1, 3) := by decide +kernel
theorem d_XMe_decimal_48 : decode b_XMe_decimal 48 = .ok (.goto (-43), 3) := by decide +kernel
theorem d_XMe_decimal_51 : decode b_XMe_decimal 51 = .ok (.lload_n 3, 1) := by decide +kernel
theorem d_XMe_decimal_52 : decode b_XMe_decimal 52 = .ok (.ldc2_w 31, 3) := by decide +kernel
theorem d_XMe_decimal_55 : decode b_XMe_decimal 55 = .ok (.lmul, 1) := by decide +kernel
theorem d_XMe_decimal_56 : decode b_XMe_decimal 56 = .ok (.aload_n 0, 1) := by decide +kernel
theorem d_XMe_decimal_57 : decode b_XMe_decimal 57 = .ok (.iload_n 1, 1) := by decide +kernel
theorem d_XMe_decimal_58 : decode b_XMe_decimal 58 = .ok (.iload_n 2, 1) := by decide +kernel
theorem d_XMe_decimal_59 : decode b_XMe_decimal 59 = .ok (.iadd, 1) := by decide +kernel
theorem d_XMe_decimal_60 : decode b_XMe_decimal 60 = .ok (.iconst 1, 1) := by decide +kernel
theorem d_XMe_decimal_61 : decode b_XMe_decimal 61 = .ok (.isub, 1) := by decide +kernel
theorem d_XMe_decimal_62 : decode b_XMe_decimal 62 = .ok (.invokevirtual 19, 3) := by decide +kernel
theorem d_XMe_decimal_65 : decode b_XMe_decimal 65 = .ok (.iconst 4, 1) := by decide +kernel
theorem d_XMe_decimal_66 : decode b_XMe_decimal 66 = .ok (.ishr, 1) := by decide +kernel
theorem d_XMe_decimal_67 : decode b_XMe_decimal 67 = .ok (.i2l, 1) := by decide +kernel
theorem d_XMe_decimal_68 : decode b_XMe_decimal 68 = .ok (.ladd, 1) := by decide +kernel
theorem d_XMe_decimal_69 : decode b_XMe_decimal 69 = .ok (.lstore_n 3, 1) := by decide +kernel
theorem d_XMe_decimal_70 : decode b_XMe_decimal 70 = .ok (.aload_n 0, 1) := by decide +kernel
theorem d_XMe_decimal_71 : decode b_XMe_decimal 71 = .ok (.iload_n 1, 1) := by decide +kernel
theorem d_XMe_decimal_72 : decode b_XMe_decimal 72 = .ok (.iload_n 2, 1) := by decide +kernel
