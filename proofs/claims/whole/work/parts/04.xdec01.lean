theorem d_XDM_isWithin_0 : decode b_XDM_isWithin 0 = .ok (.iload_n 0, 1) := by decide +kernel
theorem d_XDM_isWithin_1 : decode b_XDM_isWithin 1 = .ok (.iload_n 1, 1) := by decide +kernel
theorem d_XDM_isWithin_2 : decode b_XDM_isWithin 2 = .ok (.if_icmp .lt 12, 3) := by decide +kernel
theorem d_XDM_isWithin_5 : decode b_XDM_isWithin 5 = .ok (.iload_n 0, 1) := by decide +kernel
theorem d_XDM_isWithin_6 : decode b_XDM_isWithin 6 = .ok (.iload_n 2, 1) := by decide +kernel
theorem d_XDM_isWithin_7 : decode b_XDM_isWithin 7 = .ok (.if_icmp .gt 7, 3) := by decide +kernel
theorem d_XDM_isWithin_10 : decode b_XDM_isWithin 10 = .ok (.iconst 1, 1) := by decide +kernel
theorem d_XDM_isWithin_11 : decode b_XDM_isWithin 11 = .ok (.goto 4, 3) := by decide +kernel
theorem d_XDM_isWithin_14 : decode b_XDM_isWithin 14 = .ok (.iconst 0, 1) := by decide +kernel
theorem d_XDM_isWithin_15 : decode b_XDM_isWithin 15 = .ok (.ireturn, 1) := by decide +kernel
theorem d_XDM_isNibble_0 : decode b_XDM_isNibble 0 = .ok (.iload_n 0, 1) := by decide +kernel
theorem d_XDM_isNibble_1 : decode b_XDM_isNibble 1 = .ok (.iconst 0, 1) := by decide +kernel
theorem d_XDM_isNibble_2 : decode b_XDM_isNibble 2 = .ok (.bipush 15, 2) := by decide +kernel
theorem d_XDM_isNibble_4 : decode b_XDM_isNibble 4 = .ok (.invokestatic 25, 3) := by decide +kernel
theorem d_XDM_isNibble_7 : decode b_XDM_isNibble 7 = .ok (.ireturn, 1) := by decide +kernel
theorem d_XDM_isPlace_0 : decode b_XDM_isPlace 0 = .ok (.iload_n 0, 1) := by decide +kernel
theorem d_XDM_isPlace_1 : decode b_XDM_isPlace 1 = .ok (.invokestatic 51, 3) := by decide +kernel
theorem d_XDM_isPlace_4 : decode b_XDM_isPlace 4 = .ok (.ifCond .eq 18, 3) := by decide +kernel
theorem d_XDM_isPlace_7 : decode b_XDM_isPlace 7 = .ok (.iload_n 1, 1) := by decide +kernel
theorem d_XDM_isPlace_8 : decode b_XDM_isPlace 8 = .ok (.iconst 0, 1) := by decide +kernel
theorem d_XDM_isPlace_9 : decode b_XDM_isPlace 9 = .ok (.sipush 4095, 3) := by decide +kernel
theorem d_XDM_isPlace_12 : decode b_XDM_isPlace 12 = .ok (.invokestatic 25, 3) := by decide +kernel
theorem d_XDM_isPlace_15 : decode b_XDM_isPlace 15 = .ok (.ifCond .eq 7, 3) := by decide +kernel
theorem d_XDM_isPlace_18 : decode b_XDM_isPlace 18 = .ok (.iconst 1, 1) := by decide +kernel
theorem d_XDM_isPlace_19 : decode b_XDM_isPlace 19 = .ok (.goto 4, 3) := by decide +kernel
theorem d_XDM_isPlace_22 : decode b_XDM_isPlace 22 = .ok (.iconst 0, 1) := by decide +kernel
theorem d_XDM_isPlace_23 : decode b_XDM_isPlace 23 = .ok (.ireturn, 1) := by decide +kernel
theorem d_XAr_lacksPair_0 : decode b_XAr_lacksPair 0 = .ok (.iload_n 0, 1) := by decide +kernel
theorem d_XAr_lacksPair_1 : decode b_XAr_lacksPair 1 = .ok (.bipush 28, 2) := by decide +kernel
theorem d_XAr_lacksPair_3 : decode b_XAr_lacksPair 3 = .ok (.if_icmp .eq 9, 3) := by decide +kernel
theorem d_XAr_lacksPair_6 : decode b_XAr_lacksPair 6 = .ok (.iload_n 0, 1) := by decide +kernel
theorem d_XAr_lacksPair_7 : decode b_XAr_lacksPair 7 = .ok (.bipush 29, 2) := by decide +kernel
theorem d_XAr_lacksPair_9 : decode b_XAr_lacksPair 9 = .ok (.if_icmp .ne 13, 3) := by decide +kernel
theorem d_XAr_lacksPair_12 : decode b_XAr_lacksPair 12 = .ok (.iload_n 1, 1) := by decide +kernel
theorem d_XAr_lacksPair_13 : decode b_XAr_lacksPair 13 = .ok (.iconst 1, 1) := by decide +kernel
theorem d_XAr_lacksPair_14 : decode b_XAr_lacksPair 14 = .ok (.iand, 1) := by decide +kernel
theorem d_XAr_lacksPair_15 : decode b_XAr_lacksPair 15 = .ok (.ifCond .eq 7, 3) := by decide +kernel
theorem d_XAr_lacksPair_18 : decode b_XAr_lacksPair 18 = .ok (.iconst 1, 1) := by decide +kernel
theorem d_XAr_lacksPair_19 : decode b_XAr_lacksPair 19 = .ok (.goto 4, 3) := by decide +kernel
theorem d_XAr_lacksPair_22 : decode b_XAr_lacksPair 22 = .ok (.iconst 0, 1) := by decide +kernel
theorem d_XAr_lacksPair_23 : decode b_XAr_lacksPair 23 = .ok (.ireturn, 1) := by decide +kernel
theorem d_XSt_value_0 : decode b_XSt_value 0 = .ok (.aload_n 0, 1) := by decide +kernel
theorem d_XSt_value_1 : decode b_XSt_value 1 = .ok (.getfield 18, 3) := by decide +kernel
theorem d_XSt_value_4 : decode b_XSt_value 4 = .ok (.iload_n 1, 1) := by decide +kernel
theorem d_XSt_value_5 : decode b_XSt_value 5 = .ok (.bipush 15, 2) := by decide +kernel
theorem d_XSt_value_7 : decode b_XSt_value 7 = .ok (.iand, 1) := by decide +kernel
theorem d_XSt_value_8 : decode b_XSt_value 8 = .ok (.iaload, 1) := by decide +kernel
theorem d_XSt_value_9 : decode b_XSt_value 9 = .ok (.ireturn, 1) := by decide +kernel
theorem d_XSt_put_0 : decode b_XSt_put 0 = .ok (.aload_n 0, 1) := by decide +kernel
theorem d_XSt_put_1 : decode b_XSt_put 1 = .ok (.getfield 18, 3) := by decide +kernel
theorem d_XSt_put_4 : decode b_XSt_put 4 = .ok (.iload_n 1, 1) := by decide +kernel
theorem d_XSt_put_5 : decode b_XSt_put 5 = .ok (.bipush 15, 2) := by decide +kernel
theorem d_XSt_put_7 : decode b_XSt_put 7 = .ok (.iand, 1) := by decide +kernel
theorem d_XSt_put_8 : decode b_XSt_put 8 = .ok (.iload_n 2, 1) := by decide +kernel
theorem d_XSt_put_9 : decode b_XSt_put 9 = .ok (.iastore, 1) := by decide +kernel
theorem d_XSt_put_10 : decode b_XSt_put 10 = .ok (.return_, 1) := by decide +kernel
theorem d_XSt_conditionBySign_0 : decode b_XSt_conditionBySign 0 = .ok (.aload_n 0, 1) := by decide +kernel
theorem d_XSt_conditionBySign_1 : decode b_XSt_conditionBySign 1 = .ok (.lload_n 1, 1) := by decide +kernel
theorem d_XSt_conditionBySign_2 : decode b_XSt_conditionBySign 2 = .ok (.lconst 0, 1) := by decide +kernel
theorem d_XSt_conditionBySign_3 : decode b_XSt_conditionBySign 3 = .ok (.lcmp, 1) := by decide +kernel
theorem d_XSt_conditionBySign_4 : decode b_XSt_conditionBySign 4 = .ok (.ifCond .ne 7, 3) := by decide +kernel
theorem d_XSt_conditionBySign_7 : decode b_XSt_conditionBySign 7 = .ok (.iconst 0, 1) := by decide +kernel
theorem d_XSt_conditionBySign_8 : decode b_XSt_conditionBySign 8 = .ok (.goto 14, 3) := by decide +kernel
theorem d_XSt_conditionBySign_11 : decode b_XSt_conditionBySign 11 = .ok (.lload_n 1, 1) := by decide +kernel
theorem d_XSt_conditionBySign_12 : decode b_XSt_conditionBySign 12 = .ok (.lconst 0, 1) := by decide +kernel
theorem d_XSt_conditionBySign_13 : decode b_XSt_conditionBySign 13 = .ok (.lcmp, 1) := by decide +kernel
theorem d_XSt_conditionBySign_14 : decode b_XSt_conditionBySign 14 = .ok (.ifCond .ge 7, 3) := by decide +kernel
theorem d_XSt_conditionBySign_17 : decode b_XSt_conditionBySign 17 = .ok (.iconst 1, 1) := by decide +kernel
theorem d_XSt_conditionBySign_18 : decode b_XSt_conditionBySign 18 = .ok (.goto 4, 3) := by decide +kernel
theorem d_XSt_conditionBySign_21 : decode b_XSt_conditionBySign 21 = .ok (.iconst 2, 1) := by decide +kernel
theorem d_XSt_conditionBySign_22 : decode b_XSt_conditionBySign 22 = .ok (.putfield 26, 3) := by decide +kernel
theorem d_XSt_conditionBySign_25 : decode b_XSt_conditionBySign 25 = .ok (.return_, 1) := by decide +kernel
theorem d_XSt_fixedOverflow_0 : decode b_XSt_fixedOverflow 0 = .ok (.aload_n 0, 1) := by decide +kernel
theorem d_XSt_fixedOverflow_1 : decode b_XSt_fixedOverflow 1 = .ok (.iconst 3, 1) := by decide +kernel
theorem d_XSt_fixedOverflow_2 : decode b_XSt_fixedOverflow 2 = .ok (.putfield 26, 3) := by decide +kernel
theorem d_XSt_fixedOverflow_5 : decode b_XSt_fixedOverflow 5 = .ok (.aload_n 0, 1) := by decide +kernel
theorem d_XSt_fixedOverflow_6 : decode b_XSt_fixedOverflow 6 = .ok (.getfield 29, 3) := by decide +kernel
theorem d_XSt_fixedOverflow_9 : decode b_XSt_fixedOverflow 9 = .ok (.iconst 1, 1) := by decide +kernel
theorem d_XSt_fixedOverflow_10 : decode b_XSt_fixedOverflow 10 = .ok (.iand, 1) := by decide +kernel
theorem d_XSt_fixedOverflow_11 : decode b_XSt_fixedOverflow 11 = .ok (.ifCond .eq 8, 3) := by decide +kernel
theorem d_XSt_fixedOverflow_14 : decode b_XSt_fixedOverflow 14 = .ok (.bipush 8, 2) := by decide +kernel
theorem d_XSt_fixedOverflow_16 : decode b_XSt_fixedOverflow 16 = .ok (.goto 4, 3) := by decide +kernel
theorem d_XSt_fixedOverflow_19 : decode b_XSt_fixedOverflow 19 = .ok (.iconst 0, 1) := by decide +kernel
theorem d_XSt_fixedOverflow_20 : decode b_XSt_fixedOverflow 20 = .ok (.ireturn, 1) := by decide +kernel
theorem d_XAr_putSigned_0 : decode b_XAr_putSigned 0 = .ok (.lload_n 2, 1) := by decide +kernel
theorem d_XAr_putSigned_1 : decode b_XAr_putSigned 1 = .ok (.l2i, 1) := by decide +kernel
theorem d_XAr_putSigned_2 : decode b_XAr_putSigned 2 = .ok (.istore 4, 2) := by decide +kernel
theorem d_XAr_putSigned_4 : decode b_XAr_putSigned 4 = .ok (.aload_n 0, 1) := by decide +kernel
theorem d_XAr_putSigned_5 : decode b_XAr_putSigned 5 = .ok (.getfield 9, 3) := by decide +kernel
theorem d_XAr_putSigned_8 : decode b_XAr_putSigned 8 = .ok (.iload_n 1, 1) := by decide +kernel
theorem d_XAr_putSigned_9 : decode b_XAr_putSigned 9 = .ok (.iload 4, 2) := by decide +kernel
theorem d_XAr_putSigned_11 : decode b_XAr_putSigned 11 = .ok (.invokevirtual 60, 3) := by decide +kernel
theorem d_XAr_putSigned_14 : decode b_XAr_putSigned 14 = .ok (.aload_n 0, 1) := by decide +kernel
theorem d_XAr_putSigned_15 : decode b_XAr_putSigned 15 = .ok (.getfield 9, 3) := by decide +kernel
theorem d_XAr_putSigned_18 : decode b_XAr_putSigned 18 = .ok (.iload 4, 2) := by decide +kernel
theorem d_XAr_putSigned_20 : decode b_XAr_putSigned 20 = .ok (.i2l, 1) := by decide +kernel
theorem d_XAr_putSigned_21 : decode b_XAr_putSigned 21 = .ok (.invokevirtual 98, 3) := by decide +kernel
theorem d_XAr_putSigned_24 : decode b_XAr_putSigned 24 = .ok (.iload 4, 2) := by decide +kernel
theorem d_XAr_putSigned_26 : decode b_XAr_putSigned 26 = .ok (.i2l, 1) := by decide +kernel
theorem d_XAr_putSigned_27 : decode b_XAr_putSigned 27 = .ok (.lload_n 2, 1) := by decide +kernel
theorem d_XAr_putSigned_28 : decode b_XAr_putSigned 28 = .ok (.lcmp, 1) := by decide +kernel
theorem d_XAr_putSigned_29 : decode b_XAr_putSigned 29 = .ok (.ifCond .ne 7, 3) := by decide +kernel
theorem d_XAr_putSigned_32 : decode b_XAr_putSigned 32 = .ok (.iconst 0, 1) := by decide +kernel
theorem d_XAr_putSigned_33 : decode b_XAr_putSigned 33 = .ok (.goto 10, 3) := by decide +kernel
theorem d_XAr_putSigned_36 : decode b_XAr_putSigned 36 = .ok (.aload_n 0, 1) := by decide +kernel
theorem d_XAr_putSigned_37 : decode b_XAr_putSigned 37 = .ok (.getfield 9, 3) := by decide +kernel
theorem d_XAr_putSigned_40 : decode b_XAr_putSigned 40 = .ok (.invokevirtual 106, 3) := by decide +kernel
theorem d_XAr_putSigned_43 : decode b_XAr_putSigned 43 = .ok (.ireturn, 1) := by decide +kernel
theorem d_XSt_conditionByBits_0 : decode b_XSt_conditionByBits 0 = .ok (.aload_n 0, 1) := by decide +kernel
theorem d_XSt_conditionByBits_1 : decode b_XSt_conditionByBits 1 = .ok (.iload_n 1, 1) := by decide +kernel
theorem d_XSt_conditionByBits_2 : decode b_XSt_conditionByBits 2 = .ok (.ifCond .ne 7, 3) := by decide +kernel
theorem d_XSt_conditionByBits_5 : decode b_XSt_conditionByBits 5 = .ok (.iconst 0, 1) := by decide +kernel
theorem d_XSt_conditionByBits_6 : decode b_XSt_conditionByBits 6 = .ok (.goto 4, 3) := by decide +kernel
theorem d_XSt_conditionByBits_9 : decode b_XSt_conditionByBits 9 = .ok (.iconst 1, 1) := by decide +kernel
theorem d_XSt_conditionByBits_10 : decode b_XSt_conditionByBits 10 = .ok (.putfield 26, 3) := by decide +kernel
theorem d_XSt_conditionByBits_13 : decode b_XSt_conditionByBits 13 = .ok (.return_, 1) := by decide +kernel
theorem d_XAr_putBits_0 : decode b_XAr_putBits 0 = .ok (.aload_n 0, 1) := by decide +kernel
theorem d_XAr_putBits_1 : decode b_XAr_putBits 1 = .ok (.getfield 9, 3) := by decide +kernel
theorem d_XAr_putBits_4 : decode b_XAr_putBits 4 = .ok (.iload_n 1, 1) := by decide +kernel
theorem d_XAr_putBits_5 : decode b_XAr_putBits 5 = .ok (.iload_n 2, 1) := by decide +kernel
theorem d_XAr_putBits_6 : decode b_XAr_putBits 6 = .ok (.invokevirtual 60, 3) := by decide +kernel
theorem d_XAr_putBits_9 : decode b_XAr_putBits 9 = .ok (.aload_n 0, 1) := by decide +kernel
theorem d_XAr_putBits_10 : decode b_XAr_putBits 10 = .ok (.getfield 9, 3) := by decide +kernel
theorem d_XAr_putBits_13 : decode b_XAr_putBits 13 = .ok (.iload_n 2, 1) := by decide +kernel
theorem d_XAr_putBits_14 : decode b_XAr_putBits 14 = .ok (.invokevirtual 102, 3) := by decide +kernel
theorem d_XAr_putBits_17 : decode b_XAr_putBits 17 = .ok (.iconst 0, 1) := by decide +kernel
theorem d_XAr_putBits_18 : decode b_XAr_putBits 18 = .ok (.ireturn, 1) := by decide +kernel
theorem d_XAr_compare_0 : decode b_XAr_compare 0 = .ok (.aload_n 0, 1) := by decide +kernel
theorem d_XAr_compare_1 : decode b_XAr_compare 1 = .ok (.getfield 9, 3) := by decide +kernel
theorem d_XAr_compare_4 : decode b_XAr_compare 4 = .ok (.lload_n 1, 1) := by decide +kernel
theorem d_XAr_compare_5 : decode b_XAr_compare 5 = .ok (.lload_n 3, 1) := by decide +kernel
theorem d_XAr_compare_6 : decode b_XAr_compare 6 = .ok (.lsub, 1) := by decide +kernel
theorem d_XAr_compare_7 : decode b_XAr_compare 7 = .ok (.invokevirtual 98, 3) := by decide +kernel
theorem d_XAr_compare_10 : decode b_XAr_compare 10 = .ok (.iconst 0, 1) := by decide +kernel
theorem d_XAr_compare_11 : decode b_XAr_compare 11 = .ok (.ireturn, 1) := by decide +kernel
theorem d_XAr_load_0 : decode b_XAr_load 0 = .ok (.aload_n 0, 1) := by decide +kernel
theorem d_XAr_load_1 : decode b_XAr_load 1 = .ok (.getfield 9, 3) := by decide +kernel
theorem d_XAr_load_4 : decode b_XAr_load 4 = .ok (.iload_n 1, 1) := by decide +kernel
theorem d_XAr_load_5 : decode b_XAr_load 5 = .ok (.iload_n 2, 1) := by decide +kernel
theorem d_XAr_load_6 : decode b_XAr_load 6 = .ok (.invokevirtual 60, 3) := by decide +kernel
theorem d_XAr_load_9 : decode b_XAr_load 9 = .ok (.iconst 0, 1) := by decide +kernel
theorem d_XAr_load_10 : decode b_XAr_load 10 = .ok (.ireturn, 1) := by decide +kernel
theorem d_XAr_multiply_0 : decode b_XAr_multiply 0 = .ok (.aload_n 0, 1) := by decide +kernel
theorem d_XAr_multiply_1 : decode b_XAr_multiply 1 = .ok (.getfield 9, 3) := by decide +kernel
theorem d_XAr_multiply_4 : decode b_XAr_multiply 4 = .ok (.iload_n 1, 1) := by decide +kernel
theorem d_XAr_multiply_5 : decode b_XAr_multiply 5 = .ok (.iconst 1, 1) := by decide +kernel
theorem d_XAr_multiply_6 : decode b_XAr_multiply 6 = .ok (.iadd, 1) := by decide +kernel
theorem d_XAr_multiply_7 : decode b_XAr_multiply 7 = .ok (.invokevirtual 31, 3) := by decide +kernel
theorem d_XAr_multiply_10 : decode b_XAr_multiply 10 = .ok (.i2l, 1) := by decide +kernel
theorem d_XAr_multiply_11 : decode b_XAr_multiply 11 = .ok (.iload_n 2, 1) := by decide +kernel
theorem d_XAr_multiply_12 : decode b_XAr_multiply 12 = .ok (.i2l, 1) := by decide +kernel
theorem d_XAr_multiply_13 : decode b_XAr_multiply 13 = .ok (.lmul, 1) := by decide +kernel
theorem d_XAr_multiply_14 : decode b_XAr_multiply 14 = .ok (.lstore_n 3, 1) := by decide +kernel
theorem d_XAr_multiply_15 : decode b_XAr_multiply 15 = .ok (.aload_n 0, 1) := by decide +kernel
theorem d_XAr_multiply_16 : decode b_XAr_multiply 16 = .ok (.getfield 9, 3) := by decide +kernel
theorem d_XAr_multiply_19 : decode b_XAr_multiply 19 = .ok (.iload_n 1, 1) := by decide +kernel
theorem d_XAr_multiply_20 : decode b_XAr_multiply 20 = .ok (.lload_n 3, 1) := by decide +kernel
theorem d_XAr_multiply_21 : decode b_XAr_multiply 21 = .ok (.bipush 32, 2) := by decide +kernel
theorem d_XAr_multiply_23 : decode b_XAr_multiply 23 = .ok (.lshr, 1) := by decide +kernel
theorem d_XAr_multiply_24 : decode b_XAr_multiply 24 = .ok (.l2i, 1) := by decide +kernel
theorem d_XAr_multiply_25 : decode b_XAr_multiply 25 = .ok (.invokevirtual 60, 3) := by decide +kernel
theorem d_XAr_multiply_28 : decode b_XAr_multiply 28 = .ok (.aload_n 0, 1) := by decide +kernel
theorem d_XAr_multiply_29 : decode b_XAr_multiply 29 = .ok (.getfield 9, 3) := by decide +kernel
theorem d_XAr_multiply_32 : decode b_XAr_multiply 32 = .ok (.iload_n 1, 1) := by decide +kernel
theorem d_XAr_multiply_33 : decode b_XAr_multiply 33 = .ok (.iconst 1, 1) := by decide +kernel
theorem d_XAr_multiply_34 : decode b_XAr_multiply 34 = .ok (.iadd, 1) := by decide +kernel
theorem d_XAr_multiply_35 : decode b_XAr_multiply 35 = .ok (.lload_n 3, 1) := by decide +kernel
theorem d_XAr_multiply_36 : decode b_XAr_multiply 36 = .ok (.l2i, 1) := by decide +kernel
theorem d_XAr_multiply_37 : decode b_XAr_multiply 37 = .ok (.invokevirtual 60, 3) := by decide +kernel
theorem d_XAr_multiply_40 : decode b_XAr_multiply 40 = .ok (.iconst 0, 1) := by decide +kernel
theorem d_XAr_multiply_41 : decode b_XAr_multiply 41 = .ok (.ireturn, 1) := by decide +kernel
theorem d_XAr_divide_0 : decode b_XAr_divide 0 = .ok (.iload_n 2, 1) := by decide +kernel
theorem d_XAr_divide_1 : decode b_XAr_divide 1 = .ok (.ifCond .ne 6, 3) := by decide +kernel
theorem d_XAr_divide_4 : decode b_XAr_divide 4 = .ok (.bipush 9, 2) := by decide +kernel
theorem d_XAr_divide_6 : decode b_XAr_divide 6 = .ok (.ireturn, 1) := by decide +kernel
theorem d_XAr_divide_7 : decode b_XAr_divide 7 = .ok (.aload_n 0, 1) := by decide +kernel
theorem d_XAr_divide_8 : decode b_XAr_divide 8 = .ok (.getfield 9, 3) := by decide +kernel
theorem d_XAr_divide_11 : decode b_XAr_divide 11 = .ok (.iload_n 1, 1) := by decide +kernel
theorem d_XAr_divide_12 : decode b_XAr_divide 12 = .ok (.invokevirtual 31, 3) := by decide +kernel
theorem d_XAr_divide_15 : decode b_XAr_divide 15 = .ok (.i2l, 1) := by decide +kernel
theorem d_XAr_divide_16 : decode b_XAr_divide 16 = .ok (.bipush 32, 2) := by decide +kernel
theorem d_XAr_divide_18 : decode b_XAr_divide 18 = .ok (.lshl, 1) := by decide +kernel
theorem d_XAr_divide_19 : decode b_XAr_divide 19 = .ok (.aload_n 0, 1) := by decide +kernel
theorem d_XAr_divide_20 : decode b_XAr_divide 20 = .ok (.getfield 9, 3) := by decide +kernel
theorem d_XAr_divide_23 : decode b_XAr_divide 23 = .ok (.iload_n 1, 1) := by decide +kernel
theorem d_XAr_divide_24 : decode b_XAr_divide 24 = .ok (.iconst 1, 1) := by decide +kernel
theorem d_XAr_divide_25 : decode b_XAr_divide 25 = .ok (.iadd, 1) := by decide +kernel
theorem d_XAr_divide_26 : decode b_XAr_divide 26 = .ok (.invokevirtual 31, 3) := by decide +kernel
theorem d_XAr_divide_29 : decode b_XAr_divide 29 = .ok (.i2l, 1) := by decide +kernel
theorem d_XAr_divide_30 : decode b_XAr_divide 30 = .ok (.ldc2_w 64, 3) := by decide +kernel
theorem d_XAr_divide_33 : decode b_XAr_divide 33 = .ok (.land, 1) := by decide +kernel
theorem d_XAr_divide_34 : decode b_XAr_divide 34 = .ok (.lor, 1) := by decide +kernel
theorem d_XAr_divide_35 : decode b_XAr_divide 35 = .ok (.lstore_n 3, 1) := by decide +kernel
theorem d_XAr_divide_36 : decode b_XAr_divide 36 = .ok (.lload_n 3, 1) := by decide +kernel
theorem d_XAr_divide_37 : decode b_XAr_divide 37 = .ok (.iload_n 2, 1) := by decide +kernel
theorem d_XAr_divide_38 : decode b_XAr_divide 38 = .ok (.i2l, 1) := by decide +kernel
theorem d_XAr_divide_39 : decode b_XAr_divide 39 = .ok (.ldiv, 1) := by decide +kernel
theorem d_XAr_divide_40 : decode b_XAr_divide 40 = .ok (.lstore 5, 2) := by decide +kernel
theorem d_XAr_divide_42 : decode b_XAr_divide 42 = .ok (.lload 5, 2) := by decide +kernel
theorem d_XAr_divide_44 : decode b_XAr_divide 44 = .ok (.lload 5, 2) := by decide +kernel
theorem d_XAr_divide_46 : decode b_XAr_divide 46 = .ok (.l2i, 1) := by decide +kernel
theorem d_XAr_divide_47 : decode b_XAr_divide 47 = .ok (.i2l, 1) := by decide +kernel
theorem d_XAr_divide_48 : decode b_XAr_divide 48 = .ok (.lcmp, 1) := by decide +kernel
theorem d_XAr_divide_49 : decode b_XAr_divide 49 = .ok (.ifCond .eq 6, 3) := by decide +kernel
theorem d_XAr_divide_52 : decode b_XAr_divide 52 = .ok (.bipush 9, 2) := by decide +kernel
theorem d_XAr_divide_54 : decode b_XAr_divide 54 = .ok (.ireturn, 1) := by decide +kernel
theorem d_XAr_divide_55 : decode b_XAr_divide 55 = .ok (.aload_n 0, 1) := by decide +kernel
theorem d_XAr_divide_56 : decode b_XAr_divide 56 = .ok (.getfield 9, 3) := by decide +kernel
theorem d_XAr_divide_59 : decode b_XAr_divide 59 = .ok (.iload_n 1, 1) := by decide +kernel
theorem d_XAr_divide_60 : decode b_XAr_divide 60 = .ok (.lload_n 3, 1) := by decide +kernel
theorem d_XAr_divide_61 : decode b_XAr_divide 61 = .ok (.iload_n 2, 1) := by decide +kernel
theorem d_XAr_divide_62 : decode b_XAr_divide 62 = .ok (.i2l, 1) := by decide +kernel
theorem d_XAr_divide_63 : decode b_XAr_divide 63 = .ok (.lrem, 1) := by decide +kernel
theorem d_XAr_divide_64 : decode b_XAr_divide 64 = .ok (.l2i, 1) := by decide +kernel
theorem d_XAr_divide_65 : decode b_XAr_divide 65 = .ok (.invokevirtual 60, 3) := by decide +kernel
theorem d_XAr_divide_68 : decode b_XAr_divide 68 = .ok (.aload_n 0, 1) := by decide +kernel
theorem d_XAr_divide_69 : decode b_XAr_divide 69 = .ok (.getfield 9, 3) := by decide +kernel
theorem d_XAr_divide_72 : decode b_XAr_divide 72 = .ok (.iload_n 1, 1) := by decide +kernel
theorem d_XAr_divide_73 : decode b_XAr_divide 73 = .ok (.iconst 1, 1) := by decide +kernel
theorem d_XAr_divide_74 : decode b_XAr_divide 74 = .ok (.iadd, 1) := by decide +kernel
theorem d_XAr_divide_75 : decode b_XAr_divide 75 = .ok (.lload 5, 2) := by decide +kernel
theorem d_XAr_divide_77 : decode b_XAr_divide 77 = .ok (.l2i, 1) := by decide +kernel
theorem d_XAr_divide_78 : decode b_XAr_divide 78 = .ok (.invokevirtual 60, 3) := by decide +kernel
theorem d_XAr_divide_81 : decode b_XAr_divide 81 = .ok (.iconst 0, 1) := by decide +kernel
theorem d_XAr_divide_82 : decode b_XAr_divide 82 = .ok (.ireturn, 1) := by decide +kernel
theorem d_XAr_putUnsigned_0 : decode b_XAr_putUnsigned 0 = .ok (.lload_n 2, 1) := by decide +kernel
theorem d_XAr_putUnsigned_1 : decode b_XAr_putUnsigned 1 = .ok (.l2i, 1) := by decide +kernel
theorem d_XAr_putUnsigned_2 : decode b_XAr_putUnsigned 2 = .ok (.istore 4, 2) := by decide +kernel
theorem d_XAr_putUnsigned_4 : decode b_XAr_putUnsigned 4 = .ok (.aload_n 0, 1) := by decide +kernel
theorem d_XAr_putUnsigned_5 : decode b_XAr_putUnsigned 5 = .ok (.getfield 9, 3) := by decide +kernel
theorem d_XAr_putUnsigned_8 : decode b_XAr_putUnsigned 8 = .ok (.iload_n 1, 1) := by decide +kernel
theorem d_XAr_putUnsigned_9 : decode b_XAr_putUnsigned 9 = .ok (.iload 4, 2) := by decide +kernel
theorem d_XAr_putUnsigned_11 : decode b_XAr_putUnsigned 11 = .ok (.invokevirtual 60, 3) := by decide +kernel
theorem d_XAr_putUnsigned_14 : decode b_XAr_putUnsigned 14 = .ok (.aload_n 0, 1) := by decide +kernel
theorem d_XAr_putUnsigned_15 : decode b_XAr_putUnsigned 15 = .ok (.getfield 9, 3) := by decide +kernel
theorem d_XAr_putUnsigned_18 : decode b_XAr_putUnsigned 18 = .ok (.lload_n 2, 1) := by decide +kernel
theorem d_XAr_putUnsigned_19 : decode b_XAr_putUnsigned 19 = .ok (.ldc2_w 64, 3) := by decide +kernel
theorem d_XAr_putUnsigned_22 : decode b_XAr_putUnsigned 22 = .ok (.lcmp, 1) := by decide +kernel
theorem d_XAr_putUnsigned_23 : decode b_XAr_putUnsigned 23 = .ok (.ifCond .le 7, 3) := by decide +kernel
theorem d_XAr_putUnsigned_26 : decode b_XAr_putUnsigned 26 = .ok (.iconst 2, 1) := by decide +kernel
theorem d_XAr_putUnsigned_27 : decode b_XAr_putUnsigned 27 = .ok (.goto 4, 3) := by decide +kernel
theorem d_XAr_putUnsigned_30 : decode b_XAr_putUnsigned 30 = .ok (.iconst 0, 1) := by decide +kernel
theorem d_XAr_putUnsigned_31 : decode b_XAr_putUnsigned 31 = .ok (.iload 4, 2) := by decide +kernel
theorem d_XAr_putUnsigned_33 : decode b_XAr_putUnsigned 33 = .ok (.ifCond .eq 7, 3) := by decide +kernel
theorem d_XAr_putUnsigned_36 : decode b_XAr_putUnsigned 36 = .ok (.iconst 1, 1) := by decide +kernel
theorem d_XAr_putUnsigned_37 : decode b_XAr_putUnsigned 37 = .ok (.goto 4, 3) := by decide +kernel
theorem d_XAr_putUnsigned_40 : decode b_XAr_putUnsigned 40 = .ok (.iconst 0, 1) := by decide +kernel
theorem d_XAr_putUnsigned_41 : decode b_XAr_putUnsigned 41 = .ok (.iadd, 1) := by decide +kernel
theorem d_XAr_putUnsigned_42 : decode b_XAr_putUnsigned 42 = .ok (.putfield 110, 3) := by decide +kernel
theorem d_XAr_putUnsigned_45 : decode b_XAr_putUnsigned 45 = .ok (.iconst 0, 1) := by decide +kernel
theorem d_XAr_putUnsigned_46 : decode b_XAr_putUnsigned 46 = .ok (.ireturn, 1) := by decide +kernel
theorem d_XAr_apply_0 : decode b_XAr_apply 0 = .ok (.aload_n 0, 1) := by decide +kernel
theorem d_XAr_apply_1 : decode b_XAr_apply 1 = .ok (.getfield 9, 3) := by decide +kernel
theorem d_XAr_apply_4 : decode b_XAr_apply 4 = .ok (.iload_n 2, 1) := by decide +kernel
theorem d_XAr_apply_5 : decode b_XAr_apply 5 = .ok (.invokevirtual 31, 3) := by decide +kernel
theorem d_XAr_apply_8 : decode b_XAr_apply 8 = .ok (.istore 4, 2) := by decide +kernel
theorem d_XAr_apply_10 : decode b_XAr_apply 10 = .ok (.iload_n 1, 1) := by decide +kernel
theorem d_XAr_apply_11 : decode b_XAr_apply 11 = .ok (.tableswitch 264 16 31 #[77, 88, 100, 108, 117, 127, 145, 155, 165, 172, 182, 194, 206, 213, 220, 240], 77) := by decide +kernel
theorem d_XAr_apply_88 : decode b_XAr_apply 88 = .ok (.aload_n 0, 1) := by decide +kernel
theorem d_XAr_apply_89 : decode b_XAr_apply 89 = .ok (.iload_n 2, 1) := by decide +kernel
theorem d_XAr_apply_90 : decode b_XAr_apply 90 = .ok (.iload_n 3, 1) := by decide +kernel
theorem d_XAr_apply_91 : decode b_XAr_apply 91 = .ok (.i2l, 1) := by decide +kernel
theorem d_XAr_apply_92 : decode b_XAr_apply 92 = .ok (.invokestatic 76, 3) := by decide +kernel
theorem d_XAr_apply_95 : decode b_XAr_apply 95 = .ok (.invokevirtual 69, 3) := by decide +kernel
theorem d_XAr_apply_98 : decode b_XAr_apply 98 = .ok (.ireturn, 1) := by decide +kernel
theorem d_XAr_apply_99 : decode b_XAr_apply 99 = .ok (.aload_n 0, 1) := by decide +kernel
theorem d_XAr_apply_100 : decode b_XAr_apply 100 = .ok (.iload_n 2, 1) := by decide +kernel
theorem d_XAr_apply_101 : decode b_XAr_apply 101 = .ok (.iload_n 3, 1) := by decide +kernel
theorem d_XAr_apply_102 : decode b_XAr_apply 102 = .ok (.i2l, 1) := by decide +kernel
theorem d_XAr_apply_103 : decode b_XAr_apply 103 = .ok (.invokestatic 76, 3) := by decide +kernel
theorem d_XAr_apply_106 : decode b_XAr_apply 106 = .ok (.lneg, 1) := by decide +kernel
theorem d_XAr_apply_107 : decode b_XAr_apply 107 = .ok (.invokevirtual 69, 3) := by decide +kernel
theorem d_XAr_apply_110 : decode b_XAr_apply 110 = .ok (.ireturn, 1) := by decide +kernel
theorem d_XAr_apply_111 : decode b_XAr_apply 111 = .ok (.aload_n 0, 1) := by decide +kernel
theorem d_XAr_apply_112 : decode b_XAr_apply 112 = .ok (.iload_n 2, 1) := by decide +kernel
theorem d_XAr_apply_113 : decode b_XAr_apply 113 = .ok (.iload_n 3, 1) := by decide +kernel
theorem d_XAr_apply_114 : decode b_XAr_apply 114 = .ok (.i2l, 1) := by decide +kernel
theorem d_XAr_apply_115 : decode b_XAr_apply 115 = .ok (.invokevirtual 69, 3) := by decide +kernel
theorem d_XAr_apply_118 : decode b_XAr_apply 118 = .ok (.ireturn, 1) := by decide +kernel
theorem d_XAr_apply_119 : decode b_XAr_apply 119 = .ok (.aload_n 0, 1) := by decide +kernel
theorem d_XAr_apply_120 : decode b_XAr_apply 120 = .ok (.iload_n 2, 1) := by decide +kernel
theorem d_XAr_apply_121 : decode b_XAr_apply 121 = .ok (.iload_n 3, 1) := by decide +kernel
theorem d_XAr_apply_122 : decode b_XAr_apply 122 = .ok (.i2l, 1) := by decide +kernel
theorem d_XAr_apply_123 : decode b_XAr_apply 123 = .ok (.lneg, 1) := by decide +kernel
theorem d_XAr_apply_124 : decode b_XAr_apply 124 = .ok (.invokevirtual 69, 3) := by decide +kernel
theorem d_XAr_apply_127 : decode b_XAr_apply 127 = .ok (.ireturn, 1) := by decide +kernel
theorem d_XAr_apply_128 : decode b_XAr_apply 128 = .ok (.aload_n 0, 1) := by decide +kernel
theorem d_XAr_apply_129 : decode b_XAr_apply 129 = .ok (.iload_n 2, 1) := by decide +kernel
theorem d_XAr_apply_130 : decode b_XAr_apply 130 = .ok (.iload 4, 2) := by decide +kernel
theorem d_XAr_apply_132 : decode b_XAr_apply 132 = .ok (.iload_n 3, 1) := by decide +kernel
theorem d_XAr_apply_133 : decode b_XAr_apply 133 = .ok (.iand, 1) := by decide +kernel
theorem d_XAr_apply_134 : decode b_XAr_apply 134 = .ok (.invokevirtual 82, 3) := by decide +kernel
theorem d_XAr_apply_137 : decode b_XAr_apply 137 = .ok (.ireturn, 1) := by decide +kernel
theorem d_XAr_apply_138 : decode b_XAr_apply 138 = .ok (.aload_n 0, 1) := by decide +kernel
theorem d_XAr_apply_139 : decode b_XAr_apply 139 = .ok (.iload 4, 2) := by decide +kernel
theorem d_XAr_apply_141 : decode b_XAr_apply 141 = .ok (.i2l, 1) := by decide +kernel
theorem d_XAr_apply_142 : decode b_XAr_apply 142 = .ok (.ldc2_w 64, 3) := by decide +kernel
theorem d_XAr_apply_145 : decode b_XAr_apply 145 = .ok (.land, 1) := by decide +kernel
theorem d_XAr_apply_146 : decode b_XAr_apply 146 = .ok (.iload_n 3, 1) := by decide +kernel
theorem d_XAr_apply_147 : decode b_XAr_apply 147 = .ok (.i2l, 1) := by decide +kernel
theorem d_XAr_apply_148 : decode b_XAr_apply 148 = .ok (.ldc2_w 64, 3) := by decide +kernel
theorem d_XAr_apply_151 : decode b_XAr_apply 151 = .ok (.land, 1) := by decide +kernel
theorem d_XAr_apply_152 : decode b_XAr_apply 152 = .ok (.invokevirtual 85, 3) := by decide +kernel
theorem d_XAr_apply_155 : decode b_XAr_apply 155 = .ok (.ireturn, 1) := by decide +kernel
theorem d_XAr_apply_156 : decode b_XAr_apply 156 = .ok (.aload_n 0, 1) := by decide +kernel
theorem d_XAr_apply_157 : decode b_XAr_apply 157 = .ok (.iload_n 2, 1) := by decide +kernel
theorem d_XAr_apply_158 : decode b_XAr_apply 158 = .ok (.iload 4, 2) := by decide +kernel
theorem d_XAr_apply_160 : decode b_XAr_apply 160 = .ok (.iload_n 3, 1) := by decide +kernel
theorem d_XAr_apply_161 : decode b_XAr_apply 161 = .ok (.ior, 1) := by decide +kernel
theorem d_XAr_apply_162 : decode b_XAr_apply 162 = .ok (.invokevirtual 82, 3) := by decide +kernel
theorem d_XAr_apply_165 : decode b_XAr_apply 165 = .ok (.ireturn, 1) := by decide +kernel
theorem d_XAr_apply_166 : decode b_XAr_apply 166 = .ok (.aload_n 0, 1) := by decide +kernel
theorem d_XAr_apply_167 : decode b_XAr_apply 167 = .ok (.iload_n 2, 1) := by decide +kernel
theorem d_XAr_apply_168 : decode b_XAr_apply 168 = .ok (.iload 4, 2) := by decide +kernel
theorem d_XAr_apply_170 : decode b_XAr_apply 170 = .ok (.iload_n 3, 1) := by decide +kernel
theorem d_XAr_apply_171 : decode b_XAr_apply 171 = .ok (.ixor, 1) := by decide +kernel
theorem d_XAr_apply_172 : decode b_XAr_apply 172 = .ok (.invokevirtual 82, 3) := by decide +kernel
theorem d_XAr_apply_175 : decode b_XAr_apply 175 = .ok (.ireturn, 1) := by decide +kernel
theorem d_XAr_apply_176 : decode b_XAr_apply 176 = .ok (.aload_n 0, 1) := by decide +kernel
theorem d_XAr_apply_177 : decode b_XAr_apply 177 = .ok (.iload_n 2, 1) := by decide +kernel
theorem d_XAr_apply_178 : decode b_XAr_apply 178 = .ok (.iload_n 3, 1) := by decide +kernel
theorem d_XAr_apply_179 : decode b_XAr_apply 179 = .ok (.invokevirtual 66, 3) := by decide +kernel
theorem d_XAr_apply_182 : decode b_XAr_apply 182 = .ok (.ireturn, 1) := by decide +kernel
theorem d_XAr_apply_183 : decode b_XAr_apply 183 = .ok (.aload_n 0, 1) := by decide +kernel
theorem d_XAr_apply_184 : decode b_XAr_apply 184 = .ok (.iload 4, 2) := by decide +kernel
theorem d_XAr_apply_186 : decode b_XAr_apply 186 = .ok (.i2l, 1) := by decide +kernel
theorem d_XAr_apply_187 : decode b_XAr_apply 187 = .ok (.iload_n 3, 1) := by decide +kernel
theorem d_XAr_apply_188 : decode b_XAr_apply 188 = .ok (.i2l, 1) := by decide +kernel
theorem d_XAr_apply_189 : decode b_XAr_apply 189 = .ok (.invokevirtual 85, 3) := by decide +kernel
theorem d_XAr_apply_192 : decode b_XAr_apply 192 = .ok (.ireturn, 1) := by decide +kernel
theorem d_XAr_apply_193 : decode b_XAr_apply 193 = .ok (.aload_n 0, 1) := by decide +kernel
theorem d_XAr_apply_194 : decode b_XAr_apply 194 = .ok (.iload_n 2, 1) := by decide +kernel
theorem d_XAr_apply_195 : decode b_XAr_apply 195 = .ok (.iload 4, 2) := by decide +kernel
theorem d_XAr_apply_197 : decode b_XAr_apply 197 = .ok (.i2l, 1) := by decide +kernel
theorem d_XAr_apply_198 : decode b_XAr_apply 198 = .ok (.iload_n 3, 1) := by decide +kernel
theorem d_XAr_apply_199 : decode b_XAr_apply 199 = .ok (.i2l, 1) := by decide +kernel
theorem d_XAr_apply_200 : decode b_XAr_apply 200 = .ok (.ladd, 1) := by decide +kernel
theorem d_XAr_apply_201 : decode b_XAr_apply 201 = .ok (.invokevirtual 69, 3) := by decide +kernel
theorem d_XAr_apply_204 : decode b_XAr_apply 204 = .ok (.ireturn, 1) := by decide +kernel
theorem d_XAr_apply_205 : decode b_XAr_apply 205 = .ok (.aload_n 0, 1) := by decide +kernel
theorem d_XAr_apply_206 : decode b_XAr_apply 206 = .ok (.iload_n 2, 1) := by decide +kernel
theorem d_XAr_apply_207 : decode b_XAr_apply 207 = .ok (.iload 4, 2) := by decide +kernel
theorem d_XAr_apply_209 : decode b_XAr_apply 209 = .ok (.i2l, 1) := by decide +kernel
theorem d_XAr_apply_210 : decode b_XAr_apply 210 = .ok (.iload_n 3, 1) := by decide +kernel
theorem d_XAr_apply_211 : decode b_XAr_apply 211 = .ok (.i2l, 1) := by decide +kernel
theorem d_XAr_apply_212 : decode b_XAr_apply 212 = .ok (.lsub, 1) := by decide +kernel
theorem d_XAr_apply_213 : decode b_XAr_apply 213 = .ok (.invokevirtual 69, 3) := by decide +kernel
theorem d_XAr_apply_216 : decode b_XAr_apply 216 = .ok (.ireturn, 1) := by decide +kernel
theorem d_XAr_apply_217 : decode b_XAr_apply 217 = .ok (.aload_n 0, 1) := by decide +kernel
theorem d_XAr_apply_218 : decode b_XAr_apply 218 = .ok (.iload_n 2, 1) := by decide +kernel
theorem d_XAr_apply_219 : decode b_XAr_apply 219 = .ok (.iload_n 3, 1) := by decide +kernel
theorem d_XAr_apply_220 : decode b_XAr_apply 220 = .ok (.invokevirtual 89, 3) := by decide +kernel
theorem d_XAr_apply_223 : decode b_XAr_apply 223 = .ok (.ireturn, 1) := by decide +kernel
theorem d_XAr_apply_224 : decode b_XAr_apply 224 = .ok (.aload_n 0, 1) := by decide +kernel
theorem d_XAr_apply_225 : decode b_XAr_apply 225 = .ok (.iload_n 2, 1) := by decide +kernel
theorem d_XAr_apply_226 : decode b_XAr_apply 226 = .ok (.iload_n 3, 1) := by decide +kernel
theorem d_XAr_apply_227 : decode b_XAr_apply 227 = .ok (.invokevirtual 92, 3) := by decide +kernel
theorem d_XAr_apply_230 : decode b_XAr_apply 230 = .ok (.ireturn, 1) := by decide +kernel
theorem d_XAr_apply_231 : decode b_XAr_apply 231 = .ok (.aload_n 0, 1) := by decide +kernel
theorem d_XAr_apply_232 : decode b_XAr_apply 232 = .ok (.iload_n 2, 1) := by decide +kernel
theorem d_XAr_apply_233 : decode b_XAr_apply 233 = .ok (.iload 4, 2) := by decide +kernel
theorem d_XAr_apply_235 : decode b_XAr_apply 235 = .ok (.i2l, 1) := by decide +kernel
theorem d_XAr_apply_236 : decode b_XAr_apply 236 = .ok (.ldc2_w 64, 3) := by decide +kernel
theorem d_XAr_apply_239 : decode b_XAr_apply 239 = .ok (.land, 1) := by decide +kernel
theorem d_XAr_apply_240 : decode b_XAr_apply 240 = .ok (.iload_n 3, 1) := by decide +kernel
theorem d_XAr_apply_241 : decode b_XAr_apply 241 = .ok (.i2l, 1) := by decide +kernel
theorem d_XAr_apply_242 : decode b_XAr_apply 242 = .ok (.ldc2_w 64, 3) := by decide +kernel
theorem d_XAr_apply_245 : decode b_XAr_apply 245 = .ok (.land, 1) := by decide +kernel
theorem d_XAr_apply_246 : decode b_XAr_apply 246 = .ok (.ladd, 1) := by decide +kernel
theorem d_XAr_apply_247 : decode b_XAr_apply 247 = .ok (.invokevirtual 95, 3) := by decide +kernel
theorem d_XAr_apply_250 : decode b_XAr_apply 250 = .ok (.ireturn, 1) := by decide +kernel
theorem d_XAr_apply_251 : decode b_XAr_apply 251 = .ok (.aload_n 0, 1) := by decide +kernel
theorem d_XAr_apply_252 : decode b_XAr_apply 252 = .ok (.iload_n 2, 1) := by decide +kernel
theorem d_XAr_apply_253 : decode b_XAr_apply 253 = .ok (.iload 4, 2) := by decide +kernel
theorem d_XAr_apply_255 : decode b_XAr_apply 255 = .ok (.i2l, 1) := by decide +kernel
theorem d_XAr_apply_256 : decode b_XAr_apply 256 = .ok (.ldc2_w 64, 3) := by decide +kernel
theorem d_XAr_apply_259 : decode b_XAr_apply 259 = .ok (.land, 1) := by decide +kernel
theorem d_XAr_apply_260 : decode b_XAr_apply 260 = .ok (.iload_n 3, 1) := by decide +kernel
theorem d_XAr_apply_261 : decode b_XAr_apply 261 = .ok (.iconst (-1), 1) := by decide +kernel
theorem d_XAr_apply_262 : decode b_XAr_apply 262 = .ok (.ixor, 1) := by decide +kernel
theorem d_XAr_apply_263 : decode b_XAr_apply 263 = .ok (.i2l, 1) := by decide +kernel
theorem d_XAr_apply_264 : decode b_XAr_apply 264 = .ok (.ldc2_w 64, 3) := by decide +kernel
theorem d_XAr_apply_267 : decode b_XAr_apply 267 = .ok (.land, 1) := by decide +kernel
theorem d_XAr_apply_268 : decode b_XAr_apply 268 = .ok (.ladd, 1) := by decide +kernel
theorem d_XAr_apply_269 : decode b_XAr_apply 269 = .ok (.lconst 1, 1) := by decide +kernel
theorem d_XAr_apply_270 : decode b_XAr_apply 270 = .ok (.ladd, 1) := by decide +kernel
theorem d_XAr_apply_271 : decode b_XAr_apply 271 = .ok (.invokevirtual 95, 3) := by decide +kernel
theorem d_XAr_apply_274 : decode b_XAr_apply 274 = .ok (.ireturn, 1) := by decide +kernel
theorem d_XAr_apply_275 : decode b_XAr_apply 275 = .ok (.iconst 1, 1) := by decide +kernel
theorem d_XAr_apply_276 : decode b_XAr_apply 276 = .ok (.ireturn, 1) := by decide +kernel
theorem d_XAr_withRegister_0 : decode b_XAr_withRegister 0 = .ok (.aload_n 1, 1) := by decide +kernel
theorem d_XAr_withRegister_1 : decode b_XAr_withRegister 1 = .ok (.getfield 15, 3) := by decide +kernel
theorem d_XAr_withRegister_4 : decode b_XAr_withRegister 4 = .ok (.aload_n 1, 1) := by decide +kernel
theorem d_XAr_withRegister_5 : decode b_XAr_withRegister 5 = .ok (.getfield 21, 3) := by decide +kernel
theorem d_XAr_withRegister_8 : decode b_XAr_withRegister 8 = .ok (.invokestatic 24, 3) := by decide +kernel
theorem d_XAr_withRegister_11 : decode b_XAr_withRegister 11 = .ok (.ifCond .eq 6, 3) := by decide +kernel
theorem d_XAr_withRegister_14 : decode b_XAr_withRegister 14 = .ok (.bipush 6, 2) := by decide +kernel
theorem d_XAr_withRegister_16 : decode b_XAr_withRegister 16 = .ok (.ireturn, 1) := by decide +kernel
theorem d_XAr_withRegister_17 : decode b_XAr_withRegister 17 = .ok (.aload_n 0, 1) := by decide +kernel
theorem d_XAr_withRegister_18 : decode b_XAr_withRegister 18 = .ok (.aload_n 1, 1) := by decide +kernel
theorem d_XAr_withRegister_19 : decode b_XAr_withRegister 19 = .ok (.getfield 15, 3) := by decide +kernel
theorem d_XAr_withRegister_22 : decode b_XAr_withRegister 22 = .ok (.aload_n 1, 1) := by decide +kernel
theorem d_XAr_withRegister_23 : decode b_XAr_withRegister 23 = .ok (.getfield 21, 3) := by decide +kernel
theorem d_XAr_withRegister_26 : decode b_XAr_withRegister 26 = .ok (.aload_n 0, 1) := by decide +kernel
theorem d_XAr_withRegister_27 : decode b_XAr_withRegister 27 = .ok (.getfield 9, 3) := by decide +kernel
theorem d_XAr_withRegister_30 : decode b_XAr_withRegister 30 = .ok (.aload_n 1, 1) := by decide +kernel
theorem d_XAr_withRegister_31 : decode b_XAr_withRegister 31 = .ok (.getfield 28, 3) := by decide +kernel
theorem d_XAr_withRegister_34 : decode b_XAr_withRegister 34 = .ok (.invokevirtual 31, 3) := by decide +kernel
theorem d_XAr_withRegister_37 : decode b_XAr_withRegister 37 = .ok (.invokevirtual 37, 3) := by decide +kernel
theorem d_XAr_withRegister_40 : decode b_XAr_withRegister 40 = .ok (.ireturn, 1) := by decide +kernel
theorem d_XMe_holds_0 : decode b_XMe_holds 0 = .ok (.iload_n 1, 1) := by decide +kernel
theorem d_XMe_holds_1 : decode b_XMe_holds 1 = .ok (.ifCond .lt 23, 3) := by decide +kernel
theorem d_XMe_holds_4 : decode b_XMe_holds 4 = .ok (.iload_n 2, 1) := by decide +kernel
theorem d_XMe_holds_5 : decode b_XMe_holds 5 = .ok (.sipush 1024, 3) := by decide +kernel
theorem d_XMe_holds_8 : decode b_XMe_holds 8 = .ok (.if_icmp .gt 16, 3) := by decide +kernel
theorem d_XMe_holds_11 : decode b_XMe_holds 11 = .ok (.iload_n 1, 1) := by decide +kernel
theorem d_XMe_holds_12 : decode b_XMe_holds 12 = .ok (.sipush 1024, 3) := by decide +kernel
theorem d_XMe_holds_15 : decode b_XMe_holds 15 = .ok (.iload_n 2, 1) := by decide +kernel
theorem d_XMe_holds_16 : decode b_XMe_holds 16 = .ok (.isub, 1) := by decide +kernel
theorem d_XMe_holds_17 : decode b_XMe_holds 17 = .ok (.if_icmp .gt 7, 3) := by decide +kernel
theorem d_XMe_holds_20 : decode b_XMe_holds 20 = .ok (.iconst 1, 1) := by decide +kernel
theorem d_XMe_holds_21 : decode b_XMe_holds 21 = .ok (.goto 4, 3) := by decide +kernel
theorem d_XMe_holds_24 : decode b_XMe_holds 24 = .ok (.iconst 0, 1) := by decide +kernel
theorem d_XMe_holds_25 : decode b_XMe_holds 25 = .ok (.ireturn, 1) := by decide +kernel
theorem d_XMe_faultOf_0 : decode b_XMe_faultOf 0 = .ok (.iload_n 1, 1) := by decide +kernel
theorem d_XMe_faultOf_1 : decode b_XMe_faultOf 1 = .ok (.iload_n 2, 1) := by decide +kernel
theorem d_XMe_faultOf_2 : decode b_XMe_faultOf 2 = .ok (.iconst 1, 1) := by decide +kernel
theorem d_XMe_faultOf_3 : decode b_XMe_faultOf 3 = .ok (.isub, 1) := by decide +kernel
theorem d_XMe_faultOf_4 : decode b_XMe_faultOf 4 = .ok (.iand, 1) := by decide +kernel
theorem d_XMe_faultOf_5 : decode b_XMe_faultOf 5 = .ok (.ifCond .eq 6, 3) := by decide +kernel
theorem d_XMe_faultOf_8 : decode b_XMe_faultOf 8 = .ok (.bipush 6, 2) := by decide +kernel
theorem d_XMe_faultOf_10 : decode b_XMe_faultOf 10 = .ok (.ireturn, 1) := by decide +kernel
theorem d_XMe_faultOf_11 : decode b_XMe_faultOf 11 = .ok (.aload_n 0, 1) := by decide +kernel
theorem d_XMe_faultOf_12 : decode b_XMe_faultOf 12 = .ok (.iload_n 1, 1) := by decide +kernel
theorem d_XMe_faultOf_13 : decode b_XMe_faultOf 13 = .ok (.iload_n 2, 1) := by decide +kernel
theorem d_XMe_faultOf_14 : decode b_XMe_faultOf 14 = .ok (.invokevirtual 15, 3) := by decide +kernel
theorem d_XMe_faultOf_17 : decode b_XMe_faultOf 17 = .ok (.ifCond .eq 7, 3) := by decide +kernel
theorem d_XMe_faultOf_20 : decode b_XMe_faultOf 20 = .ok (.iconst 0, 1) := by decide +kernel
theorem d_XMe_faultOf_21 : decode b_XMe_faultOf 21 = .ok (.goto 4, 3) := by decide +kernel
theorem d_XMe_faultOf_24 : decode b_XMe_faultOf 24 = .ok (.iconst 5, 1) := by decide +kernel
theorem d_XMe_faultOf_25 : decode b_XMe_faultOf 25 = .ok (.ireturn, 1) := by decide +kernel
theorem d_XMe_get_0 : decode b_XMe_get 0 = .ok (.iload_n 1, 1) := by decide +kernel
theorem d_XMe_get_1 : decode b_XMe_get 1 = .ok (.ifCond .lt 19, 3) := by decide +kernel
theorem d_XMe_get_4 : decode b_XMe_get 4 = .ok (.iload_n 1, 1) := by decide +kernel
theorem d_XMe_get_5 : decode b_XMe_get 5 = .ok (.sipush 1024, 3) := by decide +kernel
theorem d_XMe_get_8 : decode b_XMe_get 8 = .ok (.if_icmp .ge 12, 3) := by decide +kernel
theorem d_XMe_get_11 : decode b_XMe_get 11 = .ok (.aload_n 0, 1) := by decide +kernel
theorem d_XMe_get_12 : decode b_XMe_get 12 = .ok (.getfield 11, 3) := by decide +kernel
theorem d_XMe_get_15 : decode b_XMe_get 15 = .ok (.iload_n 1, 1) := by decide +kernel
theorem d_XMe_get_16 : decode b_XMe_get 16 = .ok (.iaload, 1) := by decide +kernel
theorem d_XMe_get_17 : decode b_XMe_get 17 = .ok (.goto 4, 3) := by decide +kernel
theorem d_XMe_get_20 : decode b_XMe_get 20 = .ok (.iconst 0, 1) := by decide +kernel
theorem d_XMe_get_21 : decode b_XMe_get 21 = .ok (.ireturn, 1) := by decide +kernel
theorem d_XMe_word_0 : decode b_XMe_word 0 = .ok (.aload_n 0, 1) := by decide +kernel
theorem d_XMe_word_1 : decode b_XMe_word 1 = .ok (.iload_n 1, 1) := by decide +kernel
theorem d_XMe_word_2 : decode b_XMe_word 2 = .ok (.invokevirtual 19, 3) := by decide +kernel
theorem d_XMe_word_5 : decode b_XMe_word 5 = .ok (.bipush 24, 2) := by decide +kernel
theorem d_XMe_word_7 : decode b_XMe_word 7 = .ok (.ishl, 1) := by decide +kernel
theorem d_XMe_word_8 : decode b_XMe_word 8 = .ok (.aload_n 0, 1) := by decide +kernel
theorem d_XMe_word_9 : decode b_XMe_word 9 = .ok (.iload_n 1, 1) := by decide +kernel
theorem d_XMe_word_10 : decode b_XMe_word 10 = .ok (.iconst 1, 1) := by decide +kernel
theorem d_XMe_word_11 : decode b_XMe_word 11 = .ok (.iadd, 1) := by decide +kernel
theorem d_XMe_word_12 : decode b_XMe_word 12 = .ok (.invokevirtual 19, 3) := by decide +kernel
theorem d_XMe_word_15 : decode b_XMe_word 15 = .ok (.bipush 16, 2) := by decide +kernel
theorem d_XMe_word_17 : decode b_XMe_word 17 = .ok (.ishl, 1) := by decide +kernel
theorem d_XMe_word_18 : decode b_XMe_word 18 = .ok (.ior, 1) := by decide +kernel
theorem d_XMe_word_19 : decode b_XMe_word 19 = .ok (.aload_n 0, 1) := by decide +kernel
theorem d_XMe_word_20 : decode b_XMe_word 20 = .ok (.iload_n 1, 1) := by decide +kernel
theorem d_XMe_word_21 : decode b_XMe_word 21 = .ok (.iconst 2, 1) := by decide +kernel
theorem d_XMe_word_22 : decode b_XMe_word 22 = .ok (.iadd, 1) := by decide +kernel
theorem d_XMe_word_23 : decode b_XMe_word 23 = .ok (.invokevirtual 19, 3) := by decide +kernel
theorem d_XMe_word_26 : decode b_XMe_word 26 = .ok (.bipush 8, 2) := by decide +kernel
theorem d_XMe_word_28 : decode b_XMe_word 28 = .ok (.ishl, 1) := by decide +kernel
theorem d_XMe_word_29 : decode b_XMe_word 29 = .ok (.ior, 1) := by decide +kernel
theorem d_XMe_word_30 : decode b_XMe_word 30 = .ok (.aload_n 0, 1) := by decide +kernel
theorem d_XMe_word_31 : decode b_XMe_word 31 = .ok (.iload_n 1, 1) := by decide +kernel
theorem d_XMe_word_32 : decode b_XMe_word 32 = .ok (.iconst 3, 1) := by decide +kernel
theorem d_XMe_word_33 : decode b_XMe_word 33 = .ok (.iadd, 1) := by decide +kernel
theorem d_XMe_word_34 : decode b_XMe_word 34 = .ok (.invokevirtual 19, 3) := by decide +kernel
theorem d_XMe_word_37 : decode b_XMe_word 37 = .ok (.ior, 1) := by decide +kernel
theorem d_XMe_word_38 : decode b_XMe_word 38 = .ok (.ireturn, 1) := by decide +kernel
theorem d_XAr_withWord_0 : decode b_XAr_withWord 0 = .ok (.aload_n 1, 1) := by decide +kernel
theorem d_XAr_withWord_1 : decode b_XAr_withWord 1 = .ok (.getfield 15, 3) := by decide +kernel
theorem d_XAr_withWord_4 : decode b_XAr_withWord 4 = .ok (.bipush 64, 2) := by decide +kernel
theorem d_XAr_withWord_6 : decode b_XAr_withWord 6 = .ok (.isub, 1) := by decide +kernel
theorem d_XAr_withWord_7 : decode b_XAr_withWord 7 = .ok (.istore_n 2, 1) := by decide +kernel
theorem d_XAr_withWord_8 : decode b_XAr_withWord 8 = .ok (.iload_n 2, 1) := by decide +kernel
theorem d_XAr_withWord_9 : decode b_XAr_withWord 9 = .ok (.aload_n 1, 1) := by decide +kernel
theorem d_XAr_withWord_10 : decode b_XAr_withWord 10 = .ok (.getfield 21, 3) := by decide +kernel
theorem d_XAr_withWord_13 : decode b_XAr_withWord 13 = .ok (.invokestatic 24, 3) := by decide +kernel
theorem d_XAr_withWord_16 : decode b_XAr_withWord 16 = .ok (.ifCond .eq 6, 3) := by decide +kernel
theorem d_XAr_withWord_19 : decode b_XAr_withWord 19 = .ok (.bipush 6, 2) := by decide +kernel
theorem d_XAr_withWord_21 : decode b_XAr_withWord 21 = .ok (.ireturn, 1) := by decide +kernel
theorem d_XAr_withWord_22 : decode b_XAr_withWord 22 = .ok (.aload_n 0, 1) := by decide +kernel
theorem d_XAr_withWord_23 : decode b_XAr_withWord 23 = .ok (.getfield 9, 3) := by decide +kernel
theorem d_XAr_withWord_26 : decode b_XAr_withWord 26 = .ok (.getfield 41, 3) := by decide +kernel
theorem d_XAr_withWord_29 : decode b_XAr_withWord 29 = .ok (.aload_n 1, 1) := by decide +kernel
theorem d_XAr_withWord_30 : decode b_XAr_withWord 30 = .ok (.getfield 45, 3) := by decide +kernel
theorem d_XAr_withWord_33 : decode b_XAr_withWord 33 = .ok (.iconst 4, 1) := by decide +kernel
theorem d_XAr_withWord_34 : decode b_XAr_withWord 34 = .ok (.invokevirtual 48, 3) := by decide +kernel
