theorem d_XMe_decimal_73 : decode b_XMe_decimal 73 = .ok (.invokevirtual 33, 3) := by decide +kernel
theorem d_XMe_decimal_76 : decode b_XMe_decimal 76 = .ok (.ifCond .eq 8, 3) := by decide +kernel
theorem d_XMe_decimal_79 : decode b_XMe_decimal 79 = .ok (.lload_n 3, 1) := by decide +kernel
theorem d_XMe_decimal_80 : decode b_XMe_decimal 80 = .ok (.lneg, 1) := by decide +kernel
theorem d_XMe_decimal_81 : decode b_XMe_decimal 81 = .ok (.goto 4, 3) := by decide +kernel
theorem d_XMe_decimal_84 : decode b_XMe_decimal 84 = .ok (.lload_n 3, 1) := by decide +kernel
theorem d_XMe_decimal_85 : decode b_XMe_decimal 85 = .ok (.lreturn, 1) := by decide +kernel
theorem d_XDe_convertToBinary_0 : decode b_XDe_convertToBinary 0 = .ok (.aload_n 0, 1) := by decide +kernel
theorem d_XDe_convertToBinary_1 : decode b_XDe_convertToBinary 1 = .ok (.getfield 25, 3) := by decide +kernel
theorem d_XDe_convertToBinary_4 : decode b_XDe_convertToBinary 4 = .ok (.aload_n 1, 1) := by decide +kernel
theorem d_XDe_convertToBinary_5 : decode b_XDe_convertToBinary 5 = .ok (.getfield 26, 3) := by decide +kernel
theorem d_XDe_convertToBinary_8 : decode b_XDe_convertToBinary 8 = .ok (.bipush 8, 2) := by decide +kernel
theorem d_XDe_convertToBinary_10 : decode b_XDe_convertToBinary 10 = .ok (.invokevirtual 62, 3) := by decide +kernel
theorem d_XDe_convertToBinary_13 : decode b_XDe_convertToBinary 13 = .ok (.ifCond .ne 6, 3) := by decide +kernel
theorem d_XDe_convertToBinary_16 : decode b_XDe_convertToBinary 16 = .ok (.bipush 7, 2) := by decide +kernel
theorem d_XDe_convertToBinary_18 : decode b_XDe_convertToBinary 18 = .ok (.ireturn, 1) := by decide +kernel
theorem d_XDe_convertToBinary_19 : decode b_XDe_convertToBinary 19 = .ok (.aload_n 0, 1) := by decide +kernel
theorem d_XDe_convertToBinary_20 : decode b_XDe_convertToBinary 20 = .ok (.getfield 25, 3) := by decide +kernel
theorem d_XDe_convertToBinary_23 : decode b_XDe_convertToBinary 23 = .ok (.aload_n 1, 1) := by decide +kernel
theorem d_XDe_convertToBinary_24 : decode b_XDe_convertToBinary 24 = .ok (.getfield 26, 3) := by decide +kernel
theorem d_XDe_convertToBinary_27 : decode b_XDe_convertToBinary 27 = .ok (.bipush 8, 2) := by decide +kernel
theorem d_XDe_convertToBinary_29 : decode b_XDe_convertToBinary 29 = .ok (.invokevirtual 66, 3) := by decide +kernel
theorem d_XDe_convertToBinary_32 : decode b_XDe_convertToBinary 32 = .ok (.lstore_n 2, 1) := by decide +kernel
theorem d_XDe_convertToBinary_33 : decode b_XDe_convertToBinary 33 = .ok (.lload_n 2, 1) := by decide +kernel
theorem d_XDe_convertToBinary_34 : decode b_XDe_convertToBinary 34 = .ok (.lload_n 2, 1) := by decide +kernel
theorem d_XDe_convertToBinary_35 : decode b_XDe_convertToBinary 35 = .ok (.l2i, 1) := by decide +kernel
theorem d_XDe_convertToBinary_36 : decode b_XDe_convertToBinary 36 = .ok (.i2l, 1) := by decide +kernel
theorem d_XDe_convertToBinary_37 : decode b_XDe_convertToBinary 37 = .ok (.lcmp, 1) := by decide +kernel
theorem d_XDe_convertToBinary_38 : decode b_XDe_convertToBinary 38 = .ok (.ifCond .eq 6, 3) := by decide +kernel
theorem d_XDe_convertToBinary_41 : decode b_XDe_convertToBinary 41 = .ok (.bipush 9, 2) := by decide +kernel
theorem d_XDe_convertToBinary_43 : decode b_XDe_convertToBinary 43 = .ok (.ireturn, 1) := by decide +kernel
theorem d_XDe_convertToBinary_44 : decode b_XDe_convertToBinary 44 = .ok (.aload_n 0, 1) := by decide +kernel
theorem d_XDe_convertToBinary_45 : decode b_XDe_convertToBinary 45 = .ok (.getfield 15, 3) := by decide +kernel
theorem d_XDe_convertToBinary_48 : decode b_XDe_convertToBinary 48 = .ok (.aload_n 1, 1) := by decide +kernel
theorem d_XDe_convertToBinary_49 : decode b_XDe_convertToBinary 49 = .ok (.getfield 41, 3) := by decide +kernel
theorem d_XDe_convertToBinary_52 : decode b_XDe_convertToBinary 52 = .ok (.lload_n 2, 1) := by decide +kernel
theorem d_XDe_convertToBinary_53 : decode b_XDe_convertToBinary 53 = .ok (.l2i, 1) := by decide +kernel
theorem d_XDe_convertToBinary_54 : decode b_XDe_convertToBinary 54 = .ok (.invokevirtual 70, 3) := by decide +kernel
theorem d_XDe_convertToBinary_57 : decode b_XDe_convertToBinary 57 = .ok (.iconst 0, 1) := by decide +kernel
theorem d_XDe_convertToBinary_58 : decode b_XDe_convertToBinary 58 = .ok (.ireturn, 1) := by decide +kernel
theorem d_XDe_convert_0 : decode b_XDe_convert 0 = .ok (.aload_n 0, 1) := by decide +kernel
theorem d_XDe_convert_1 : decode b_XDe_convert 1 = .ok (.getfield 25, 3) := by decide +kernel
theorem d_XDe_convert_4 : decode b_XDe_convert 4 = .ok (.aload_n 1, 1) := by decide +kernel
theorem d_XDe_convert_5 : decode b_XDe_convert 5 = .ok (.getfield 26, 3) := by decide +kernel
theorem d_XDe_convert_8 : decode b_XDe_convert 8 = .ok (.bipush 8, 2) := by decide +kernel
theorem d_XDe_convert_10 : decode b_XDe_convert 10 = .ok (.invokevirtual 32, 3) := by decide +kernel
theorem d_XDe_convert_13 : decode b_XDe_convert 13 = .ok (.istore_n 2, 1) := by decide +kernel
theorem d_XDe_convert_14 : decode b_XDe_convert 14 = .ok (.iload_n 2, 1) := by decide +kernel
theorem d_XDe_convert_15 : decode b_XDe_convert 15 = .ok (.ifCond .eq 5, 3) := by decide +kernel
theorem d_XDe_convert_18 : decode b_XDe_convert 18 = .ok (.iload_n 2, 1) := by decide +kernel
theorem d_XDe_convert_19 : decode b_XDe_convert 19 = .ok (.ireturn, 1) := by decide +kernel
theorem d_XDe_convert_20 : decode b_XDe_convert 20 = .ok (.aload_n 1, 1) := by decide +kernel
theorem d_XDe_convert_21 : decode b_XDe_convert 21 = .ok (.getfield 38, 3) := by decide +kernel
theorem d_XDe_convert_24 : decode b_XDe_convert 24 = .ok (.bipush 78, 2) := by decide +kernel
theorem d_XDe_convert_26 : decode b_XDe_convert 26 = .ok (.if_icmp .ne 46, 3) := by decide +kernel
theorem d_XDe_convert_29 : decode b_XDe_convert 29 = .ok (.aload_n 0, 1) := by decide +kernel
theorem d_XDe_convert_30 : decode b_XDe_convert 30 = .ok (.getfield 15, 3) := by decide +kernel
theorem d_XDe_convert_33 : decode b_XDe_convert 33 = .ok (.aload_n 1, 1) := by decide +kernel
theorem d_XDe_convert_34 : decode b_XDe_convert 34 = .ok (.getfield 41, 3) := by decide +kernel
theorem d_XDe_convert_37 : decode b_XDe_convert 37 = .ok (.invokevirtual 44, 3) := by decide +kernel
theorem d_XDe_convert_40 : decode b_XDe_convert 40 = .ok (.i2l, 1) := by decide +kernel
theorem d_XDe_convert_41 : decode b_XDe_convert 41 = .ok (.lstore_n 3, 1) := by decide +kernel
theorem d_XDe_convert_42 : decode b_XDe_convert 42 = .ok (.aload_n 0, 1) := by decide +kernel
theorem d_XDe_convert_43 : decode b_XDe_convert 43 = .ok (.getfield 25, 3) := by decide +kernel
theorem d_XDe_convert_46 : decode b_XDe_convert 46 = .ok (.aload_n 1, 1) := by decide +kernel
theorem d_XDe_convert_47 : decode b_XDe_convert 47 = .ok (.getfield 26, 3) := by decide +kernel
theorem d_XDe_convert_50 : decode b_XDe_convert 50 = .ok (.bipush 8, 2) := by decide +kernel
theorem d_XDe_convert_52 : decode b_XDe_convert 52 = .ok (.lload_n 3, 1) := by decide +kernel
theorem d_XDe_convert_53 : decode b_XDe_convert 53 = .ok (.invokestatic 48, 3) := by decide +kernel
theorem d_XDe_convert_56 : decode b_XDe_convert 56 = .ok (.lload_n 3, 1) := by decide +kernel
theorem d_XDe_convert_57 : decode b_XDe_convert 57 = .ok (.lconst 0, 1) := by decide +kernel
theorem d_XDe_convert_58 : decode b_XDe_convert 58 = .ok (.lcmp, 1) := by decide +kernel
theorem d_XDe_convert_59 : decode b_XDe_convert 59 = .ok (.ifCond .ge 7, 3) := by decide +kernel
theorem d_XDe_convert_62 : decode b_XDe_convert 62 = .ok (.iconst 1, 1) := by decide +kernel
theorem d_XDe_convert_63 : decode b_XDe_convert 63 = .ok (.goto 4, 3) := by decide +kernel
theorem d_XDe_convert_66 : decode b_XDe_convert 66 = .ok (.iconst 0, 1) := by decide +kernel
theorem d_XDe_convert_67 : decode b_XDe_convert 67 = .ok (.invokevirtual 54, 3) := by decide +kernel
theorem d_XDe_convert_70 : decode b_XDe_convert 70 = .ok (.iconst 0, 1) := by decide +kernel
theorem d_XDe_convert_71 : decode b_XDe_convert 71 = .ok (.ireturn, 1) := by decide +kernel
theorem d_XDe_convert_72 : decode b_XDe_convert 72 = .ok (.aload_n 0, 1) := by decide +kernel
theorem d_XDe_convert_73 : decode b_XDe_convert 73 = .ok (.aload_n 1, 1) := by decide +kernel
theorem d_XDe_convert_74 : decode b_XDe_convert 74 = .ok (.invokevirtual 58, 3) := by decide +kernel
theorem d_XDe_convert_77 : decode b_XDe_convert 77 = .ok (.ireturn, 1) := by decide +kernel
theorem d_XDe_sourceOctet_0 : decode b_XDe_sourceOctet 0 = .ok (.iload_n 1, 1) := by decide +kernel
theorem d_XDe_sourceOctet_1 : decode b_XDe_sourceOctet 1 = .ok (.ifCond .lt 21, 3) := by decide +kernel
theorem d_XDe_sourceOctet_4 : decode b_XDe_sourceOctet 4 = .ok (.iload_n 1, 1) := by decide +kernel
theorem d_XDe_sourceOctet_5 : decode b_XDe_sourceOctet 5 = .ok (.aload_n 0, 1) := by decide +kernel
theorem d_XDe_sourceOctet_6 : decode b_XDe_sourceOctet 6 = .ok (.getfield 9, 3) := by decide +kernel
theorem d_XDe_sourceOctet_9 : decode b_XDe_sourceOctet 9 = .ok (.arraylength, 1) := by decide +kernel
theorem d_XDe_sourceOctet_10 : decode b_XDe_sourceOctet 10 = .ok (.if_icmp .ge 12, 3) := by decide +kernel
theorem d_XDe_sourceOctet_13 : decode b_XDe_sourceOctet 13 = .ok (.aload_n 0, 1) := by decide +kernel
theorem d_XDe_sourceOctet_14 : decode b_XDe_sourceOctet 14 = .ok (.getfield 9, 3) := by decide +kernel
theorem d_XDe_sourceOctet_17 : decode b_XDe_sourceOctet 17 = .ok (.iload_n 1, 1) := by decide +kernel
theorem d_XDe_sourceOctet_18 : decode b_XDe_sourceOctet 18 = .ok (.iaload, 1) := by decide +kernel
theorem d_XDe_sourceOctet_19 : decode b_XDe_sourceOctet 19 = .ok (.goto 4, 3) := by decide +kernel
theorem d_XDe_sourceOctet_22 : decode b_XDe_sourceOctet 22 = .ok (.iconst 0, 1) := by decide +kernel
theorem d_XDe_sourceOctet_23 : decode b_XDe_sourceOctet 23 = .ok (.ireturn, 1) := by decide +kernel
theorem d_XDe_packRest_0 : decode b_XDe_packRest 0 = .ok (.iload_n 3, 1) := by decide +kernel
theorem d_XDe_packRest_1 : decode b_XDe_packRest 1 = .ok (.iconst 2, 1) := by decide +kernel
theorem d_XDe_packRest_2 : decode b_XDe_packRest 2 = .ok (.isub, 1) := by decide +kernel
theorem d_XDe_packRest_3 : decode b_XDe_packRest 3 = .ok (.istore 4, 2) := by decide +kernel
theorem d_XDe_packRest_5 : decode b_XDe_packRest 5 = .ok (.iload_n 2, 1) := by decide +kernel
theorem d_XDe_packRest_6 : decode b_XDe_packRest 6 = .ok (.iconst 2, 1) := by decide +kernel
theorem d_XDe_packRest_7 : decode b_XDe_packRest 7 = .ok (.isub, 1) := by decide +kernel
theorem d_XDe_packRest_8 : decode b_XDe_packRest 8 = .ok (.istore 5, 2) := by decide +kernel
theorem d_XDe_packRest_10 : decode b_XDe_packRest 10 = .ok (.iload 5, 2) := by decide +kernel
theorem d_XDe_packRest_12 : decode b_XDe_packRest 12 = .ok (.ifCond .lt 57, 3) := by decide +kernel
theorem d_XDe_packRest_15 : decode b_XDe_packRest 15 = .ok (.aload_n 0, 1) := by decide +kernel
theorem d_XDe_packRest_16 : decode b_XDe_packRest 16 = .ok (.iload 4, 2) := by decide +kernel
theorem d_XDe_packRest_18 : decode b_XDe_packRest 18 = .ok (.invokevirtual 86, 3) := by decide +kernel
theorem d_XDe_packRest_21 : decode b_XDe_packRest 21 = .ok (.bipush 15, 2) := by decide +kernel
theorem d_XDe_packRest_23 : decode b_XDe_packRest 23 = .ok (.iand, 1) := by decide +kernel
theorem d_XDe_packRest_24 : decode b_XDe_packRest 24 = .ok (.istore 6, 2) := by decide +kernel
theorem d_XDe_packRest_26 : decode b_XDe_packRest 26 = .ok (.aload_n 0, 1) := by decide +kernel
theorem d_XDe_packRest_27 : decode b_XDe_packRest 27 = .ok (.iload 4, 2) := by decide +kernel
theorem d_XDe_packRest_29 : decode b_XDe_packRest 29 = .ok (.iconst 1, 1) := by decide +kernel
theorem d_XDe_packRest_30 : decode b_XDe_packRest 30 = .ok (.isub, 1) := by decide +kernel
theorem d_XDe_packRest_31 : decode b_XDe_packRest 31 = .ok (.invokevirtual 86, 3) := by decide +kernel
theorem d_XDe_packRest_34 : decode b_XDe_packRest 34 = .ok (.bipush 15, 2) := by decide +kernel
theorem d_XDe_packRest_36 : decode b_XDe_packRest 36 = .ok (.iand, 1) := by decide +kernel
theorem d_XDe_packRest_37 : decode b_XDe_packRest 37 = .ok (.istore 7, 2) := by decide +kernel
theorem d_XDe_packRest_39 : decode b_XDe_packRest 39 = .ok (.aload_n 0, 1) := by decide +kernel
theorem d_XDe_packRest_40 : decode b_XDe_packRest 40 = .ok (.getfield 25, 3) := by decide +kernel
theorem d_XDe_packRest_43 : decode b_XDe_packRest 43 = .ok (.iload_n 1, 1) := by decide +kernel
theorem d_XDe_packRest_44 : decode b_XDe_packRest 44 = .ok (.iload 5, 2) := by decide +kernel
theorem d_XDe_packRest_46 : decode b_XDe_packRest 46 = .ok (.iadd, 1) := by decide +kernel
theorem d_XDe_packRest_47 : decode b_XDe_packRest 47 = .ok (.iload 7, 2) := by decide +kernel
theorem d_XDe_packRest_49 : decode b_XDe_packRest 49 = .ok (.iconst 4, 1) := by decide +kernel
theorem d_XDe_packRest_50 : decode b_XDe_packRest 50 = .ok (.ishl, 1) := by decide +kernel
theorem d_XDe_packRest_51 : decode b_XDe_packRest 51 = .ok (.iload 6, 2) := by decide +kernel
theorem d_XDe_packRest_53 : decode b_XDe_packRest 53 = .ok (.ior, 1) := by decide +kernel
theorem d_XDe_packRest_54 : decode b_XDe_packRest 54 = .ok (.invokevirtual 89, 3) := by decide +kernel
theorem d_XDe_packRest_57 : decode b_XDe_packRest 57 = .ok (.iload 4, 2) := by decide +kernel
theorem d_XDe_packRest_59 : decode b_XDe_packRest 59 = .ok (.iconst 2, 1) := by decide +kernel
theorem d_XDe_packRest_60 : decode b_XDe_packRest 60 = .ok (.isub, 1) := by decide +kernel
theorem d_XDe_packRest_61 : decode b_XDe_packRest 61 = .ok (.istore 4, 2) := by decide +kernel
theorem d_XDe_packRest_63 : decode b_XDe_packRest 63 = .ok (.iinc 5 (-1), 3) := by decide +kernel
theorem d_XDe_packRest_66 : decode b_XDe_packRest 66 = .ok (.goto (-56), 3) := by decide +kernel
theorem d_XDe_packRest_69 : decode b_XDe_packRest 69 = .ok (.return_, 1) := by decide +kernel
theorem d_XDe_unpackRest_0 : decode b_XDe_unpackRest 0 = .ok (.iconst 0, 1) := by decide +kernel
theorem d_XDe_unpackRest_1 : decode b_XDe_unpackRest 1 = .ok (.istore 4, 2) := by decide +kernel
theorem d_XDe_unpackRest_3 : decode b_XDe_unpackRest 3 = .ok (.iload 4, 2) := by decide +kernel
theorem d_XDe_unpackRest_5 : decode b_XDe_unpackRest 5 = .ok (.iload_n 2, 1) := by decide +kernel
theorem d_XDe_unpackRest_6 : decode b_XDe_unpackRest 6 = .ok (.iconst 1, 1) := by decide +kernel
theorem d_XDe_unpackRest_7 : decode b_XDe_unpackRest 7 = .ok (.isub, 1) := by decide +kernel
theorem d_XDe_unpackRest_8 : decode b_XDe_unpackRest 8 = .ok (.if_icmp .ge 65, 3) := by decide +kernel
theorem d_XDe_unpackRest_11 : decode b_XDe_unpackRest 11 = .ok (.aload_n 0, 1) := by decide +kernel
theorem d_XDe_unpackRest_12 : decode b_XDe_unpackRest 12 = .ok (.iload_n 3, 1) := by decide +kernel
theorem d_XDe_unpackRest_13 : decode b_XDe_unpackRest 13 = .ok (.iconst 2, 1) := by decide +kernel
theorem d_XDe_unpackRest_14 : decode b_XDe_unpackRest 14 = .ok (.isub, 1) := by decide +kernel
theorem d_XDe_unpackRest_15 : decode b_XDe_unpackRest 15 = .ok (.iload 4, 2) := by decide +kernel
theorem d_XDe_unpackRest_17 : decode b_XDe_unpackRest 17 = .ok (.iconst 2, 1) := by decide +kernel
theorem d_XDe_unpackRest_18 : decode b_XDe_unpackRest 18 = .ok (.idiv, 1) := by decide +kernel
theorem d_XDe_unpackRest_19 : decode b_XDe_unpackRest 19 = .ok (.isub, 1) := by decide +kernel
theorem d_XDe_unpackRest_20 : decode b_XDe_unpackRest 20 = .ok (.invokevirtual 86, 3) := by decide +kernel
theorem d_XDe_unpackRest_23 : decode b_XDe_unpackRest 23 = .ok (.istore 5, 2) := by decide +kernel
theorem d_XDe_unpackRest_25 : decode b_XDe_unpackRest 25 = .ok (.iload 4, 2) := by decide +kernel
theorem d_XDe_unpackRest_27 : decode b_XDe_unpackRest 27 = .ok (.iconst 2, 1) := by decide +kernel
theorem d_XDe_unpackRest_28 : decode b_XDe_unpackRest 28 = .ok (.irem, 1) := by decide +kernel
theorem d_XDe_unpackRest_29 : decode b_XDe_unpackRest 29 = .ok (.ifCond .ne 11, 3) := by decide +kernel
theorem d_XDe_unpackRest_32 : decode b_XDe_unpackRest 32 = .ok (.iload 5, 2) := by decide +kernel
theorem d_XDe_unpackRest_34 : decode b_XDe_unpackRest 34 = .ok (.bipush 15, 2) := by decide +kernel
theorem d_XDe_unpackRest_36 : decode b_XDe_unpackRest 36 = .ok (.iand, 1) := by decide +kernel
theorem d_XDe_unpackRest_37 : decode b_XDe_unpackRest 37 = .ok (.goto 7, 3) := by decide +kernel
theorem d_XDe_unpackRest_40 : decode b_XDe_unpackRest 40 = .ok (.iload 5, 2) := by decide +kernel
theorem d_XDe_unpackRest_42 : decode b_XDe_unpackRest 42 = .ok (.iconst 4, 1) := by decide +kernel
theorem d_XDe_unpackRest_43 : decode b_XDe_unpackRest 43 = .ok (.ishr, 1) := by decide +kernel
theorem d_XDe_unpackRest_44 : decode b_XDe_unpackRest 44 = .ok (.istore 6, 2) := by decide +kernel
theorem d_XDe_unpackRest_46 : decode b_XDe_unpackRest 46 = .ok (.aload_n 0, 1) := by decide +kernel
theorem d_XDe_unpackRest_47 : decode b_XDe_unpackRest 47 = .ok (.getfield 25, 3) := by decide +kernel
theorem d_XDe_unpackRest_50 : decode b_XDe_unpackRest 50 = .ok (.iload_n 1, 1) := by decide +kernel
theorem d_XDe_unpackRest_51 : decode b_XDe_unpackRest 51 = .ok (.iload_n 2, 1) := by decide +kernel
theorem d_XDe_unpackRest_52 : decode b_XDe_unpackRest 52 = .ok (.iadd, 1) := by decide +kernel
theorem d_XDe_unpackRest_53 : decode b_XDe_unpackRest 53 = .ok (.iconst 2, 1) := by decide +kernel
theorem d_XDe_unpackRest_54 : decode b_XDe_unpackRest 54 = .ok (.isub, 1) := by decide +kernel
theorem d_XDe_unpackRest_55 : decode b_XDe_unpackRest 55 = .ok (.iload 4, 2) := by decide +kernel
theorem d_XDe_unpackRest_57 : decode b_XDe_unpackRest 57 = .ok (.isub, 1) := by decide +kernel
theorem d_XDe_unpackRest_58 : decode b_XDe_unpackRest 58 = .ok (.sipush 240, 3) := by decide +kernel
theorem d_XDe_unpackRest_61 : decode b_XDe_unpackRest 61 = .ok (.iload 6, 2) := by decide +kernel
theorem d_XDe_unpackRest_63 : decode b_XDe_unpackRest 63 = .ok (.ior, 1) := by decide +kernel
theorem d_XDe_unpackRest_64 : decode b_XDe_unpackRest 64 = .ok (.invokevirtual 89, 3) := by decide +kernel
theorem d_XDe_unpackRest_67 : decode b_XDe_unpackRest 67 = .ok (.iinc 4 1, 3) := by decide +kernel
theorem d_XDe_unpackRest_70 : decode b_XDe_unpackRest 70 = .ok (.goto (-67), 3) := by decide +kernel
theorem d_XDe_unpackRest_73 : decode b_XDe_unpackRest 73 = .ok (.return_, 1) := by decide +kernel
theorem d_XDe_changeForm_0 : decode b_XDe_changeForm 0 = .ok (.aload_n 1, 1) := by decide +kernel
theorem d_XDe_changeForm_1 : decode b_XDe_changeForm 1 = .ok (.getfield 41, 3) := by decide +kernel
theorem d_XDe_changeForm_4 : decode b_XDe_changeForm 4 = .ok (.iconst 1, 1) := by decide +kernel
theorem d_XDe_changeForm_5 : decode b_XDe_changeForm 5 = .ok (.iadd, 1) := by decide +kernel
theorem d_XDe_changeForm_6 : decode b_XDe_changeForm 6 = .ok (.istore_n 2, 1) := by decide +kernel
theorem d_XDe_changeForm_7 : decode b_XDe_changeForm 7 = .ok (.aload_n 1, 1) := by decide +kernel
theorem d_XDe_changeForm_8 : decode b_XDe_changeForm 8 = .ok (.getfield 74, 3) := by decide +kernel
theorem d_XDe_changeForm_11 : decode b_XDe_changeForm 11 = .ok (.iconst 1, 1) := by decide +kernel
theorem d_XDe_changeForm_12 : decode b_XDe_changeForm 12 = .ok (.iadd, 1) := by decide +kernel
theorem d_XDe_changeForm_13 : decode b_XDe_changeForm 13 = .ok (.istore_n 3, 1) := by decide +kernel
theorem d_XDe_changeForm_14 : decode b_XDe_changeForm 14 = .ok (.aload_n 0, 1) := by decide +kernel
theorem d_XDe_changeForm_15 : decode b_XDe_changeForm 15 = .ok (.getfield 25, 3) := by decide +kernel
theorem d_XDe_changeForm_18 : decode b_XDe_changeForm 18 = .ok (.aload_n 1, 1) := by decide +kernel
theorem d_XDe_changeForm_19 : decode b_XDe_changeForm 19 = .ok (.getfield 77, 3) := by decide +kernel
theorem d_XDe_changeForm_22 : decode b_XDe_changeForm 22 = .ok (.iload_n 2, 1) := by decide +kernel
theorem d_XDe_changeForm_23 : decode b_XDe_changeForm 23 = .ok (.invokevirtual 80, 3) := by decide +kernel
theorem d_XDe_changeForm_26 : decode b_XDe_changeForm 26 = .ok (.ifCond .eq 18, 3) := by decide +kernel
theorem d_XDe_changeForm_29 : decode b_XDe_changeForm 29 = .ok (.aload_n 0, 1) := by decide +kernel
theorem d_XDe_changeForm_30 : decode b_XDe_changeForm 30 = .ok (.getfield 25, 3) := by decide +kernel
theorem d_XDe_changeForm_33 : decode b_XDe_changeForm 33 = .ok (.aload_n 1, 1) := by decide +kernel
theorem d_XDe_changeForm_34 : decode b_XDe_changeForm 34 = .ok (.getfield 26, 3) := by decide +kernel
theorem d_XDe_changeForm_37 : decode b_XDe_changeForm 37 = .ok (.iload_n 3, 1) := by decide +kernel
theorem d_XDe_changeForm_38 : decode b_XDe_changeForm 38 = .ok (.invokevirtual 80, 3) := by decide +kernel
theorem d_XDe_changeForm_41 : decode b_XDe_changeForm 41 = .ok (.ifCond .ne 5, 3) := by decide +kernel
theorem d_XDe_changeForm_44 : decode b_XDe_changeForm 44 = .ok (.iconst 5, 1) := by decide +kernel
theorem d_XDe_changeForm_45 : decode b_XDe_changeForm 45 = .ok (.ireturn, 1) := by decide +kernel
theorem d_XDe_changeForm_46 : decode b_XDe_changeForm 46 = .ok (.iconst 0, 1) := by decide +kernel
theorem d_XDe_changeForm_47 : decode b_XDe_changeForm 47 = .ok (.istore 4, 2) := by decide +kernel
theorem d_XDe_changeForm_49 : decode b_XDe_changeForm 49 = .ok (.iload 4, 2) := by decide +kernel
theorem d_XDe_changeForm_51 : decode b_XDe_changeForm 51 = .ok (.iload_n 3, 1) := by decide +kernel
theorem d_XDe_changeForm_52 : decode b_XDe_changeForm 52 = .ok (.if_icmp .ge 40, 3) := by decide +kernel
theorem d_XDe_changeForm_55 : decode b_XDe_changeForm 55 = .ok (.iload 4, 2) := by decide +kernel
theorem d_XDe_changeForm_57 : decode b_XDe_changeForm 57 = .ok (.aload_n 0, 1) := by decide +kernel
theorem d_XDe_changeForm_58 : decode b_XDe_changeForm 58 = .ok (.getfield 9, 3) := by decide +kernel
theorem d_XDe_changeForm_61 : decode b_XDe_changeForm 61 = .ok (.arraylength, 1) := by decide +kernel
theorem d_XDe_changeForm_62 : decode b_XDe_changeForm 62 = .ok (.if_icmp .ge 30, 3) := by decide +kernel
theorem d_XDe_changeForm_65 : decode b_XDe_changeForm 65 = .ok (.aload_n 0, 1) := by decide +kernel
theorem d_XDe_changeForm_66 : decode b_XDe_changeForm 66 = .ok (.getfield 9, 3) := by decide +kernel
theorem d_XDe_changeForm_69 : decode b_XDe_changeForm 69 = .ok (.iload 4, 2) := by decide +kernel
theorem d_XDe_changeForm_71 : decode b_XDe_changeForm 71 = .ok (.aload_n 0, 1) := by decide +kernel
theorem d_XDe_changeForm_72 : decode b_XDe_changeForm 72 = .ok (.getfield 25, 3) := by decide +kernel
theorem d_XDe_changeForm_75 : decode b_XDe_changeForm 75 = .ok (.aload_n 1, 1) := by decide +kernel
theorem d_XDe_changeForm_76 : decode b_XDe_changeForm 76 = .ok (.getfield 26, 3) := by decide +kernel
theorem d_XDe_changeForm_79 : decode b_XDe_changeForm 79 = .ok (.iload 4, 2) := by decide +kernel
theorem d_XDe_changeForm_81 : decode b_XDe_changeForm 81 = .ok (.iadd, 1) := by decide +kernel
theorem d_XDe_changeForm_82 : decode b_XDe_changeForm 82 = .ok (.invokevirtual 83, 3) := by decide +kernel
theorem d_XDe_changeForm_85 : decode b_XDe_changeForm 85 = .ok (.iastore, 1) := by decide +kernel
theorem d_XDe_changeForm_86 : decode b_XDe_changeForm 86 = .ok (.iinc 4 1, 3) := by decide +kernel
theorem d_XDe_changeForm_89 : decode b_XDe_changeForm 89 = .ok (.goto (-40), 3) := by decide +kernel
theorem d_XDe_changeForm_92 : decode b_XDe_changeForm 92 = .ok (.aload_n 0, 1) := by decide +kernel
theorem d_XDe_changeForm_93 : decode b_XDe_changeForm 93 = .ok (.iload_n 3, 1) := by decide +kernel
theorem d_XDe_changeForm_94 : decode b_XDe_changeForm 94 = .ok (.iconst 1, 1) := by decide +kernel
theorem d_XDe_changeForm_95 : decode b_XDe_changeForm 95 = .ok (.isub, 1) := by decide +kernel
theorem d_XDe_changeForm_96 : decode b_XDe_changeForm 96 = .ok (.invokevirtual 86, 3) := by decide +kernel
theorem d_XDe_changeForm_99 : decode b_XDe_changeForm 99 = .ok (.istore 4, 2) := by decide +kernel
theorem d_XDe_changeForm_101 : decode b_XDe_changeForm 101 = .ok (.aload_n 0, 1) := by decide +kernel
theorem d_XDe_changeForm_102 : decode b_XDe_changeForm 102 = .ok (.getfield 25, 3) := by decide +kernel
theorem d_XDe_changeForm_105 : decode b_XDe_changeForm 105 = .ok (.aload_n 1, 1) := by decide +kernel
theorem d_XDe_changeForm_106 : decode b_XDe_changeForm 106 = .ok (.getfield 77, 3) := by decide +kernel
theorem d_XDe_changeForm_109 : decode b_XDe_changeForm 109 = .ok (.iload_n 2, 1) := by decide +kernel
theorem d_XDe_changeForm_110 : decode b_XDe_changeForm 110 = .ok (.iadd, 1) := by decide +kernel
theorem d_XDe_changeForm_111 : decode b_XDe_changeForm 111 = .ok (.iconst 1, 1) := by decide +kernel
theorem d_XDe_changeForm_112 : decode b_XDe_changeForm 112 = .ok (.isub, 1) := by decide +kernel
theorem d_XDe_changeForm_113 : decode b_XDe_changeForm 113 = .ok (.iload 4, 2) := by decide +kernel
theorem d_XDe_changeForm_115 : decode b_XDe_changeForm 115 = .ok (.bipush 15, 2) := by decide +kernel
theorem d_XDe_changeForm_117 : decode b_XDe_changeForm 117 = .ok (.iand, 1) := by decide +kernel
theorem d_XDe_changeForm_118 : decode b_XDe_changeForm 118 = .ok (.iconst 4, 1) := by decide +kernel
theorem d_XDe_changeForm_119 : decode b_XDe_changeForm 119 = .ok (.ishl, 1) := by decide +kernel
theorem d_XDe_changeForm_120 : decode b_XDe_changeForm 120 = .ok (.iload 4, 2) := by decide +kernel
theorem d_XDe_changeForm_122 : decode b_XDe_changeForm 122 = .ok (.iconst 4, 1) := by decide +kernel
theorem d_XDe_changeForm_123 : decode b_XDe_changeForm 123 = .ok (.ishr, 1) := by decide +kernel
theorem d_XDe_changeForm_124 : decode b_XDe_changeForm 124 = .ok (.ior, 1) := by decide +kernel
theorem d_XDe_changeForm_125 : decode b_XDe_changeForm 125 = .ok (.invokevirtual 89, 3) := by decide +kernel
theorem d_XDe_changeForm_128 : decode b_XDe_changeForm 128 = .ok (.aload_n 1, 1) := by decide +kernel
theorem d_XDe_changeForm_129 : decode b_XDe_changeForm 129 = .ok (.getfield 38, 3) := by decide +kernel
theorem d_XDe_changeForm_132 : decode b_XDe_changeForm 132 = .ok (.sipush 242, 3) := by decide +kernel
theorem d_XDe_changeForm_135 : decode b_XDe_changeForm 135 = .ok (.if_icmp .ne 16, 3) := by decide +kernel
theorem d_XDe_changeForm_138 : decode b_XDe_changeForm 138 = .ok (.aload_n 0, 1) := by decide +kernel
theorem d_XDe_changeForm_139 : decode b_XDe_changeForm 139 = .ok (.aload_n 1, 1) := by decide +kernel
theorem d_XDe_changeForm_140 : decode b_XDe_changeForm 140 = .ok (.getfield 77, 3) := by decide +kernel
theorem d_XDe_changeForm_143 : decode b_XDe_changeForm 143 = .ok (.iload_n 2, 1) := by decide +kernel
theorem d_XDe_changeForm_144 : decode b_XDe_changeForm 144 = .ok (.iload_n 3, 1) := by decide +kernel
theorem d_XDe_changeForm_145 : decode b_XDe_changeForm 145 = .ok (.invokevirtual 90, 3) := by decide +kernel
theorem d_XDe_changeForm_148 : decode b_XDe_changeForm 148 = .ok (.goto 13, 3) := by decide +kernel
theorem d_XDe_changeForm_151 : decode b_XDe_changeForm 151 = .ok (.aload_n 0, 1) := by decide +kernel
theorem d_XDe_changeForm_152 : decode b_XDe_changeForm 152 = .ok (.aload_n 1, 1) := by decide +kernel
theorem d_XDe_changeForm_153 : decode b_XDe_changeForm 153 = .ok (.getfield 77, 3) := by decide +kernel
theorem d_XDe_changeForm_156 : decode b_XDe_changeForm 156 = .ok (.iload_n 2, 1) := by decide +kernel
theorem d_XDe_changeForm_157 : decode b_XDe_changeForm 157 = .ok (.iload_n 3, 1) := by decide +kernel
theorem d_XDe_changeForm_158 : decode b_XDe_changeForm 158 = .ok (.invokevirtual 94, 3) := by decide +kernel
theorem d_XDe_changeForm_161 : decode b_XDe_changeForm 161 = .ok (.iconst 0, 1) := by decide +kernel
theorem d_XDe_changeForm_162 : decode b_XDe_changeForm 162 = .ok (.ireturn, 1) := by decide +kernel
theorem d_XDe_startsWithZeros_0 : decode b_XDe_startsWithZeros 0 = .ok (.iconst 0, 1) := by decide +kernel
theorem d_XDe_startsWithZeros_1 : decode b_XDe_startsWithZeros 1 = .ok (.istore_n 3, 1) := by decide +kernel
theorem d_XDe_startsWithZeros_2 : decode b_XDe_startsWithZeros 2 = .ok (.iconst 0, 1) := by decide +kernel
theorem d_XDe_startsWithZeros_3 : decode b_XDe_startsWithZeros 3 = .ok (.istore 4, 2) := by decide +kernel
theorem d_XDe_startsWithZeros_5 : decode b_XDe_startsWithZeros 5 = .ok (.iload 4, 2) := by decide +kernel
theorem d_XDe_startsWithZeros_7 : decode b_XDe_startsWithZeros 7 = .ok (.iload_n 2, 1) := by decide +kernel
theorem d_XDe_startsWithZeros_8 : decode b_XDe_startsWithZeros 8 = .ok (.if_icmp .ge 23, 3) := by decide +kernel
theorem d_XDe_startsWithZeros_11 : decode b_XDe_startsWithZeros 11 = .ok (.iload_n 3, 1) := by decide +kernel
theorem d_XDe_startsWithZeros_12 : decode b_XDe_startsWithZeros 12 = .ok (.aload_n 0, 1) := by decide +kernel
theorem d_XDe_startsWithZeros_13 : decode b_XDe_startsWithZeros 13 = .ok (.getfield 25, 3) := by decide +kernel
theorem d_XDe_startsWithZeros_16 : decode b_XDe_startsWithZeros 16 = .ok (.iload_n 1, 1) := by decide +kernel
theorem d_XDe_startsWithZeros_17 : decode b_XDe_startsWithZeros 17 = .ok (.iload 4, 2) := by decide +kernel
theorem d_XDe_startsWithZeros_19 : decode b_XDe_startsWithZeros 19 = .ok (.iadd, 1) := by decide +kernel
theorem d_XDe_startsWithZeros_20 : decode b_XDe_startsWithZeros 20 = .ok (.invokevirtual 83, 3) := by decide +kernel
theorem d_XDe_startsWithZeros_23 : decode b_XDe_startsWithZeros 23 = .ok (.ior, 1) := by decide +kernel
theorem d_XDe_startsWithZeros_24 : decode b_XDe_startsWithZeros 24 = .ok (.istore_n 3, 1) := by decide +kernel
theorem d_XDe_startsWithZeros_25 : decode b_XDe_startsWithZeros 25 = .ok (.iinc 4 1, 3) := by decide +kernel
theorem d_XDe_startsWithZeros_28 : decode b_XDe_startsWithZeros 28 = .ok (.goto (-23), 3) := by decide +kernel
theorem d_XDe_startsWithZeros_31 : decode b_XDe_startsWithZeros 31 = .ok (.iload_n 3, 1) := by decide +kernel
theorem d_XDe_startsWithZeros_32 : decode b_XDe_startsWithZeros 32 = .ok (.ifCond .ne 7, 3) := by decide +kernel
theorem d_XDe_startsWithZeros_35 : decode b_XDe_startsWithZeros 35 = .ok (.iconst 1, 1) := by decide +kernel
theorem d_XDe_startsWithZeros_36 : decode b_XDe_startsWithZeros 36 = .ok (.goto 4, 3) := by decide +kernel
theorem d_XDe_startsWithZeros_39 : decode b_XDe_startsWithZeros 39 = .ok (.iconst 0, 1) := by decide +kernel
theorem d_XDe_startsWithZeros_40 : decode b_XDe_startsWithZeros 40 = .ok (.ireturn, 1) := by decide +kernel
theorem d_XDe_faultOfFields_0 : decode b_XDe_faultOfFields 0 = .ok (.iload_n 2, 1) := by decide +kernel
theorem d_XDe_faultOfFields_1 : decode b_XDe_faultOfFields 1 = .ok (.bipush 8, 2) := by decide +kernel
theorem d_XDe_faultOfFields_3 : decode b_XDe_faultOfFields 3 = .ok (.if_icmp .gt 9, 3) := by decide +kernel
theorem d_XDe_faultOfFields_6 : decode b_XDe_faultOfFields 6 = .ok (.iload_n 3, 1) := by decide +kernel
theorem d_XDe_faultOfFields_7 : decode b_XDe_faultOfFields 7 = .ok (.bipush 8, 2) := by decide +kernel
theorem d_XDe_faultOfFields_9 : decode b_XDe_faultOfFields 9 = .ok (.if_icmp .le 7, 3) := by decide +kernel
theorem d_XDe_faultOfFields_12 : decode b_XDe_faultOfFields 12 = .ok (.iconst 1, 1) := by decide +kernel
theorem d_XDe_faultOfFields_13 : decode b_XDe_faultOfFields 13 = .ok (.goto 4, 3) := by decide +kernel
theorem d_XDe_faultOfFields_16 : decode b_XDe_faultOfFields 16 = .ok (.iconst 0, 1) := by decide +kernel
theorem d_XDe_faultOfFields_17 : decode b_XDe_faultOfFields 17 = .ok (.istore 4, 2) := by decide +kernel
theorem d_XDe_faultOfFields_19 : decode b_XDe_faultOfFields 19 = .ok (.iload 4, 2) := by decide +kernel
theorem d_XDe_faultOfFields_21 : decode b_XDe_faultOfFields 21 = .ok (.ifCond .ne 18, 3) := by decide +kernel
theorem d_XDe_faultOfFields_24 : decode b_XDe_faultOfFields 24 = .ok (.aload_n 1, 1) := by decide +kernel
theorem d_XDe_faultOfFields_25 : decode b_XDe_faultOfFields 25 = .ok (.getfield 38, 3) := by decide +kernel
theorem d_XDe_faultOfFields_28 : decode b_XDe_faultOfFields 28 = .ok (.sipush 252, 3) := by decide +kernel
theorem d_XDe_faultOfFields_31 : decode b_XDe_faultOfFields 31 = .ok (.if_icmp .lt 11, 3) := by decide +kernel
theorem d_XDe_faultOfFields_34 : decode b_XDe_faultOfFields 34 = .ok (.iload_n 3, 1) := by decide +kernel
theorem d_XDe_faultOfFields_35 : decode b_XDe_faultOfFields 35 = .ok (.iload_n 2, 1) := by decide +kernel
theorem d_XDe_faultOfFields_36 : decode b_XDe_faultOfFields 36 = .ok (.if_icmp .lt 6, 3) := by decide +kernel
theorem d_XDe_faultOfFields_39 : decode b_XDe_faultOfFields 39 = .ok (.bipush 6, 2) := by decide +kernel
theorem d_XDe_faultOfFields_41 : decode b_XDe_faultOfFields 41 = .ok (.ireturn, 1) := by decide +kernel
theorem d_XDe_faultOfFields_42 : decode b_XDe_faultOfFields 42 = .ok (.aload_n 0, 1) := by decide +kernel
theorem d_XDe_faultOfFields_43 : decode b_XDe_faultOfFields 43 = .ok (.getfield 25, 3) := by decide +kernel
theorem d_XDe_faultOfFields_46 : decode b_XDe_faultOfFields 46 = .ok (.aload_n 1, 1) := by decide +kernel
theorem d_XDe_faultOfFields_47 : decode b_XDe_faultOfFields 47 = .ok (.getfield 77, 3) := by decide +kernel
theorem d_XDe_faultOfFields_50 : decode b_XDe_faultOfFields 50 = .ok (.iload_n 2, 1) := by decide +kernel
theorem d_XDe_faultOfFields_51 : decode b_XDe_faultOfFields 51 = .ok (.invokevirtual 80, 3) := by decide +kernel
theorem d_XDe_faultOfFields_54 : decode b_XDe_faultOfFields 54 = .ok (.ifCond .eq 18, 3) := by decide +kernel
theorem d_XDe_faultOfFields_57 : decode b_XDe_faultOfFields 57 = .ok (.aload_n 0, 1) := by decide +kernel
theorem d_XDe_faultOfFields_58 : decode b_XDe_faultOfFields 58 = .ok (.getfield 25, 3) := by decide +kernel
theorem d_XDe_faultOfFields_61 : decode b_XDe_faultOfFields 61 = .ok (.aload_n 1, 1) := by decide +kernel
theorem d_XDe_faultOfFields_62 : decode b_XDe_faultOfFields 62 = .ok (.getfield 26, 3) := by decide +kernel
theorem d_XDe_faultOfFields_65 : decode b_XDe_faultOfFields 65 = .ok (.iload_n 3, 1) := by decide +kernel
theorem d_XDe_faultOfFields_66 : decode b_XDe_faultOfFields 66 = .ok (.invokevirtual 80, 3) := by decide +kernel
theorem d_XDe_faultOfFields_69 : decode b_XDe_faultOfFields 69 = .ok (.ifCond .ne 5, 3) := by decide +kernel
theorem d_XDe_faultOfFields_72 : decode b_XDe_faultOfFields 72 = .ok (.iconst 5, 1) := by decide +kernel
theorem d_XDe_faultOfFields_73 : decode b_XDe_faultOfFields 73 = .ok (.ireturn, 1) := by decide +kernel
theorem d_XDe_faultOfFields_74 : decode b_XDe_faultOfFields 74 = .ok (.aload_n 1, 1) := by decide +kernel
theorem d_XDe_faultOfFields_75 : decode b_XDe_faultOfFields 75 = .ok (.getfield 38, 3) := by decide +kernel
theorem d_XDe_faultOfFields_78 : decode b_XDe_faultOfFields 78 = .ok (.sipush 248, 3) := by decide +kernel
theorem d_XDe_faultOfFields_81 : decode b_XDe_faultOfFields 81 = .ok (.if_icmp .eq 18, 3) := by decide +kernel
theorem d_XDe_faultOfFields_84 : decode b_XDe_faultOfFields 84 = .ok (.aload_n 0, 1) := by decide +kernel
theorem d_XDe_faultOfFields_85 : decode b_XDe_faultOfFields 85 = .ok (.getfield 25, 3) := by decide +kernel
theorem d_XDe_faultOfFields_88 : decode b_XDe_faultOfFields 88 = .ok (.aload_n 1, 1) := by decide +kernel
theorem d_XDe_faultOfFields_89 : decode b_XDe_faultOfFields 89 = .ok (.getfield 77, 3) := by decide +kernel
theorem d_XDe_faultOfFields_92 : decode b_XDe_faultOfFields 92 = .ok (.iload_n 2, 1) := by decide +kernel
theorem d_XDe_faultOfFields_93 : decode b_XDe_faultOfFields 93 = .ok (.invokevirtual 62, 3) := by decide +kernel
theorem d_XDe_faultOfFields_96 : decode b_XDe_faultOfFields 96 = .ok (.ifCond .eq 7, 3) := by decide +kernel
theorem d_XDe_faultOfFields_99 : decode b_XDe_faultOfFields 99 = .ok (.iconst 1, 1) := by decide +kernel
theorem d_XDe_faultOfFields_100 : decode b_XDe_faultOfFields 100 = .ok (.goto 4, 3) := by decide +kernel
theorem d_XDe_faultOfFields_103 : decode b_XDe_faultOfFields 103 = .ok (.iconst 0, 1) := by decide +kernel
theorem d_XDe_faultOfFields_104 : decode b_XDe_faultOfFields 104 = .ok (.istore 5, 2) := by decide +kernel
theorem d_XDe_faultOfFields_106 : decode b_XDe_faultOfFields 106 = .ok (.iload 5, 2) := by decide +kernel
theorem d_XDe_faultOfFields_108 : decode b_XDe_faultOfFields 108 = .ok (.ifCond .eq 18, 3) := by decide +kernel
theorem d_XDe_faultOfFields_111 : decode b_XDe_faultOfFields 111 = .ok (.aload_n 0, 1) := by decide +kernel
theorem d_XDe_faultOfFields_112 : decode b_XDe_faultOfFields 112 = .ok (.getfield 25, 3) := by decide +kernel
theorem d_XDe_faultOfFields_115 : decode b_XDe_faultOfFields 115 = .ok (.aload_n 1, 1) := by decide +kernel
theorem d_XDe_faultOfFields_116 : decode b_XDe_faultOfFields 116 = .ok (.getfield 26, 3) := by decide +kernel
theorem d_XDe_faultOfFields_119 : decode b_XDe_faultOfFields 119 = .ok (.iload_n 3, 1) := by decide +kernel
theorem d_XDe_faultOfFields_120 : decode b_XDe_faultOfFields 120 = .ok (.invokevirtual 62, 3) := by decide +kernel
theorem d_XDe_faultOfFields_123 : decode b_XDe_faultOfFields 123 = .ok (.ifCond .ne 6, 3) := by decide +kernel
theorem d_XDe_faultOfFields_126 : decode b_XDe_faultOfFields 126 = .ok (.bipush 7, 2) := by decide +kernel
theorem d_XDe_faultOfFields_128 : decode b_XDe_faultOfFields 128 = .ok (.ireturn, 1) := by decide +kernel
theorem d_XDe_faultOfFields_129 : decode b_XDe_faultOfFields 129 = .ok (.aload_n 1, 1) := by decide +kernel
theorem d_XDe_faultOfFields_130 : decode b_XDe_faultOfFields 130 = .ok (.getfield 38, 3) := by decide +kernel
theorem d_XDe_faultOfFields_133 : decode b_XDe_faultOfFields 133 = .ok (.sipush 252, 3) := by decide +kernel
theorem d_XDe_faultOfFields_136 : decode b_XDe_faultOfFields 136 = .ok (.if_icmp .ne 20, 3) := by decide +kernel
theorem d_XDe_faultOfFields_139 : decode b_XDe_faultOfFields 139 = .ok (.aload_n 0, 1) := by decide +kernel
theorem d_XDe_faultOfFields_140 : decode b_XDe_faultOfFields 140 = .ok (.aload_n 1, 1) := by decide +kernel
theorem d_XDe_faultOfFields_141 : decode b_XDe_faultOfFields 141 = .ok (.getfield 77, 3) := by decide +kernel
theorem d_XDe_faultOfFields_144 : decode b_XDe_faultOfFields 144 = .ok (.iload_n 3, 1) := by decide +kernel
theorem d_XDe_faultOfFields_145 : decode b_XDe_faultOfFields 145 = .ok (.invokevirtual 115, 3) := by decide +kernel
theorem d_XDe_faultOfFields_148 : decode b_XDe_faultOfFields 148 = .ok (.ifCond .ne 8, 3) := by decide +kernel
theorem d_XDe_faultOfFields_151 : decode b_XDe_faultOfFields 151 = .ok (.bipush 7, 2) := by decide +kernel
theorem d_XDe_faultOfFields_153 : decode b_XDe_faultOfFields 153 = .ok (.goto 4, 3) := by decide +kernel
theorem d_XDe_faultOfFields_156 : decode b_XDe_faultOfFields 156 = .ok (.iconst 0, 1) := by decide +kernel
theorem d_XDe_faultOfFields_157 : decode b_XDe_faultOfFields 157 = .ok (.ireturn, 1) := by decide +kernel
theorem d_XDe_hasRoom_0 : decode b_XDe_hasRoom 0 = .ok (.ldc2_w 118, 3) := by decide +kernel
theorem d_XDe_hasRoom_3 : decode b_XDe_hasRoom 3 = .ok (.lstore_n 3, 1) := by decide +kernel
theorem d_XDe_hasRoom_4 : decode b_XDe_hasRoom 4 = .ok (.iconst 1, 1) := by decide +kernel
theorem d_XDe_hasRoom_5 : decode b_XDe_hasRoom 5 = .ok (.istore 5, 2) := by decide +kernel
theorem d_XDe_hasRoom_7 : decode b_XDe_hasRoom 7 = .ok (.iload 5, 2) := by decide +kernel
theorem d_XDe_hasRoom_9 : decode b_XDe_hasRoom 9 = .ok (.iload_n 2, 1) := by decide +kernel
theorem d_XDe_hasRoom_10 : decode b_XDe_hasRoom 10 = .ok (.if_icmp .ge 15, 3) := by decide +kernel
theorem d_XDe_hasRoom_13 : decode b_XDe_hasRoom 13 = .ok (.lload_n 3, 1) := by decide +kernel
theorem d_XDe_hasRoom_14 : decode b_XDe_hasRoom 14 = .ok (.ldc2_w 120, 3) := by decide +kernel
theorem d_XDe_hasRoom_17 : decode b_XDe_hasRoom 17 = .ok (.lmul, 1) := by decide +kernel
theorem d_XDe_hasRoom_18 : decode b_XDe_hasRoom 18 = .ok (.lstore_n 3, 1) := by decide +kernel
theorem d_XDe_hasRoom_19 : decode b_XDe_hasRoom 19 = .ok (.iinc 5 1, 3) := by decide +kernel
theorem d_XDe_hasRoom_22 : decode b_XDe_hasRoom 22 = .ok (.goto (-15), 3) := by decide +kernel
theorem d_XDe_hasRoom_25 : decode b_XDe_hasRoom 25 = .ok (.lload_n 0, 1) := by decide +kernel
theorem d_XDe_hasRoom_26 : decode b_XDe_hasRoom 26 = .ok (.lload_n 3, 1) := by decide +kernel
theorem d_XDe_hasRoom_27 : decode b_XDe_hasRoom 27 = .ok (.lcmp, 1) := by decide +kernel
theorem d_XDe_hasRoom_28 : decode b_XDe_hasRoom 28 = .ok (.ifCond .ge 7, 3) := by decide +kernel
theorem d_XDe_hasRoom_31 : decode b_XDe_hasRoom 31 = .ok (.iconst 1, 1) := by decide +kernel
theorem d_XDe_hasRoom_32 : decode b_XDe_hasRoom 32 = .ok (.goto 4, 3) := by decide +kernel
theorem d_XDe_hasRoom_35 : decode b_XDe_hasRoom 35 = .ok (.iconst 0, 1) := by decide +kernel
theorem d_XDe_hasRoom_36 : decode b_XDe_hasRoom 36 = .ok (.ireturn, 1) := by decide +kernel
theorem d_XSt_decimalOverflow_0 : decode b_XSt_decimalOverflow 0 = .ok (.aload_n 0, 1) := by decide +kernel
theorem d_XSt_decimalOverflow_1 : decode b_XSt_decimalOverflow 1 = .ok (.iconst 3, 1) := by decide +kernel
theorem d_XSt_decimalOverflow_2 : decode b_XSt_decimalOverflow 2 = .ok (.putfield 26, 3) := by decide +kernel
theorem d_XSt_decimalOverflow_5 : decode b_XSt_decimalOverflow 5 = .ok (.aload_n 0, 1) := by decide +kernel
theorem d_XSt_decimalOverflow_6 : decode b_XSt_decimalOverflow 6 = .ok (.getfield 29, 3) := by decide +kernel
theorem d_XSt_decimalOverflow_9 : decode b_XSt_decimalOverflow 9 = .ok (.iconst 2, 1) := by decide +kernel
theorem d_XSt_decimalOverflow_10 : decode b_XSt_decimalOverflow 10 = .ok (.iand, 1) := by decide +kernel
theorem d_XSt_decimalOverflow_11 : decode b_XSt_decimalOverflow 11 = .ok (.ifCond .eq 8, 3) := by decide +kernel
theorem d_XSt_decimalOverflow_14 : decode b_XSt_decimalOverflow 14 = .ok (.bipush 10, 2) := by decide +kernel
theorem d_XSt_decimalOverflow_16 : decode b_XSt_decimalOverflow 16 = .ok (.goto 4, 3) := by decide +kernel
theorem d_XSt_decimalOverflow_19 : decode b_XSt_decimalOverflow 19 = .ok (.iconst 0, 1) := by decide +kernel
theorem d_XSt_decimalOverflow_20 : decode b_XSt_decimalOverflow 20 = .ok (.ireturn, 1) := by decide +kernel
theorem d_XDe_putSum_0 : decode b_XDe_putSum 0 = .ok (.lload_n 3, 1) := by decide +kernel
theorem d_XDe_putSum_1 : decode b_XDe_putSum 1 = .ok (.invokestatic 48, 3) := by decide +kernel
theorem d_XDe_putSum_4 : decode b_XDe_putSum 4 = .ok (.lstore 5, 2) := by decide +kernel
theorem d_XDe_putSum_6 : decode b_XDe_putSum 6 = .ok (.aload_n 0, 1) := by decide +kernel
theorem d_XDe_putSum_7 : decode b_XDe_putSum 7 = .ok (.getfield 25, 3) := by decide +kernel
theorem d_XDe_putSum_10 : decode b_XDe_putSum 10 = .ok (.iload_n 1, 1) := by decide +kernel
theorem d_XDe_putSum_11 : decode b_XDe_putSum 11 = .ok (.iload_n 2, 1) := by decide +kernel
theorem d_XDe_putSum_12 : decode b_XDe_putSum 12 = .ok (.lload 5, 2) := by decide +kernel
theorem d_XDe_putSum_14 : decode b_XDe_putSum 14 = .ok (.lload_n 3, 1) := by decide +kernel
theorem d_XDe_putSum_15 : decode b_XDe_putSum 15 = .ok (.lconst 0, 1) := by decide +kernel
theorem d_XDe_putSum_16 : decode b_XDe_putSum 16 = .ok (.lcmp, 1) := by decide +kernel
theorem d_XDe_putSum_17 : decode b_XDe_putSum 17 = .ok (.ifCond .ge 7, 3) := by decide +kernel
theorem d_XDe_putSum_20 : decode b_XDe_putSum 20 = .ok (.iconst 1, 1) := by decide +kernel
theorem d_XDe_putSum_21 : decode b_XDe_putSum 21 = .ok (.goto 4, 3) := by decide +kernel
theorem d_XDe_putSum_24 : decode b_XDe_putSum 24 = .ok (.iconst 0, 1) := by decide +kernel
theorem d_XDe_putSum_25 : decode b_XDe_putSum 25 = .ok (.invokevirtual 54, 3) := by decide +kernel
theorem d_XDe_putSum_28 : decode b_XDe_putSum 28 = .ok (.aload_n 0, 1) := by decide +kernel
theorem d_XDe_putSum_29 : decode b_XDe_putSum 29 = .ok (.getfield 15, 3) := by decide +kernel
theorem d_XDe_putSum_32 : decode b_XDe_putSum 32 = .ok (.lload_n 3, 1) := by decide +kernel
theorem d_XDe_putSum_33 : decode b_XDe_putSum 33 = .ok (.invokevirtual 105, 3) := by decide +kernel
theorem d_XDe_putSum_36 : decode b_XDe_putSum 36 = .ok (.lload 5, 2) := by decide +kernel
theorem d_XDe_putSum_38 : decode b_XDe_putSum 38 = .ok (.iload_n 2, 1) := by decide +kernel
theorem d_XDe_putSum_39 : decode b_XDe_putSum 39 = .ok (.invokestatic 122, 3) := by decide +kernel
theorem d_XDe_putSum_42 : decode b_XDe_putSum 42 = .ok (.ifCond .eq 7, 3) := by decide +kernel
theorem d_XDe_putSum_45 : decode b_XDe_putSum 45 = .ok (.iconst 0, 1) := by decide +kernel
theorem d_XDe_putSum_46 : decode b_XDe_putSum 46 = .ok (.goto 10, 3) := by decide +kernel
theorem d_XDe_putSum_49 : decode b_XDe_putSum 49 = .ok (.aload_n 0, 1) := by decide +kernel
theorem d_XDe_putSum_50 : decode b_XDe_putSum 50 = .ok (.getfield 15, 3) := by decide +kernel
theorem d_XDe_putSum_53 : decode b_XDe_putSum 53 = .ok (.invokevirtual 126, 3) := by decide +kernel
theorem d_XDe_putSum_56 : decode b_XDe_putSum 56 = .ok (.ireturn, 1) := by decide +kernel
theorem d_XDe_multiply_0 : decode b_XDe_multiply 0 = .ok (.aload_n 0, 1) := by decide +kernel
theorem d_XDe_multiply_1 : decode b_XDe_multiply 1 = .ok (.getfield 25, 3) := by decide +kernel
theorem d_XDe_multiply_4 : decode b_XDe_multiply 4 = .ok (.aload_n 1, 1) := by decide +kernel
theorem d_XDe_multiply_5 : decode b_XDe_multiply 5 = .ok (.getfield 77, 3) := by decide +kernel
theorem d_XDe_multiply_8 : decode b_XDe_multiply 8 = .ok (.iload_n 2, 1) := by decide +kernel
theorem d_XDe_multiply_9 : decode b_XDe_multiply 9 = .ok (.invokevirtual 66, 3) := by decide +kernel
theorem d_XDe_multiply_12 : decode b_XDe_multiply 12 = .ok (.aload_n 0, 1) := by decide +kernel
theorem d_XDe_multiply_13 : decode b_XDe_multiply 13 = .ok (.getfield 25, 3) := by decide +kernel
theorem d_XDe_multiply_16 : decode b_XDe_multiply 16 = .ok (.aload_n 1, 1) := by decide +kernel
theorem d_XDe_multiply_17 : decode b_XDe_multiply 17 = .ok (.getfield 26, 3) := by decide +kernel
theorem d_XDe_multiply_20 : decode b_XDe_multiply 20 = .ok (.iload_n 3, 1) := by decide +kernel
theorem d_XDe_multiply_21 : decode b_XDe_multiply 21 = .ok (.invokevirtual 66, 3) := by decide +kernel
theorem d_XDe_multiply_24 : decode b_XDe_multiply 24 = .ok (.lmul, 1) := by decide +kernel
theorem d_XDe_multiply_25 : decode b_XDe_multiply 25 = .ok (.lstore 4, 2) := by decide +kernel
theorem d_XDe_multiply_27 : decode b_XDe_multiply 27 = .ok (.aload_n 0, 1) := by decide +kernel
theorem d_XDe_multiply_28 : decode b_XDe_multiply 28 = .ok (.getfield 25, 3) := by decide +kernel
theorem d_XDe_multiply_31 : decode b_XDe_multiply 31 = .ok (.aload_n 1, 1) := by decide +kernel
theorem d_XDe_multiply_32 : decode b_XDe_multiply 32 = .ok (.getfield 77, 3) := by decide +kernel
theorem d_XDe_multiply_35 : decode b_XDe_multiply 35 = .ok (.iload_n 2, 1) := by decide +kernel
theorem d_XDe_multiply_36 : decode b_XDe_multiply 36 = .ok (.invokevirtual 130, 3) := by decide +kernel
theorem d_XDe_multiply_39 : decode b_XDe_multiply 39 = .ok (.aload_n 0, 1) := by decide +kernel
theorem d_XDe_multiply_40 : decode b_XDe_multiply 40 = .ok (.getfield 25, 3) := by decide +kernel
theorem d_XDe_multiply_43 : decode b_XDe_multiply 43 = .ok (.aload_n 1, 1) := by decide +kernel
theorem d_XDe_multiply_44 : decode b_XDe_multiply 44 = .ok (.getfield 26, 3) := by decide +kernel
theorem d_XDe_multiply_47 : decode b_XDe_multiply 47 = .ok (.iload_n 3, 1) := by decide +kernel
theorem d_XDe_multiply_48 : decode b_XDe_multiply 48 = .ok (.invokevirtual 130, 3) := by decide +kernel
theorem d_XDe_multiply_51 : decode b_XDe_multiply 51 = .ok (.if_icmp .eq 7, 3) := by decide +kernel
theorem d_XDe_multiply_54 : decode b_XDe_multiply 54 = .ok (.iconst 1, 1) := by decide +kernel
theorem d_XDe_multiply_55 : decode b_XDe_multiply 55 = .ok (.goto 4, 3) := by decide +kernel
theorem d_XDe_multiply_58 : decode b_XDe_multiply 58 = .ok (.iconst 0, 1) := by decide +kernel
theorem d_XDe_multiply_59 : decode b_XDe_multiply 59 = .ok (.istore 6, 2) := by decide +kernel
theorem d_XDe_multiply_61 : decode b_XDe_multiply 61 = .ok (.aload_n 0, 1) := by decide +kernel
theorem d_XDe_multiply_62 : decode b_XDe_multiply 62 = .ok (.getfield 25, 3) := by decide +kernel
theorem d_XDe_multiply_65 : decode b_XDe_multiply 65 = .ok (.aload_n 1, 1) := by decide +kernel
theorem d_XDe_multiply_66 : decode b_XDe_multiply 66 = .ok (.getfield 77, 3) := by decide +kernel
theorem d_XDe_multiply_69 : decode b_XDe_multiply 69 = .ok (.iload_n 2, 1) := by decide +kernel
theorem d_XDe_multiply_70 : decode b_XDe_multiply 70 = .ok (.lload 4, 2) := by decide +kernel
theorem d_XDe_multiply_72 : decode b_XDe_multiply 72 = .ok (.invokestatic 48, 3) := by decide +kernel
theorem d_XDe_multiply_75 : decode b_XDe_multiply 75 = .ok (.iload 6, 2) := by decide +kernel
theorem d_XDe_multiply_77 : decode b_XDe_multiply 77 = .ok (.invokevirtual 54, 3) := by decide +kernel
theorem d_XDe_multiply_80 : decode b_XDe_multiply 80 = .ok (.iconst 0, 1) := by decide +kernel
theorem d_XDe_multiply_81 : decode b_XDe_multiply 81 = .ok (.ireturn, 1) := by decide +kernel
theorem d_XDe_divide_0 : decode b_XDe_divide 0 = .ok (.aload_n 0, 1) := by decide +kernel
theorem d_XDe_divide_1 : decode b_XDe_divide 1 = .ok (.getfield 25, 3) := by decide +kernel
theorem d_XDe_divide_4 : decode b_XDe_divide 4 = .ok (.aload_n 1, 1) := by decide +kernel
theorem d_XDe_divide_5 : decode b_XDe_divide 5 = .ok (.getfield 77, 3) := by decide +kernel
theorem d_XDe_divide_8 : decode b_XDe_divide 8 = .ok (.iload_n 2, 1) := by decide +kernel
theorem d_XDe_divide_9 : decode b_XDe_divide 9 = .ok (.invokevirtual 66, 3) := by decide +kernel
theorem d_XDe_divide_12 : decode b_XDe_divide 12 = .ok (.invokestatic 48, 3) := by decide +kernel
theorem d_XDe_divide_15 : decode b_XDe_divide 15 = .ok (.lstore 4, 2) := by decide +kernel
theorem d_XDe_divide_17 : decode b_XDe_divide 17 = .ok (.aload_n 0, 1) := by decide +kernel
theorem d_XDe_divide_18 : decode b_XDe_divide 18 = .ok (.getfield 25, 3) := by decide +kernel
theorem d_XDe_divide_21 : decode b_XDe_divide 21 = .ok (.aload_n 1, 1) := by decide +kernel
theorem d_XDe_divide_22 : decode b_XDe_divide 22 = .ok (.getfield 26, 3) := by decide +kernel
theorem d_XDe_divide_25 : decode b_XDe_divide 25 = .ok (.iload_n 3, 1) := by decide +kernel
theorem d_XDe_divide_26 : decode b_XDe_divide 26 = .ok (.invokevirtual 66, 3) := by decide +kernel
theorem d_XDe_divide_29 : decode b_XDe_divide 29 = .ok (.invokestatic 48, 3) := by decide +kernel
theorem d_XDe_divide_32 : decode b_XDe_divide 32 = .ok (.lstore 6, 2) := by decide +kernel
theorem d_XDe_divide_34 : decode b_XDe_divide 34 = .ok (.iload_n 2, 1) := by decide +kernel
theorem d_XDe_divide_35 : decode b_XDe_divide 35 = .ok (.iload_n 3, 1) := by decide +kernel
