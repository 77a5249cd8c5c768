theorem d_XOc_compare_55 : decode b_XOc_compare 55 = .ok (.iload_n 3, 1) := by decide +kernel
theorem d_XOc_compare_56 : decode b_XOc_compare 56 = .ok (.i2l, 1) := by decide +kernel
theorem d_XOc_compare_57 : decode b_XOc_compare 57 = .ok (.invokevirtual 55, 3) := by decide +kernel
theorem d_XOc_compare_60 : decode b_XOc_compare 60 = .ok (.iconst 0, 1) := by decide +kernel
theorem d_XOc_compare_61 : decode b_XOc_compare 61 = .ok (.ireturn, 1) := by decide +kernel
theorem d_XOc_join_0 : decode b_XOc_join 0 = .ok (.iload_n 0, 1) := by decide +kernel
theorem d_XOc_join_1 : decode b_XOc_join 1 = .ok (.tableswitch 77 209 215 #[43, 77, 54, 65, 77, 69, 73], 43) := by decide +kernel
theorem d_XOc_join_44 : decode b_XOc_join 44 = .ok (.iload_n 1, 1) := by decide +kernel
theorem d_XOc_join_45 : decode b_XOc_join 45 = .ok (.sipush 240, 3) := by decide +kernel
theorem d_XOc_join_48 : decode b_XOc_join 48 = .ok (.iand, 1) := by decide +kernel
theorem d_XOc_join_49 : decode b_XOc_join 49 = .ok (.iload_n 2, 1) := by decide +kernel
theorem d_XOc_join_50 : decode b_XOc_join 50 = .ok (.bipush 15, 2) := by decide +kernel
theorem d_XOc_join_52 : decode b_XOc_join 52 = .ok (.iand, 1) := by decide +kernel
theorem d_XOc_join_53 : decode b_XOc_join 53 = .ok (.ior, 1) := by decide +kernel
theorem d_XOc_join_54 : decode b_XOc_join 54 = .ok (.ireturn, 1) := by decide +kernel
theorem d_XOc_join_55 : decode b_XOc_join 55 = .ok (.iload_n 1, 1) := by decide +kernel
theorem d_XOc_join_56 : decode b_XOc_join 56 = .ok (.bipush 15, 2) := by decide +kernel
theorem d_XOc_join_58 : decode b_XOc_join 58 = .ok (.iand, 1) := by decide +kernel
theorem d_XOc_join_59 : decode b_XOc_join 59 = .ok (.iload_n 2, 1) := by decide +kernel
theorem d_XOc_join_60 : decode b_XOc_join 60 = .ok (.sipush 240, 3) := by decide +kernel
theorem d_XOc_join_63 : decode b_XOc_join 63 = .ok (.iand, 1) := by decide +kernel
theorem d_XOc_join_64 : decode b_XOc_join 64 = .ok (.ior, 1) := by decide +kernel
theorem d_XOc_join_65 : decode b_XOc_join 65 = .ok (.ireturn, 1) := by decide +kernel
theorem d_XOc_join_66 : decode b_XOc_join 66 = .ok (.iload_n 1, 1) := by decide +kernel
theorem d_XOc_join_67 : decode b_XOc_join 67 = .ok (.iload_n 2, 1) := by decide +kernel
theorem d_XOc_join_68 : decode b_XOc_join 68 = .ok (.iand, 1) := by decide +kernel
theorem d_XOc_join_69 : decode b_XOc_join 69 = .ok (.ireturn, 1) := by decide +kernel
theorem d_XOc_join_70 : decode b_XOc_join 70 = .ok (.iload_n 1, 1) := by decide +kernel
theorem d_XOc_join_71 : decode b_XOc_join 71 = .ok (.iload_n 2, 1) := by decide +kernel
theorem d_XOc_join_72 : decode b_XOc_join 72 = .ok (.ior, 1) := by decide +kernel
theorem d_XOc_join_73 : decode b_XOc_join 73 = .ok (.ireturn, 1) := by decide +kernel
theorem d_XOc_join_74 : decode b_XOc_join 74 = .ok (.iload_n 1, 1) := by decide +kernel
theorem d_XOc_join_75 : decode b_XOc_join 75 = .ok (.iload_n 2, 1) := by decide +kernel
theorem d_XOc_join_76 : decode b_XOc_join 76 = .ok (.ixor, 1) := by decide +kernel
theorem d_XOc_join_77 : decode b_XOc_join 77 = .ok (.ireturn, 1) := by decide +kernel
theorem d_XOc_join_78 : decode b_XOc_join 78 = .ok (.iload_n 2, 1) := by decide +kernel
theorem d_XOc_join_79 : decode b_XOc_join 79 = .ok (.ireturn, 1) := by decide +kernel
theorem d_XOc_rewrite_0 : decode b_XOc_rewrite 0 = .ok (.iconst 0, 1) := by decide +kernel
theorem d_XOc_rewrite_1 : decode b_XOc_rewrite 1 = .ok (.istore_n 3, 1) := by decide +kernel
theorem d_XOc_rewrite_2 : decode b_XOc_rewrite 2 = .ok (.iconst 0, 1) := by decide +kernel
theorem d_XOc_rewrite_3 : decode b_XOc_rewrite 3 = .ok (.istore 4, 2) := by decide +kernel
theorem d_XOc_rewrite_5 : decode b_XOc_rewrite 5 = .ok (.iload 4, 2) := by decide +kernel
theorem d_XOc_rewrite_7 : decode b_XOc_rewrite 7 = .ok (.iload_n 2, 1) := by decide +kernel
theorem d_XOc_rewrite_8 : decode b_XOc_rewrite 8 = .ok (.if_icmp .ge 67, 3) := by decide +kernel
theorem d_XOc_rewrite_11 : decode b_XOc_rewrite 11 = .ok (.aload_n 1, 1) := by decide +kernel
theorem d_XOc_rewrite_12 : decode b_XOc_rewrite 12 = .ok (.getfield 38, 3) := by decide +kernel
theorem d_XOc_rewrite_15 : decode b_XOc_rewrite 15 = .ok (.aload_n 0, 1) := by decide +kernel
theorem d_XOc_rewrite_16 : decode b_XOc_rewrite 16 = .ok (.getfield 21, 3) := by decide +kernel
theorem d_XOc_rewrite_19 : decode b_XOc_rewrite 19 = .ok (.aload_n 1, 1) := by decide +kernel
theorem d_XOc_rewrite_20 : decode b_XOc_rewrite 20 = .ok (.getfield 22, 3) := by decide +kernel
theorem d_XOc_rewrite_23 : decode b_XOc_rewrite 23 = .ok (.iload 4, 2) := by decide +kernel
theorem d_XOc_rewrite_25 : decode b_XOc_rewrite 25 = .ok (.iadd, 1) := by decide +kernel
theorem d_XOc_rewrite_26 : decode b_XOc_rewrite 26 = .ok (.invokevirtual 34, 3) := by decide +kernel
theorem d_XOc_rewrite_29 : decode b_XOc_rewrite 29 = .ok (.aload_n 0, 1) := by decide +kernel
theorem d_XOc_rewrite_30 : decode b_XOc_rewrite 30 = .ok (.getfield 21, 3) := by decide +kernel
theorem d_XOc_rewrite_33 : decode b_XOc_rewrite 33 = .ok (.aload_n 1, 1) := by decide +kernel
theorem d_XOc_rewrite_34 : decode b_XOc_rewrite 34 = .ok (.getfield 63, 3) := by decide +kernel
theorem d_XOc_rewrite_37 : decode b_XOc_rewrite 37 = .ok (.iload 4, 2) := by decide +kernel
theorem d_XOc_rewrite_39 : decode b_XOc_rewrite 39 = .ok (.iadd, 1) := by decide +kernel
theorem d_XOc_rewrite_40 : decode b_XOc_rewrite 40 = .ok (.invokevirtual 34, 3) := by decide +kernel
theorem d_XOc_rewrite_43 : decode b_XOc_rewrite 43 = .ok (.invokestatic 79, 3) := by decide +kernel
theorem d_XOc_rewrite_46 : decode b_XOc_rewrite 46 = .ok (.istore 5, 2) := by decide +kernel
theorem d_XOc_rewrite_48 : decode b_XOc_rewrite 48 = .ok (.aload_n 0, 1) := by decide +kernel
theorem d_XOc_rewrite_49 : decode b_XOc_rewrite 49 = .ok (.getfield 21, 3) := by decide +kernel
theorem d_XOc_rewrite_52 : decode b_XOc_rewrite 52 = .ok (.aload_n 1, 1) := by decide +kernel
theorem d_XOc_rewrite_53 : decode b_XOc_rewrite 53 = .ok (.getfield 22, 3) := by decide +kernel
theorem d_XOc_rewrite_56 : decode b_XOc_rewrite 56 = .ok (.iload 4, 2) := by decide +kernel
theorem d_XOc_rewrite_58 : decode b_XOc_rewrite 58 = .ok (.iadd, 1) := by decide +kernel
theorem d_XOc_rewrite_59 : decode b_XOc_rewrite 59 = .ok (.iload 5, 2) := by decide +kernel
theorem d_XOc_rewrite_61 : decode b_XOc_rewrite 61 = .ok (.invokevirtual 48, 3) := by decide +kernel
theorem d_XOc_rewrite_64 : decode b_XOc_rewrite 64 = .ok (.iload_n 3, 1) := by decide +kernel
theorem d_XOc_rewrite_65 : decode b_XOc_rewrite 65 = .ok (.iload 5, 2) := by decide +kernel
theorem d_XOc_rewrite_67 : decode b_XOc_rewrite 67 = .ok (.ior, 1) := by decide +kernel
theorem d_XOc_rewrite_68 : decode b_XOc_rewrite 68 = .ok (.istore_n 3, 1) := by decide +kernel
theorem d_XOc_rewrite_69 : decode b_XOc_rewrite 69 = .ok (.iinc 4 1, 3) := by decide +kernel
theorem d_XOc_rewrite_72 : decode b_XOc_rewrite 72 = .ok (.goto (-67), 3) := by decide +kernel
theorem d_XOc_rewrite_75 : decode b_XOc_rewrite 75 = .ok (.aload_n 1, 1) := by decide +kernel
theorem d_XOc_rewrite_76 : decode b_XOc_rewrite 76 = .ok (.getfield 38, 3) := by decide +kernel
theorem d_XOc_rewrite_79 : decode b_XOc_rewrite 79 = .ok (.sipush 212, 3) := by decide +kernel
theorem d_XOc_rewrite_82 : decode b_XOc_rewrite 82 = .ok (.if_icmp .lt 11, 3) := by decide +kernel
theorem d_XOc_rewrite_85 : decode b_XOc_rewrite 85 = .ok (.aload_n 0, 1) := by decide +kernel
theorem d_XOc_rewrite_86 : decode b_XOc_rewrite 86 = .ok (.getfield 9, 3) := by decide +kernel
theorem d_XOc_rewrite_89 : decode b_XOc_rewrite 89 = .ok (.iload_n 3, 1) := by decide +kernel
theorem d_XOc_rewrite_90 : decode b_XOc_rewrite 90 = .ok (.invokevirtual 75, 3) := by decide +kernel
theorem d_XOc_rewrite_93 : decode b_XOc_rewrite 93 = .ok (.iconst 0, 1) := by decide +kernel
theorem d_XOc_rewrite_94 : decode b_XOc_rewrite 94 = .ok (.ireturn, 1) := by decide +kernel
theorem d_XOc_withField_0 : decode b_XOc_withField 0 = .ok (.aload_n 1, 1) := by decide +kernel
theorem d_XOc_withField_1 : decode b_XOc_withField 1 = .ok (.getfield 41, 3) := by decide +kernel
theorem d_XOc_withField_4 : decode b_XOc_withField 4 = .ok (.iconst 1, 1) := by decide +kernel
theorem d_XOc_withField_5 : decode b_XOc_withField 5 = .ok (.iadd, 1) := by decide +kernel
theorem d_XOc_withField_6 : decode b_XOc_withField 6 = .ok (.istore_n 2, 1) := by decide +kernel
theorem d_XOc_withField_7 : decode b_XOc_withField 7 = .ok (.aload_n 0, 1) := by decide +kernel
theorem d_XOc_withField_8 : decode b_XOc_withField 8 = .ok (.getfield 21, 3) := by decide +kernel
theorem d_XOc_withField_11 : decode b_XOc_withField 11 = .ok (.aload_n 1, 1) := by decide +kernel
theorem d_XOc_withField_12 : decode b_XOc_withField 12 = .ok (.getfield 22, 3) := by decide +kernel
theorem d_XOc_withField_15 : decode b_XOc_withField 15 = .ok (.iload_n 2, 1) := by decide +kernel
theorem d_XOc_withField_16 : decode b_XOc_withField 16 = .ok (.invokevirtual 28, 3) := by decide +kernel
theorem d_XOc_withField_19 : decode b_XOc_withField 19 = .ok (.ifCond .ne 5, 3) := by decide +kernel
theorem d_XOc_withField_22 : decode b_XOc_withField 22 = .ok (.iconst 5, 1) := by decide +kernel
theorem d_XOc_withField_23 : decode b_XOc_withField 23 = .ok (.ireturn, 1) := by decide +kernel
theorem d_XOc_withField_24 : decode b_XOc_withField 24 = .ok (.aload_n 1, 1) := by decide +kernel
theorem d_XOc_withField_25 : decode b_XOc_withField 25 = .ok (.getfield 38, 3) := by decide +kernel
theorem d_XOc_withField_28 : decode b_XOc_withField 28 = .ok (.sipush 220, 3) := by decide +kernel
theorem d_XOc_withField_31 : decode b_XOc_withField 31 = .ok (.if_icmp .ne 10, 3) := by decide +kernel
theorem d_XOc_withField_34 : decode b_XOc_withField 34 = .ok (.aload_n 0, 1) := by decide +kernel
theorem d_XOc_withField_35 : decode b_XOc_withField 35 = .ok (.aload_n 1, 1) := by decide +kernel
theorem d_XOc_withField_36 : decode b_XOc_withField 36 = .ok (.iload_n 2, 1) := by decide +kernel
theorem d_XOc_withField_37 : decode b_XOc_withField 37 = .ok (.invokevirtual 59, 3) := by decide +kernel
theorem d_XOc_withField_40 : decode b_XOc_withField 40 = .ok (.ireturn, 1) := by decide +kernel
theorem d_XOc_withField_41 : decode b_XOc_withField 41 = .ok (.aload_n 0, 1) := by decide +kernel
theorem d_XOc_withField_42 : decode b_XOc_withField 42 = .ok (.getfield 21, 3) := by decide +kernel
theorem d_XOc_withField_45 : decode b_XOc_withField 45 = .ok (.aload_n 1, 1) := by decide +kernel
theorem d_XOc_withField_46 : decode b_XOc_withField 46 = .ok (.getfield 63, 3) := by decide +kernel
theorem d_XOc_withField_49 : decode b_XOc_withField 49 = .ok (.iload_n 2, 1) := by decide +kernel
theorem d_XOc_withField_50 : decode b_XOc_withField 50 = .ok (.invokevirtual 28, 3) := by decide +kernel
theorem d_XOc_withField_53 : decode b_XOc_withField 53 = .ok (.ifCond .ne 5, 3) := by decide +kernel
theorem d_XOc_withField_56 : decode b_XOc_withField 56 = .ok (.iconst 5, 1) := by decide +kernel
theorem d_XOc_withField_57 : decode b_XOc_withField 57 = .ok (.ireturn, 1) := by decide +kernel
theorem d_XOc_withField_58 : decode b_XOc_withField 58 = .ok (.aload_n 1, 1) := by decide +kernel
theorem d_XOc_withField_59 : decode b_XOc_withField 59 = .ok (.getfield 38, 3) := by decide +kernel
theorem d_XOc_withField_62 : decode b_XOc_withField 62 = .ok (.sipush 213, 3) := by decide +kernel
theorem d_XOc_withField_65 : decode b_XOc_withField 65 = .ok (.if_icmp .ne 12, 3) := by decide +kernel
theorem d_XOc_withField_68 : decode b_XOc_withField 68 = .ok (.aload_n 0, 1) := by decide +kernel
theorem d_XOc_withField_69 : decode b_XOc_withField 69 = .ok (.aload_n 1, 1) := by decide +kernel
theorem d_XOc_withField_70 : decode b_XOc_withField 70 = .ok (.iload_n 2, 1) := by decide +kernel
theorem d_XOc_withField_71 : decode b_XOc_withField 71 = .ok (.invokevirtual 66, 3) := by decide +kernel
theorem d_XOc_withField_74 : decode b_XOc_withField 74 = .ok (.goto 9, 3) := by decide +kernel
theorem d_XOc_withField_77 : decode b_XOc_withField 77 = .ok (.aload_n 0, 1) := by decide +kernel
theorem d_XOc_withField_78 : decode b_XOc_withField 78 = .ok (.aload_n 1, 1) := by decide +kernel
theorem d_XOc_withField_79 : decode b_XOc_withField 79 = .ok (.iload_n 2, 1) := by decide +kernel
theorem d_XOc_withField_80 : decode b_XOc_withField 80 = .ok (.invokevirtual 69, 3) := by decide +kernel
theorem d_XOc_withField_83 : decode b_XOc_withField 83 = .ok (.ireturn, 1) := by decide +kernel
theorem d_XTr_store_0 : decode b_XTr_store 0 = .ok (.aload_n 0, 1) := by decide +kernel
theorem d_XTr_store_1 : decode b_XTr_store 1 = .ok (.getfield 9, 3) := by decide +kernel
theorem d_XTr_store_4 : decode b_XTr_store 4 = .ok (.getfield 44, 3) := by decide +kernel
theorem d_XTr_store_7 : decode b_XTr_store 7 = .ok (.aload_n 1, 1) := by decide +kernel
theorem d_XTr_store_8 : decode b_XTr_store 8 = .ok (.getfield 28, 3) := by decide +kernel
theorem d_XTr_store_11 : decode b_XTr_store 11 = .ok (.iload_n 2, 1) := by decide +kernel
theorem d_XTr_store_12 : decode b_XTr_store 12 = .ok (.invokevirtual 48, 3) := by decide +kernel
theorem d_XTr_store_15 : decode b_XTr_store 15 = .ok (.istore_n 3, 1) := by decide +kernel
theorem d_XTr_store_16 : decode b_XTr_store 16 = .ok (.iload_n 3, 1) := by decide +kernel
theorem d_XTr_store_17 : decode b_XTr_store 17 = .ok (.ifCond .ne 30, 3) := by decide +kernel
theorem d_XTr_store_20 : decode b_XTr_store 20 = .ok (.aload_n 0, 1) := by decide +kernel
theorem d_XTr_store_21 : decode b_XTr_store 21 = .ok (.getfield 9, 3) := by decide +kernel
theorem d_XTr_store_24 : decode b_XTr_store 24 = .ok (.getfield 44, 3) := by decide +kernel
theorem d_XTr_store_27 : decode b_XTr_store 27 = .ok (.aload_n 1, 1) := by decide +kernel
theorem d_XTr_store_28 : decode b_XTr_store 28 = .ok (.getfield 28, 3) := by decide +kernel
theorem d_XTr_store_31 : decode b_XTr_store 31 = .ok (.iload_n 2, 1) := by decide +kernel
theorem d_XTr_store_32 : decode b_XTr_store 32 = .ok (.aload_n 0, 1) := by decide +kernel
theorem d_XTr_store_33 : decode b_XTr_store 33 = .ok (.getfield 9, 3) := by decide +kernel
theorem d_XTr_store_36 : decode b_XTr_store 36 = .ok (.aload_n 1, 1) := by decide +kernel
theorem d_XTr_store_37 : decode b_XTr_store 37 = .ok (.getfield 25, 3) := by decide +kernel
theorem d_XTr_store_40 : decode b_XTr_store 40 = .ok (.invokevirtual 54, 3) := by decide +kernel
theorem d_XTr_store_43 : decode b_XTr_store 43 = .ok (.i2l, 1) := by decide +kernel
theorem d_XTr_store_44 : decode b_XTr_store 44 = .ok (.invokevirtual 58, 3) := by decide +kernel
theorem d_XTr_store_47 : decode b_XTr_store 47 = .ok (.iload_n 3, 1) := by decide +kernel
theorem d_XTr_store_48 : decode b_XTr_store 48 = .ok (.ireturn, 1) := by decide +kernel
theorem d_XTr_insert_0 : decode b_XTr_insert 0 = .ok (.aload_n 0, 1) := by decide +kernel
theorem d_XTr_insert_1 : decode b_XTr_insert 1 = .ok (.getfield 9, 3) := by decide +kernel
theorem d_XTr_insert_4 : decode b_XTr_insert 4 = .ok (.getfield 44, 3) := by decide +kernel
theorem d_XTr_insert_7 : decode b_XTr_insert 7 = .ok (.aload_n 1, 1) := by decide +kernel
theorem d_XTr_insert_8 : decode b_XTr_insert 8 = .ok (.getfield 28, 3) := by decide +kernel
theorem d_XTr_insert_11 : decode b_XTr_insert 11 = .ok (.iconst 1, 1) := by decide +kernel
theorem d_XTr_insert_12 : decode b_XTr_insert 12 = .ok (.invokevirtual 61, 3) := by decide +kernel
theorem d_XTr_insert_15 : decode b_XTr_insert 15 = .ok (.ifCond .ne 5, 3) := by decide +kernel
theorem d_XTr_insert_18 : decode b_XTr_insert 18 = .ok (.iconst 5, 1) := by decide +kernel
theorem d_XTr_insert_19 : decode b_XTr_insert 19 = .ok (.ireturn, 1) := by decide +kernel
theorem d_XTr_insert_20 : decode b_XTr_insert 20 = .ok (.aload_n 0, 1) := by decide +kernel
theorem d_XTr_insert_21 : decode b_XTr_insert 21 = .ok (.getfield 9, 3) := by decide +kernel
theorem d_XTr_insert_24 : decode b_XTr_insert 24 = .ok (.aload_n 1, 1) := by decide +kernel
theorem d_XTr_insert_25 : decode b_XTr_insert 25 = .ok (.getfield 25, 3) := by decide +kernel
theorem d_XTr_insert_28 : decode b_XTr_insert 28 = .ok (.aload_n 0, 1) := by decide +kernel
theorem d_XTr_insert_29 : decode b_XTr_insert 29 = .ok (.getfield 9, 3) := by decide +kernel
theorem d_XTr_insert_32 : decode b_XTr_insert 32 = .ok (.aload_n 1, 1) := by decide +kernel
theorem d_XTr_insert_33 : decode b_XTr_insert 33 = .ok (.getfield 25, 3) := by decide +kernel
theorem d_XTr_insert_36 : decode b_XTr_insert 36 = .ok (.invokevirtual 54, 3) := by decide +kernel
theorem d_XTr_insert_39 : decode b_XTr_insert 39 = .ok (.sipush (-256), 3) := by decide +kernel
theorem d_XTr_insert_42 : decode b_XTr_insert 42 = .ok (.iand, 1) := by decide +kernel
theorem d_XTr_insert_43 : decode b_XTr_insert 43 = .ok (.aload_n 0, 1) := by decide +kernel
theorem d_XTr_insert_44 : decode b_XTr_insert 44 = .ok (.getfield 9, 3) := by decide +kernel
theorem d_XTr_insert_47 : decode b_XTr_insert 47 = .ok (.getfield 44, 3) := by decide +kernel
theorem d_XTr_insert_50 : decode b_XTr_insert 50 = .ok (.aload_n 1, 1) := by decide +kernel
theorem d_XTr_insert_51 : decode b_XTr_insert 51 = .ok (.getfield 28, 3) := by decide +kernel
theorem d_XTr_insert_54 : decode b_XTr_insert 54 = .ok (.invokevirtual 65, 3) := by decide +kernel
theorem d_XTr_insert_57 : decode b_XTr_insert 57 = .ok (.ior, 1) := by decide +kernel
theorem d_XTr_insert_58 : decode b_XTr_insert 58 = .ok (.invokevirtual 31, 3) := by decide +kernel
theorem d_XTr_insert_61 : decode b_XTr_insert 61 = .ok (.iconst 0, 1) := by decide +kernel
theorem d_XTr_insert_62 : decode b_XTr_insert 62 = .ok (.ireturn, 1) := by decide +kernel
theorem d_XTr_several_0 : decode b_XTr_several 0 = .ok (.aload_n 1, 1) := by decide +kernel
theorem d_XTr_several_1 : decode b_XTr_several 1 = .ok (.getfield 68, 3) := by decide +kernel
theorem d_XTr_several_4 : decode b_XTr_several 4 = .ok (.aload_n 1, 1) := by decide +kernel
theorem d_XTr_several_5 : decode b_XTr_several 5 = .ok (.getfield 25, 3) := by decide +kernel
theorem d_XTr_several_8 : decode b_XTr_several 8 = .ok (.isub, 1) := by decide +kernel
theorem d_XTr_several_9 : decode b_XTr_several 9 = .ok (.bipush 15, 2) := by decide +kernel
theorem d_XTr_several_11 : decode b_XTr_several 11 = .ok (.iand, 1) := by decide +kernel
theorem d_XTr_several_12 : decode b_XTr_several 12 = .ok (.iconst 1, 1) := by decide +kernel
theorem d_XTr_several_13 : decode b_XTr_several 13 = .ok (.iadd, 1) := by decide +kernel
theorem d_XTr_several_14 : decode b_XTr_several 14 = .ok (.istore_n 2, 1) := by decide +kernel
theorem d_XTr_several_15 : decode b_XTr_several 15 = .ok (.aload_n 1, 1) := by decide +kernel
theorem d_XTr_several_16 : decode b_XTr_several 16 = .ok (.getfield 28, 3) := by decide +kernel
theorem d_XTr_several_19 : decode b_XTr_several 19 = .ok (.iconst 3, 1) := by decide +kernel
theorem d_XTr_several_20 : decode b_XTr_several 20 = .ok (.iand, 1) := by decide +kernel
theorem d_XTr_several_21 : decode b_XTr_several 21 = .ok (.ifCond .eq 6, 3) := by decide +kernel
theorem d_XTr_several_24 : decode b_XTr_several 24 = .ok (.bipush 6, 2) := by decide +kernel
theorem d_XTr_several_26 : decode b_XTr_several 26 = .ok (.ireturn, 1) := by decide +kernel
theorem d_XTr_several_27 : decode b_XTr_several 27 = .ok (.aload_n 0, 1) := by decide +kernel
theorem d_XTr_several_28 : decode b_XTr_several 28 = .ok (.getfield 9, 3) := by decide +kernel
theorem d_XTr_several_31 : decode b_XTr_several 31 = .ok (.getfield 44, 3) := by decide +kernel
theorem d_XTr_several_34 : decode b_XTr_several 34 = .ok (.aload_n 1, 1) := by decide +kernel
theorem d_XTr_several_35 : decode b_XTr_several 35 = .ok (.getfield 28, 3) := by decide +kernel
theorem d_XTr_several_38 : decode b_XTr_several 38 = .ok (.iconst 4, 1) := by decide +kernel
theorem d_XTr_several_39 : decode b_XTr_several 39 = .ok (.iload_n 2, 1) := by decide +kernel
theorem d_XTr_several_40 : decode b_XTr_several 40 = .ok (.imul, 1) := by decide +kernel
theorem d_XTr_several_41 : decode b_XTr_several 41 = .ok (.invokevirtual 61, 3) := by decide +kernel
theorem d_XTr_several_44 : decode b_XTr_several 44 = .ok (.ifCond .ne 5, 3) := by decide +kernel
theorem d_XTr_several_47 : decode b_XTr_several 47 = .ok (.iconst 5, 1) := by decide +kernel
theorem d_XTr_several_48 : decode b_XTr_several 48 = .ok (.ireturn, 1) := by decide +kernel
theorem d_XTr_several_49 : decode b_XTr_several 49 = .ok (.iconst 0, 1) := by decide +kernel
theorem d_XTr_several_50 : decode b_XTr_several 50 = .ok (.istore_n 3, 1) := by decide +kernel
theorem d_XTr_several_51 : decode b_XTr_several 51 = .ok (.iload_n 3, 1) := by decide +kernel
theorem d_XTr_several_52 : decode b_XTr_several 52 = .ok (.iload_n 2, 1) := by decide +kernel
theorem d_XTr_several_53 : decode b_XTr_several 53 = .ok (.if_icmp .ge 89, 3) := by decide +kernel
theorem d_XTr_several_56 : decode b_XTr_several 56 = .ok (.aload_n 1, 1) := by decide +kernel
theorem d_XTr_several_57 : decode b_XTr_several 57 = .ok (.getfield 25, 3) := by decide +kernel
theorem d_XTr_several_60 : decode b_XTr_several 60 = .ok (.iload_n 3, 1) := by decide +kernel
theorem d_XTr_several_61 : decode b_XTr_several 61 = .ok (.iadd, 1) := by decide +kernel
theorem d_XTr_several_62 : decode b_XTr_several 62 = .ok (.bipush 15, 2) := by decide +kernel
theorem d_XTr_several_64 : decode b_XTr_several 64 = .ok (.iand, 1) := by decide +kernel
theorem d_XTr_several_65 : decode b_XTr_several 65 = .ok (.istore 4, 2) := by decide +kernel
theorem d_XTr_several_67 : decode b_XTr_several 67 = .ok (.aload_n 1, 1) := by decide +kernel
theorem d_XTr_several_68 : decode b_XTr_several 68 = .ok (.getfield 15, 3) := by decide +kernel
theorem d_XTr_several_71 : decode b_XTr_several 71 = .ok (.sipush 144, 3) := by decide +kernel
theorem d_XTr_several_74 : decode b_XTr_several 74 = .ok (.if_icmp .ne 35, 3) := by decide +kernel
theorem d_XTr_several_77 : decode b_XTr_several 77 = .ok (.aload_n 0, 1) := by decide +kernel
theorem d_XTr_several_78 : decode b_XTr_several 78 = .ok (.getfield 9, 3) := by decide +kernel
theorem d_XTr_several_81 : decode b_XTr_several 81 = .ok (.getfield 44, 3) := by decide +kernel
theorem d_XTr_several_84 : decode b_XTr_several 84 = .ok (.aload_n 1, 1) := by decide +kernel
theorem d_XTr_several_85 : decode b_XTr_several 85 = .ok (.getfield 28, 3) := by decide +kernel
theorem d_XTr_several_88 : decode b_XTr_several 88 = .ok (.iconst 4, 1) := by decide +kernel
theorem d_XTr_several_89 : decode b_XTr_several 89 = .ok (.iload_n 3, 1) := by decide +kernel
theorem d_XTr_several_90 : decode b_XTr_several 90 = .ok (.imul, 1) := by decide +kernel
theorem d_XTr_several_91 : decode b_XTr_several 91 = .ok (.iadd, 1) := by decide +kernel
theorem d_XTr_several_92 : decode b_XTr_several 92 = .ok (.iconst 4, 1) := by decide +kernel
theorem d_XTr_several_93 : decode b_XTr_several 93 = .ok (.aload_n 0, 1) := by decide +kernel
theorem d_XTr_several_94 : decode b_XTr_several 94 = .ok (.getfield 9, 3) := by decide +kernel
theorem d_XTr_several_97 : decode b_XTr_several 97 = .ok (.iload 4, 2) := by decide +kernel
theorem d_XTr_several_99 : decode b_XTr_several 99 = .ok (.invokevirtual 54, 3) := by decide +kernel
theorem d_XTr_several_102 : decode b_XTr_several 102 = .ok (.i2l, 1) := by decide +kernel
theorem d_XTr_several_103 : decode b_XTr_several 103 = .ok (.invokevirtual 58, 3) := by decide +kernel
theorem d_XTr_several_106 : decode b_XTr_several 106 = .ok (.goto 30, 3) := by decide +kernel
theorem d_XTr_several_109 : decode b_XTr_several 109 = .ok (.aload_n 0, 1) := by decide +kernel
theorem d_XTr_several_110 : decode b_XTr_several 110 = .ok (.getfield 9, 3) := by decide +kernel
theorem d_XTr_several_113 : decode b_XTr_several 113 = .ok (.iload 4, 2) := by decide +kernel
theorem d_XTr_several_115 : decode b_XTr_several 115 = .ok (.aload_n 0, 1) := by decide +kernel
theorem d_XTr_several_116 : decode b_XTr_several 116 = .ok (.getfield 9, 3) := by decide +kernel
theorem d_XTr_several_119 : decode b_XTr_several 119 = .ok (.getfield 44, 3) := by decide +kernel
theorem d_XTr_several_122 : decode b_XTr_several 122 = .ok (.aload_n 1, 1) := by decide +kernel
theorem d_XTr_several_123 : decode b_XTr_several 123 = .ok (.getfield 28, 3) := by decide +kernel
theorem d_XTr_several_126 : decode b_XTr_several 126 = .ok (.iconst 4, 1) := by decide +kernel
theorem d_XTr_several_127 : decode b_XTr_several 127 = .ok (.iload_n 3, 1) := by decide +kernel
theorem d_XTr_several_128 : decode b_XTr_several 128 = .ok (.imul, 1) := by decide +kernel
theorem d_XTr_several_129 : decode b_XTr_several 129 = .ok (.iadd, 1) := by decide +kernel
theorem d_XTr_several_130 : decode b_XTr_several 130 = .ok (.invokevirtual 71, 3) := by decide +kernel
theorem d_XTr_several_133 : decode b_XTr_several 133 = .ok (.invokevirtual 31, 3) := by decide +kernel
theorem d_XTr_several_136 : decode b_XTr_several 136 = .ok (.iinc 3 1, 3) := by decide +kernel
theorem d_XTr_several_139 : decode b_XTr_several 139 = .ok (.goto (-88), 3) := by decide +kernel
theorem d_XTr_several_142 : decode b_XTr_several 142 = .ok (.iconst 0, 1) := by decide +kernel
theorem d_XTr_several_143 : decode b_XTr_several 143 = .ok (.ireturn, 1) := by decide +kernel
theorem d_XTr_perform_0 : decode b_XTr_perform 0 = .ok (.aload_n 1, 1) := by decide +kernel
theorem d_XTr_perform_1 : decode b_XTr_perform 1 = .ok (.getfield 15, 3) := by decide +kernel
theorem d_XTr_perform_4 : decode b_XTr_perform 4 = .ok (.lookupswitch 96 #[(64, 52), (65, 59), (66, 76), (67, 83), (80, 89)], 52) := by decide +kernel
theorem d_XTr_perform_56 : decode b_XTr_perform 56 = .ok (.aload_n 0, 1) := by decide +kernel
theorem d_XTr_perform_57 : decode b_XTr_perform 57 = .ok (.aload_n 1, 1) := by decide +kernel
theorem d_XTr_perform_58 : decode b_XTr_perform 58 = .ok (.iconst 2, 1) := by decide +kernel
theorem d_XTr_perform_59 : decode b_XTr_perform 59 = .ok (.invokevirtual 21, 3) := by decide +kernel
theorem d_XTr_perform_62 : decode b_XTr_perform 62 = .ok (.ireturn, 1) := by decide +kernel
theorem d_XTr_perform_63 : decode b_XTr_perform 63 = .ok (.aload_n 0, 1) := by decide +kernel
theorem d_XTr_perform_64 : decode b_XTr_perform 64 = .ok (.getfield 9, 3) := by decide +kernel
theorem d_XTr_perform_67 : decode b_XTr_perform 67 = .ok (.aload_n 1, 1) := by decide +kernel
theorem d_XTr_perform_68 : decode b_XTr_perform 68 = .ok (.getfield 25, 3) := by decide +kernel
theorem d_XTr_perform_71 : decode b_XTr_perform 71 = .ok (.aload_n 1, 1) := by decide +kernel
theorem d_XTr_perform_72 : decode b_XTr_perform 72 = .ok (.getfield 28, 3) := by decide +kernel
theorem d_XTr_perform_75 : decode b_XTr_perform 75 = .ok (.invokevirtual 31, 3) := by decide +kernel
theorem d_XTr_perform_78 : decode b_XTr_perform 78 = .ok (.iconst 0, 1) := by decide +kernel
theorem d_XTr_perform_79 : decode b_XTr_perform 79 = .ok (.ireturn, 1) := by decide +kernel
theorem d_XTr_perform_80 : decode b_XTr_perform 80 = .ok (.aload_n 0, 1) := by decide +kernel
theorem d_XTr_perform_81 : decode b_XTr_perform 81 = .ok (.aload_n 1, 1) := by decide +kernel
theorem d_XTr_perform_82 : decode b_XTr_perform 82 = .ok (.iconst 1, 1) := by decide +kernel
theorem d_XTr_perform_83 : decode b_XTr_perform 83 = .ok (.invokevirtual 21, 3) := by decide +kernel
theorem d_XTr_perform_86 : decode b_XTr_perform 86 = .ok (.ireturn, 1) := by decide +kernel
theorem d_XTr_perform_87 : decode b_XTr_perform 87 = .ok (.aload_n 0, 1) := by decide +kernel
theorem d_XTr_perform_88 : decode b_XTr_perform 88 = .ok (.aload_n 1, 1) := by decide +kernel
theorem d_XTr_perform_89 : decode b_XTr_perform 89 = .ok (.invokevirtual 37, 3) := by decide +kernel
theorem d_XTr_perform_92 : decode b_XTr_perform 92 = .ok (.ireturn, 1) := by decide +kernel
theorem d_XTr_perform_93 : decode b_XTr_perform 93 = .ok (.aload_n 0, 1) := by decide +kernel
theorem d_XTr_perform_94 : decode b_XTr_perform 94 = .ok (.aload_n 1, 1) := by decide +kernel
theorem d_XTr_perform_95 : decode b_XTr_perform 95 = .ok (.iconst 4, 1) := by decide +kernel
theorem d_XTr_perform_96 : decode b_XTr_perform 96 = .ok (.invokevirtual 21, 3) := by decide +kernel
theorem d_XTr_perform_99 : decode b_XTr_perform 99 = .ok (.ireturn, 1) := by decide +kernel
theorem d_XTr_perform_100 : decode b_XTr_perform 100 = .ok (.aload_n 0, 1) := by decide +kernel
theorem d_XTr_perform_101 : decode b_XTr_perform 101 = .ok (.aload_n 1, 1) := by decide +kernel
theorem d_XTr_perform_102 : decode b_XTr_perform 102 = .ok (.invokevirtual 41, 3) := by decide +kernel
theorem d_XTr_perform_105 : decode b_XTr_perform 105 = .ok (.ireturn, 1) := by decide +kernel
theorem d_XPr_performRegular_0 : decode b_XPr_performRegular 0 = .ok (.aload_n 1, 1) := by decide +kernel
theorem d_XPr_performRegular_1 : decode b_XPr_performRegular 1 = .ok (.getfield 85, 3) := by decide +kernel
theorem d_XPr_performRegular_4 : decode b_XPr_performRegular 4 = .ok (.bipush 16, 2) := by decide +kernel
theorem d_XPr_performRegular_6 : decode b_XPr_performRegular 6 = .ok (.if_icmp .lt 21, 3) := by decide +kernel
theorem d_XPr_performRegular_9 : decode b_XPr_performRegular 9 = .ok (.aload_n 1, 1) := by decide +kernel
theorem d_XPr_performRegular_10 : decode b_XPr_performRegular 10 = .ok (.getfield 85, 3) := by decide +kernel
theorem d_XPr_performRegular_13 : decode b_XPr_performRegular 13 = .ok (.bipush 31, 2) := by decide +kernel
theorem d_XPr_performRegular_15 : decode b_XPr_performRegular 15 = .ok (.if_icmp .gt 12, 3) := by decide +kernel
theorem d_XPr_performRegular_18 : decode b_XPr_performRegular 18 = .ok (.aload_n 0, 1) := by decide +kernel
theorem d_XPr_performRegular_19 : decode b_XPr_performRegular 19 = .ok (.getfield 37, 3) := by decide +kernel
theorem d_XPr_performRegular_22 : decode b_XPr_performRegular 22 = .ok (.aload_n 1, 1) := by decide +kernel
theorem d_XPr_performRegular_23 : decode b_XPr_performRegular 23 = .ok (.invokevirtual 120, 3) := by decide +kernel
theorem d_XPr_performRegular_26 : decode b_XPr_performRegular 26 = .ok (.ireturn, 1) := by decide +kernel
theorem d_XPr_performRegular_27 : decode b_XPr_performRegular 27 = .ok (.aload_n 1, 1) := by decide +kernel
theorem d_XPr_performRegular_28 : decode b_XPr_performRegular 28 = .ok (.getfield 85, 3) := by decide +kernel
theorem d_XPr_performRegular_31 : decode b_XPr_performRegular 31 = .ok (.bipush 84, 2) := by decide +kernel
theorem d_XPr_performRegular_33 : decode b_XPr_performRegular 33 = .ok (.if_icmp .lt 23, 3) := by decide +kernel
theorem d_XPr_performRegular_36 : decode b_XPr_performRegular 36 = .ok (.aload_n 1, 1) := by decide +kernel
theorem d_XPr_performRegular_37 : decode b_XPr_performRegular 37 = .ok (.getfield 85, 3) := by decide +kernel
theorem d_XPr_performRegular_40 : decode b_XPr_performRegular 40 = .ok (.bipush 95, 2) := by decide +kernel
theorem d_XPr_performRegular_42 : decode b_XPr_performRegular 42 = .ok (.if_icmp .gt 14, 3) := by decide +kernel
theorem d_XPr_performRegular_45 : decode b_XPr_performRegular 45 = .ok (.aload_n 0, 1) := by decide +kernel
theorem d_XPr_performRegular_46 : decode b_XPr_performRegular 46 = .ok (.getfield 37, 3) := by decide +kernel
theorem d_XPr_performRegular_49 : decode b_XPr_performRegular 49 = .ok (.aload_n 1, 1) := by decide +kernel
theorem d_XPr_performRegular_50 : decode b_XPr_performRegular 50 = .ok (.invokevirtual 123, 3) := by decide +kernel
theorem d_XPr_performRegular_53 : decode b_XPr_performRegular 53 = .ok (.goto 4, 3) := by decide +kernel
theorem d_XPr_performRegular_56 : decode b_XPr_performRegular 56 = .ok (.iconst 1, 1) := by decide +kernel
theorem d_XPr_performRegular_57 : decode b_XPr_performRegular 57 = .ok (.ireturn, 1) := by decide +kernel
theorem d_XPr_perform_0 : decode b_XPr_perform 0 = .ok (.aload_n 1, 1) := by decide +kernel
theorem d_XPr_perform_1 : decode b_XPr_perform 1 = .ok (.getfield 85, 3) := by decide +kernel
theorem d_XPr_perform_4 : decode b_XPr_perform 4 = .ok (.lookupswitch 498 #[(5, 417), (6, 417), (7, 417), (10, 404), (64, 426), (65, 426), (66, 426), (67, 426), (69, 417), (70, 417), (71, 417), (72, 435), (73, 435), (74, 435), (75, 435), (76, 435), (78, 444), (79, 444), (80, 426), (134, 417), (135, 417), (136, 453), (137, 453), (138, 453), (139, 453), (144, 426), (145, 462), (146, 462), (148, 462), (149, 462), (150, 462), (151, 462), (152, 426), (209, 471), (210, 471), (211, 471), (212, 471), (213, 471), (214, 471), (215, 471), (220, 471), (242, 480), (243, 480), (248, 489), (249, 489), (250, 489), (251, 489), (252, 489), (253, 489)], 404) := by decide +kernel
theorem d_XPr_perform_408 : decode b_XPr_perform 408 = .ok (.aload_n 0, 1) := by decide +kernel
theorem d_XPr_perform_409 : decode b_XPr_perform 409 = .ok (.getfield 28, 3) := by decide +kernel
theorem d_XPr_perform_412 : decode b_XPr_perform 412 = .ok (.aload_n 1, 1) := by decide +kernel
theorem d_XPr_perform_413 : decode b_XPr_perform 413 = .ok (.getfield 88, 3) := by decide +kernel
theorem d_XPr_perform_416 : decode b_XPr_perform 416 = .ok (.putfield 91, 3) := by decide +kernel
theorem d_XPr_perform_419 : decode b_XPr_perform 419 = .ok (.iconst 0, 1) := by decide +kernel
theorem d_XPr_perform_420 : decode b_XPr_perform 420 = .ok (.ireturn, 1) := by decide +kernel
theorem d_XPr_perform_421 : decode b_XPr_perform 421 = .ok (.aload_n 0, 1) := by decide +kernel
theorem d_XPr_perform_422 : decode b_XPr_perform 422 = .ok (.getfield 51, 3) := by decide +kernel
theorem d_XPr_perform_425 : decode b_XPr_perform 425 = .ok (.aload_n 1, 1) := by decide +kernel
theorem d_XPr_perform_426 : decode b_XPr_perform 426 = .ok (.invokevirtual 94, 3) := by decide +kernel
theorem d_XPr_perform_429 : decode b_XPr_perform 429 = .ok (.ireturn, 1) := by decide +kernel
theorem d_XPr_perform_430 : decode b_XPr_perform 430 = .ok (.aload_n 0, 1) := by decide +kernel
theorem d_XPr_perform_431 : decode b_XPr_perform 431 = .ok (.getfield 44, 3) := by decide +kernel
theorem d_XPr_perform_434 : decode b_XPr_perform 434 = .ok (.aload_n 1, 1) := by decide +kernel
theorem d_XPr_perform_435 : decode b_XPr_perform 435 = .ok (.invokevirtual 95, 3) := by decide +kernel
theorem d_XPr_perform_438 : decode b_XPr_perform 438 = .ok (.ireturn, 1) := by decide +kernel
theorem d_XPr_perform_439 : decode b_XPr_perform 439 = .ok (.aload_n 0, 1) := by decide +kernel
theorem d_XPr_perform_440 : decode b_XPr_perform 440 = .ok (.getfield 37, 3) := by decide +kernel
theorem d_XPr_perform_443 : decode b_XPr_perform 443 = .ok (.aload_n 1, 1) := by decide +kernel
theorem d_XPr_perform_444 : decode b_XPr_perform 444 = .ok (.invokevirtual 96, 3) := by decide +kernel
theorem d_XPr_perform_447 : decode b_XPr_perform 447 = .ok (.ireturn, 1) := by decide +kernel
theorem d_XPr_perform_448 : decode b_XPr_perform 448 = .ok (.aload_n 0, 1) := by decide +kernel
theorem d_XPr_perform_449 : decode b_XPr_perform 449 = .ok (.getfield 65, 3) := by decide +kernel
theorem d_XPr_perform_452 : decode b_XPr_perform 452 = .ok (.aload_n 1, 1) := by decide +kernel
theorem d_XPr_perform_453 : decode b_XPr_perform 453 = .ok (.invokevirtual 99, 3) := by decide +kernel
theorem d_XPr_perform_456 : decode b_XPr_perform 456 = .ok (.ireturn, 1) := by decide +kernel
theorem d_XPr_perform_457 : decode b_XPr_perform 457 = .ok (.aload_n 0, 1) := by decide +kernel
theorem d_XPr_perform_458 : decode b_XPr_perform 458 = .ok (.getfield 37, 3) := by decide +kernel
theorem d_XPr_perform_461 : decode b_XPr_perform 461 = .ok (.aload_n 1, 1) := by decide +kernel
theorem d_XPr_perform_462 : decode b_XPr_perform 462 = .ok (.invokevirtual 102, 3) := by decide +kernel
theorem d_XPr_perform_465 : decode b_XPr_perform 465 = .ok (.ireturn, 1) := by decide +kernel
theorem d_XPr_perform_466 : decode b_XPr_perform 466 = .ok (.aload_n 0, 1) := by decide +kernel
theorem d_XPr_perform_467 : decode b_XPr_perform 467 = .ok (.getfield 58, 3) := by decide +kernel
theorem d_XPr_perform_470 : decode b_XPr_perform 470 = .ok (.aload_n 1, 1) := by decide +kernel
theorem d_XPr_perform_471 : decode b_XPr_perform 471 = .ok (.invokevirtual 105, 3) := by decide +kernel
theorem d_XPr_perform_474 : decode b_XPr_perform 474 = .ok (.ireturn, 1) := by decide +kernel
theorem d_XPr_perform_475 : decode b_XPr_perform 475 = .ok (.aload_n 0, 1) := by decide +kernel
theorem d_XPr_perform_476 : decode b_XPr_perform 476 = .ok (.getfield 58, 3) := by decide +kernel
theorem d_XPr_perform_479 : decode b_XPr_perform 479 = .ok (.aload_n 1, 1) := by decide +kernel
theorem d_XPr_perform_480 : decode b_XPr_perform 480 = .ok (.invokevirtual 108, 3) := by decide +kernel
theorem d_XPr_perform_483 : decode b_XPr_perform 483 = .ok (.ireturn, 1) := by decide +kernel
theorem d_XPr_perform_484 : decode b_XPr_perform 484 = .ok (.aload_n 0, 1) := by decide +kernel
theorem d_XPr_perform_485 : decode b_XPr_perform 485 = .ok (.getfield 65, 3) := by decide +kernel
theorem d_XPr_perform_488 : decode b_XPr_perform 488 = .ok (.aload_n 1, 1) := by decide +kernel
theorem d_XPr_perform_489 : decode b_XPr_perform 489 = .ok (.invokevirtual 111, 3) := by decide +kernel
theorem d_XPr_perform_492 : decode b_XPr_perform 492 = .ok (.ireturn, 1) := by decide +kernel
theorem d_XPr_perform_493 : decode b_XPr_perform 493 = .ok (.aload_n 0, 1) := by decide +kernel
theorem d_XPr_perform_494 : decode b_XPr_perform 494 = .ok (.getfield 65, 3) := by decide +kernel
theorem d_XPr_perform_497 : decode b_XPr_perform 497 = .ok (.aload_n 1, 1) := by decide +kernel
theorem d_XPr_perform_498 : decode b_XPr_perform 498 = .ok (.invokevirtual 114, 3) := by decide +kernel
theorem d_XPr_perform_501 : decode b_XPr_perform 501 = .ok (.ireturn, 1) := by decide +kernel
theorem d_XPr_perform_502 : decode b_XPr_perform 502 = .ok (.aload_n 0, 1) := by decide +kernel
theorem d_XPr_perform_503 : decode b_XPr_perform 503 = .ok (.aload_n 1, 1) := by decide +kernel
theorem d_XPr_perform_504 : decode b_XPr_perform 504 = .ok (.invokevirtual 117, 3) := by decide +kernel
theorem d_XPr_perform_507 : decode b_XPr_perform 507 = .ok (.ireturn, 1) := by decide +kernel
theorem d_XPr_step_0 : decode b_XPr_step 0 = .ok (.aload_n 0, 1) := by decide +kernel
theorem d_XPr_step_1 : decode b_XPr_step 1 = .ok (.getfield 28, 3) := by decide +kernel
theorem d_XPr_step_4 : decode b_XPr_step 4 = .ok (.getfield 69, 3) := by decide +kernel
theorem d_XPr_step_7 : decode b_XPr_step 7 = .ok (.istore_n 1, 1) := by decide +kernel
theorem d_XPr_step_8 : decode b_XPr_step 8 = .ok (.aload_n 0, 1) := by decide +kernel
theorem d_XPr_step_9 : decode b_XPr_step 9 = .ok (.getfield 12, 3) := by decide +kernel
theorem d_XPr_step_12 : decode b_XPr_step 12 = .ok (.aload_n 0, 1) := by decide +kernel
theorem d_XPr_step_13 : decode b_XPr_step 13 = .ok (.getfield 28, 3) := by decide +kernel
theorem d_XPr_step_16 : decode b_XPr_step 16 = .ok (.invokevirtual 74, 3) := by decide +kernel
theorem d_XPr_step_19 : decode b_XPr_step 19 = .ok (.istore_n 2, 1) := by decide +kernel
theorem d_XPr_step_20 : decode b_XPr_step 20 = .ok (.iload_n 2, 1) := by decide +kernel
theorem d_XPr_step_21 : decode b_XPr_step 21 = .ok (.ifCond .ne 26, 3) := by decide +kernel
theorem d_XPr_step_24 : decode b_XPr_step 24 = .ok (.aload_n 0, 1) := by decide +kernel
theorem d_XPr_step_25 : decode b_XPr_step 25 = .ok (.getfield 28, 3) := by decide +kernel
theorem d_XPr_step_28 : decode b_XPr_step 28 = .ok (.aload_n 0, 1) := by decide +kernel
theorem d_XPr_step_29 : decode b_XPr_step 29 = .ok (.getfield 12, 3) := by decide +kernel
theorem d_XPr_step_32 : decode b_XPr_step 32 = .ok (.getfield 78, 3) := by decide +kernel
theorem d_XPr_step_35 : decode b_XPr_step 35 = .ok (.putfield 69, 3) := by decide +kernel
theorem d_XPr_step_38 : decode b_XPr_step 38 = .ok (.aload_n 0, 1) := by decide +kernel
theorem d_XPr_step_39 : decode b_XPr_step 39 = .ok (.aload_n 0, 1) := by decide +kernel
theorem d_XPr_step_40 : decode b_XPr_step 40 = .ok (.getfield 12, 3) := by decide +kernel
theorem d_XPr_step_43 : decode b_XPr_step 43 = .ok (.invokevirtual 81, 3) := by decide +kernel
theorem d_XPr_step_46 : decode b_XPr_step 46 = .ok (.istore_n 2, 1) := by decide +kernel
theorem d_XPr_step_47 : decode b_XPr_step 47 = .ok (.iload_n 2, 1) := by decide +kernel
theorem d_XPr_step_48 : decode b_XPr_step 48 = .ok (.ifCond .eq 15, 3) := by decide +kernel
theorem d_XPr_step_51 : decode b_XPr_step 51 = .ok (.iload_n 2, 1) := by decide +kernel
theorem d_XPr_step_52 : decode b_XPr_step 52 = .ok (.bipush 8, 2) := by decide +kernel
theorem d_XPr_step_54 : decode b_XPr_step 54 = .ok (.if_icmp .eq 9, 3) := by decide +kernel
theorem d_XPr_step_57 : decode b_XPr_step 57 = .ok (.iload_n 2, 1) := by decide +kernel
theorem d_XPr_step_58 : decode b_XPr_step 58 = .ok (.bipush 10, 2) := by decide +kernel
theorem d_XPr_step_60 : decode b_XPr_step 60 = .ok (.if_icmp .ne 16, 3) := by decide +kernel
theorem d_XPr_step_63 : decode b_XPr_step 63 = .ok (.aload_n 0, 1) := by decide +kernel
theorem d_XPr_step_64 : decode b_XPr_step 64 = .ok (.dup, 1) := by decide +kernel
theorem d_XPr_step_65 : decode b_XPr_step 65 = .ok (.getfield 18, 3) := by decide +kernel
theorem d_XPr_step_68 : decode b_XPr_step 68 = .ok (.iconst 1, 1) := by decide +kernel
theorem d_XPr_step_69 : decode b_XPr_step 69 = .ok (.iadd, 1) := by decide +kernel
theorem d_XPr_step_70 : decode b_XPr_step 70 = .ok (.putfield 18, 3) := by decide +kernel
theorem d_XPr_step_73 : decode b_XPr_step 73 = .ok (.goto 11, 3) := by decide +kernel
theorem d_XPr_step_76 : decode b_XPr_step 76 = .ok (.aload_n 0, 1) := by decide +kernel
theorem d_XPr_step_77 : decode b_XPr_step 77 = .ok (.getfield 28, 3) := by decide +kernel
theorem d_XPr_step_80 : decode b_XPr_step 80 = .ok (.iload_n 1, 1) := by decide +kernel
theorem d_XPr_step_81 : decode b_XPr_step 81 = .ok (.putfield 69, 3) := by decide +kernel
theorem d_XPr_step_84 : decode b_XPr_step 84 = .ok (.iload_n 2, 1) := by decide +kernel
theorem d_XPr_step_85 : decode b_XPr_step 85 = .ok (.ifCond .eq 18, 3) := by decide +kernel
theorem d_XPr_step_88 : decode b_XPr_step 88 = .ok (.aload_n 0, 1) := by decide +kernel
theorem d_XPr_step_89 : decode b_XPr_step 89 = .ok (.dup, 1) := by decide +kernel
theorem d_XPr_step_90 : decode b_XPr_step 90 = .ok (.getfield 22, 3) := by decide +kernel
theorem d_XPr_step_93 : decode b_XPr_step 93 = .ok (.iconst 1, 1) := by decide +kernel
theorem d_XPr_step_94 : decode b_XPr_step 94 = .ok (.iadd, 1) := by decide +kernel
theorem d_XPr_step_95 : decode b_XPr_step 95 = .ok (.putfield 22, 3) := by decide +kernel
theorem d_XPr_step_98 : decode b_XPr_step 98 = .ok (.aload_n 0, 1) := by decide +kernel
theorem d_XPr_step_99 : decode b_XPr_step 99 = .ok (.iload_n 2, 1) := by decide +kernel
theorem d_XPr_step_100 : decode b_XPr_step 100 = .ok (.putfield 25, 3) := by decide +kernel
theorem d_XPr_step_103 : decode b_XPr_step 103 = .ok (.iload_n 2, 1) := by decide +kernel
theorem d_XPr_step_104 : decode b_XPr_step 104 = .ok (.ireturn, 1) := by decide +kernel
