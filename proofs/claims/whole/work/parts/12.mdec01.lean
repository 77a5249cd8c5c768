theorem d_MMo_thrown_0 : decode b_MMo_thrown 0 = .ok (.aload_n 0, 1) := by decide +kernel
theorem d_MMo_thrown_1 : decode b_MMo_thrown 1 = .ok (.getfield 38, 3) := by decide +kernel
theorem d_MMo_thrown_4 : decode b_MMo_thrown 4 = .ok (.ireturn, 1) := by decide +kernel
theorem d_MMo_in_0 : decode b_MMo_in 0 = .ok (.lload_n 0, 1) := by decide +kernel
theorem d_MMo_in_1 : decode b_MMo_in 1 = .ok (.lload_n 2, 1) := by decide +kernel
theorem d_MMo_in_2 : decode b_MMo_in 2 = .ok (.lcmp, 1) := by decide +kernel
theorem d_MMo_in_3 : decode b_MMo_in 3 = .ok (.ifCond .lt 14, 3) := by decide +kernel
theorem d_MMo_in_6 : decode b_MMo_in 6 = .ok (.lload_n 0, 1) := by decide +kernel
theorem d_MMo_in_7 : decode b_MMo_in 7 = .ok (.lload 4, 2) := by decide +kernel
theorem d_MMo_in_9 : decode b_MMo_in 9 = .ok (.lcmp, 1) := by decide +kernel
theorem d_MMo_in_10 : decode b_MMo_in 10 = .ok (.ifCond .gt 7, 3) := by decide +kernel
theorem d_MMo_in_13 : decode b_MMo_in 13 = .ok (.iconst 1, 1) := by decide +kernel
theorem d_MMo_in_14 : decode b_MMo_in 14 = .ok (.goto 4, 3) := by decide +kernel
theorem d_MMo_in_17 : decode b_MMo_in 17 = .ok (.iconst 0, 1) := by decide +kernel
theorem d_MMo_in_18 : decode b_MMo_in 18 = .ok (.ireturn, 1) := by decide +kernel
theorem d_MMo_fails_0 : decode b_MMo_fails 0 = .ok (.iload_n 1, 1) := by decide +kernel
theorem d_MMo_fails_1 : decode b_MMo_fails 1 = .ok (.ifCond .eq 15, 3) := by decide +kernel
theorem d_MMo_fails_4 : decode b_MMo_fails 4 = .ok (.aload_n 0, 1) := by decide +kernel
theorem d_MMo_fails_5 : decode b_MMo_fails 5 = .ok (.getfield 38, 3) := by decide +kernel
theorem d_MMo_fails_8 : decode b_MMo_fails 8 = .ok (.ifCond .ne 8, 3) := by decide +kernel
theorem d_MMo_fails_11 : decode b_MMo_fails 11 = .ok (.aload_n 0, 1) := by decide +kernel
theorem d_MMo_fails_12 : decode b_MMo_fails 12 = .ok (.iload_n 2, 1) := by decide +kernel
theorem d_MMo_fails_13 : decode b_MMo_fails 13 = .ok (.putfield 38, 3) := by decide +kernel
theorem d_MMo_fails_16 : decode b_MMo_fails 16 = .ok (.aload_n 0, 1) := by decide +kernel
theorem d_MMo_fails_17 : decode b_MMo_fails 17 = .ok (.getfield 38, 3) := by decide +kernel
theorem d_MMo_fails_20 : decode b_MMo_fails 20 = .ok (.ifCond .eq 7, 3) := by decide +kernel
theorem d_MMo_fails_23 : decode b_MMo_fails 23 = .ok (.iconst 1, 1) := by decide +kernel
theorem d_MMo_fails_24 : decode b_MMo_fails 24 = .ok (.goto 4, 3) := by decide +kernel
theorem d_MMo_fails_27 : decode b_MMo_fails 27 = .ok (.iconst 0, 1) := by decide +kernel
theorem d_MMo_fails_28 : decode b_MMo_fails 28 = .ok (.ireturn, 1) := by decide +kernel
theorem d_MMo_lies_0 : decode b_MMo_lies 0 = .ok (.iload_n 0, 1) := by decide +kernel
theorem d_MMo_lies_1 : decode b_MMo_lies 1 = .ok (.i2l, 1) := by decide +kernel
theorem d_MMo_lies_2 : decode b_MMo_lies 2 = .ok (.lconst 0, 1) := by decide +kernel
theorem d_MMo_lies_3 : decode b_MMo_lies 3 = .ok (.sipush 1024, 3) := by decide +kernel
theorem d_MMo_lies_6 : decode b_MMo_lies 6 = .ok (.iload_n 1, 1) := by decide +kernel
theorem d_MMo_lies_7 : decode b_MMo_lies 7 = .ok (.isub, 1) := by decide +kernel
theorem d_MMo_lies_8 : decode b_MMo_lies 8 = .ok (.i2l, 1) := by decide +kernel
theorem d_MMo_lies_9 : decode b_MMo_lies 9 = .ok (.invokestatic 41, 3) := by decide +kernel
theorem d_MMo_lies_12 : decode b_MMo_lies 12 = .ok (.ireturn, 1) := by decide +kernel
theorem d_MMo_take_0 : decode b_MMo_take 0 = .ok (.lconst 0, 1) := by decide +kernel
theorem d_MMo_take_1 : decode b_MMo_take 1 = .ok (.lstore_n 3, 1) := by decide +kernel
theorem d_MMo_take_2 : decode b_MMo_take 2 = .ok (.iconst 0, 1) := by decide +kernel
theorem d_MMo_take_3 : decode b_MMo_take 3 = .ok (.istore 5, 2) := by decide +kernel
theorem d_MMo_take_5 : decode b_MMo_take 5 = .ok (.iload 5, 2) := by decide +kernel
theorem d_MMo_take_7 : decode b_MMo_take 7 = .ok (.iload_n 2, 1) := by decide +kernel
theorem d_MMo_take_8 : decode b_MMo_take 8 = .ok (.if_icmp .ge 25, 3) := by decide +kernel
theorem d_MMo_take_11 : decode b_MMo_take 11 = .ok (.lload_n 3, 1) := by decide +kernel
theorem d_MMo_take_12 : decode b_MMo_take 12 = .ok (.bipush 8, 2) := by decide +kernel
theorem d_MMo_take_14 : decode b_MMo_take 14 = .ok (.lshl, 1) := by decide +kernel
theorem d_MMo_take_15 : decode b_MMo_take 15 = .ok (.aload_n 0, 1) := by decide +kernel
theorem d_MMo_take_16 : decode b_MMo_take 16 = .ok (.getfield 7, 3) := by decide +kernel
theorem d_MMo_take_19 : decode b_MMo_take 19 = .ok (.iload_n 1, 1) := by decide +kernel
theorem d_MMo_take_20 : decode b_MMo_take 20 = .ok (.iload 5, 2) := by decide +kernel
theorem d_MMo_take_22 : decode b_MMo_take 22 = .ok (.iadd, 1) := by decide +kernel
theorem d_MMo_take_23 : decode b_MMo_take 23 = .ok (.iaload, 1) := by decide +kernel
theorem d_MMo_take_24 : decode b_MMo_take 24 = .ok (.i2l, 1) := by decide +kernel
theorem d_MMo_take_25 : decode b_MMo_take 25 = .ok (.lor, 1) := by decide +kernel
theorem d_MMo_take_26 : decode b_MMo_take 26 = .ok (.lstore_n 3, 1) := by decide +kernel
theorem d_MMo_take_27 : decode b_MMo_take 27 = .ok (.iinc 5 1, 3) := by decide +kernel
theorem d_MMo_take_30 : decode b_MMo_take 30 = .ok (.goto (-25), 3) := by decide +kernel
theorem d_MMo_take_33 : decode b_MMo_take 33 = .ok (.lload_n 3, 1) := by decide +kernel
theorem d_MMo_take_34 : decode b_MMo_take 34 = .ok (.lreturn, 1) := by decide +kernel
theorem d_MMo_store_0 : decode b_MMo_store 0 = .ok (.iconst 0, 1) := by decide +kernel
theorem d_MMo_store_1 : decode b_MMo_store 1 = .ok (.istore 5, 2) := by decide +kernel
theorem d_MMo_store_3 : decode b_MMo_store 3 = .ok (.iload 5, 2) := by decide +kernel
theorem d_MMo_store_5 : decode b_MMo_store 5 = .ok (.iload_n 2, 1) := by decide +kernel
theorem d_MMo_store_6 : decode b_MMo_store 6 = .ok (.if_icmp .ge 34, 3) := by decide +kernel
theorem d_MMo_store_9 : decode b_MMo_store 9 = .ok (.aload_n 0, 1) := by decide +kernel
theorem d_MMo_store_10 : decode b_MMo_store 10 = .ok (.getfield 7, 3) := by decide +kernel
theorem d_MMo_store_13 : decode b_MMo_store 13 = .ok (.iload_n 1, 1) := by decide +kernel
theorem d_MMo_store_14 : decode b_MMo_store 14 = .ok (.iload 5, 2) := by decide +kernel
theorem d_MMo_store_16 : decode b_MMo_store 16 = .ok (.iadd, 1) := by decide +kernel
theorem d_MMo_store_17 : decode b_MMo_store 17 = .ok (.lload_n 3, 1) := by decide +kernel
theorem d_MMo_store_18 : decode b_MMo_store 18 = .ok (.bipush 8, 2) := by decide +kernel
theorem d_MMo_store_20 : decode b_MMo_store 20 = .ok (.iload_n 2, 1) := by decide +kernel
theorem d_MMo_store_21 : decode b_MMo_store 21 = .ok (.iconst 1, 1) := by decide +kernel
theorem d_MMo_store_22 : decode b_MMo_store 22 = .ok (.isub, 1) := by decide +kernel
theorem d_MMo_store_23 : decode b_MMo_store 23 = .ok (.iload 5, 2) := by decide +kernel
theorem d_MMo_store_25 : decode b_MMo_store 25 = .ok (.isub, 1) := by decide +kernel
theorem d_MMo_store_26 : decode b_MMo_store 26 = .ok (.imul, 1) := by decide +kernel
theorem d_MMo_store_27 : decode b_MMo_store 27 = .ok (.lushr, 1) := by decide +kernel
theorem d_MMo_store_28 : decode b_MMo_store 28 = .ok (.ldc2_w 45, 3) := by decide +kernel
theorem d_MMo_store_31 : decode b_MMo_store 31 = .ok (.land, 1) := by decide +kernel
theorem d_MMo_store_32 : decode b_MMo_store 32 = .ok (.l2i, 1) := by decide +kernel
theorem d_MMo_store_33 : decode b_MMo_store 33 = .ok (.iastore, 1) := by decide +kernel
theorem d_MMo_store_34 : decode b_MMo_store 34 = .ok (.iinc 5 1, 3) := by decide +kernel
theorem d_MMo_store_37 : decode b_MMo_store 37 = .ok (.goto (-34), 3) := by decide +kernel
theorem d_MMo_store_40 : decode b_MMo_store 40 = .ok (.return_, 1) := by decide +kernel
theorem d_MMo_poke_0 : decode b_MMo_poke 0 = .ok (.aload_n 0, 1) := by decide +kernel
theorem d_MMo_poke_1 : decode b_MMo_poke 1 = .ok (.iconst 0, 1) := by decide +kernel
theorem d_MMo_poke_2 : decode b_MMo_poke 2 = .ok (.putfield 38, 3) := by decide +kernel
theorem d_MMo_poke_5 : decode b_MMo_poke 5 = .ok (.aload_n 0, 1) := by decide +kernel
theorem d_MMo_poke_6 : decode b_MMo_poke 6 = .ok (.iload_n 2, 1) := by decide +kernel
theorem d_MMo_poke_7 : decode b_MMo_poke 7 = .ok (.i2l, 1) := by decide +kernel
theorem d_MMo_poke_8 : decode b_MMo_poke 8 = .ok (.lconst 1, 1) := by decide +kernel
theorem d_MMo_poke_9 : decode b_MMo_poke 9 = .ok (.ldc2_w 47, 3) := by decide +kernel
theorem d_MMo_poke_12 : decode b_MMo_poke 12 = .ok (.invokestatic 41, 3) := by decide +kernel
theorem d_MMo_poke_15 : decode b_MMo_poke 15 = .ok (.ifCond .ne 7, 3) := by decide +kernel
theorem d_MMo_poke_18 : decode b_MMo_poke 18 = .ok (.iconst 1, 1) := by decide +kernel
theorem d_MMo_poke_19 : decode b_MMo_poke 19 = .ok (.goto 4, 3) := by decide +kernel
theorem d_MMo_poke_22 : decode b_MMo_poke 22 = .ok (.iconst 0, 1) := by decide +kernel
theorem d_MMo_poke_23 : decode b_MMo_poke 23 = .ok (.iconst 1, 1) := by decide +kernel
theorem d_MMo_poke_24 : decode b_MMo_poke 24 = .ok (.invokevirtual 49, 3) := by decide +kernel
theorem d_MMo_poke_27 : decode b_MMo_poke 27 = .ok (.ifCond .ne 24, 3) := by decide +kernel
theorem d_MMo_poke_30 : decode b_MMo_poke 30 = .ok (.aload_n 0, 1) := by decide +kernel
theorem d_MMo_poke_31 : decode b_MMo_poke 31 = .ok (.iload_n 1, 1) := by decide +kernel
theorem d_MMo_poke_32 : decode b_MMo_poke 32 = .ok (.iload_n 2, 1) := by decide +kernel
theorem d_MMo_poke_33 : decode b_MMo_poke 33 = .ok (.invokestatic 53, 3) := by decide +kernel
theorem d_MMo_poke_36 : decode b_MMo_poke 36 = .ok (.ifCond .ne 7, 3) := by decide +kernel
theorem d_MMo_poke_39 : decode b_MMo_poke 39 = .ok (.iconst 1, 1) := by decide +kernel
theorem d_MMo_poke_40 : decode b_MMo_poke 40 = .ok (.goto 4, 3) := by decide +kernel
theorem d_MMo_poke_43 : decode b_MMo_poke 43 = .ok (.iconst 0, 1) := by decide +kernel
theorem d_MMo_poke_44 : decode b_MMo_poke 44 = .ok (.iconst 2, 1) := by decide +kernel
theorem d_MMo_poke_45 : decode b_MMo_poke 45 = .ok (.invokevirtual 49, 3) := by decide +kernel
theorem d_MMo_poke_48 : decode b_MMo_poke 48 = .ok (.ifCond .eq 4, 3) := by decide +kernel
theorem d_MMo_poke_51 : decode b_MMo_poke 51 = .ok (.return_, 1) := by decide +kernel
theorem d_MMo_poke_52 : decode b_MMo_poke 52 = .ok (.aload_n 0, 1) := by decide +kernel
theorem d_MMo_poke_53 : decode b_MMo_poke 53 = .ok (.iload_n 1, 1) := by decide +kernel
theorem d_MMo_poke_54 : decode b_MMo_poke 54 = .ok (.iload_n 2, 1) := by decide +kernel
theorem d_MMo_poke_55 : decode b_MMo_poke 55 = .ok (.lload_n 3, 1) := by decide +kernel
theorem d_MMo_poke_56 : decode b_MMo_poke 56 = .ok (.invokevirtual 57, 3) := by decide +kernel
theorem d_MMo_poke_59 : decode b_MMo_poke 59 = .ok (.return_, 1) := by decide +kernel
theorem d_MMo_octet_0 : decode b_MMo_octet 0 = .ok (.aload_n 0, 1) := by decide +kernel
theorem d_MMo_octet_1 : decode b_MMo_octet 1 = .ok (.iconst 0, 1) := by decide +kernel
theorem d_MMo_octet_2 : decode b_MMo_octet 2 = .ok (.putfield 38, 3) := by decide +kernel
theorem d_MMo_octet_5 : decode b_MMo_octet 5 = .ok (.aload_n 0, 1) := by decide +kernel
theorem d_MMo_octet_6 : decode b_MMo_octet 6 = .ok (.iload_n 1, 1) := by decide +kernel
theorem d_MMo_octet_7 : decode b_MMo_octet 7 = .ok (.iconst 1, 1) := by decide +kernel
theorem d_MMo_octet_8 : decode b_MMo_octet 8 = .ok (.invokestatic 53, 3) := by decide +kernel
theorem d_MMo_octet_11 : decode b_MMo_octet 11 = .ok (.ifCond .ne 7, 3) := by decide +kernel
theorem d_MMo_octet_14 : decode b_MMo_octet 14 = .ok (.iconst 1, 1) := by decide +kernel
theorem d_MMo_octet_15 : decode b_MMo_octet 15 = .ok (.goto 4, 3) := by decide +kernel
theorem d_MMo_octet_18 : decode b_MMo_octet 18 = .ok (.iconst 0, 1) := by decide +kernel
theorem d_MMo_octet_19 : decode b_MMo_octet 19 = .ok (.iconst 1, 1) := by decide +kernel
theorem d_MMo_octet_20 : decode b_MMo_octet 20 = .ok (.invokevirtual 49, 3) := by decide +kernel
theorem d_MMo_octet_23 : decode b_MMo_octet 23 = .ok (.ifCond .eq 7, 3) := by decide +kernel
theorem d_MMo_octet_26 : decode b_MMo_octet 26 = .ok (.iconst 0, 1) := by decide +kernel
theorem d_MMo_octet_27 : decode b_MMo_octet 27 = .ok (.goto 9, 3) := by decide +kernel
theorem d_MMo_octet_30 : decode b_MMo_octet 30 = .ok (.aload_n 0, 1) := by decide +kernel
theorem d_MMo_octet_31 : decode b_MMo_octet 31 = .ok (.getfield 7, 3) := by decide +kernel
theorem d_MMo_octet_34 : decode b_MMo_octet 34 = .ok (.iload_n 1, 1) := by decide +kernel
theorem d_MMo_octet_35 : decode b_MMo_octet 35 = .ok (.iaload, 1) := by decide +kernel
theorem d_MMo_octet_36 : decode b_MMo_octet 36 = .ok (.ireturn, 1) := by decide +kernel
theorem d_MMo_set_0 : decode b_MMo_set 0 = .ok (.aload_n 0, 1) := by decide +kernel
theorem d_MMo_set_1 : decode b_MMo_set 1 = .ok (.iconst 0, 1) := by decide +kernel
theorem d_MMo_set_2 : decode b_MMo_set 2 = .ok (.putfield 38, 3) := by decide +kernel
theorem d_MMo_set_5 : decode b_MMo_set 5 = .ok (.aload_n 0, 1) := by decide +kernel
theorem d_MMo_set_6 : decode b_MMo_set 6 = .ok (.iload_n 1, 1) := by decide +kernel
theorem d_MMo_set_7 : decode b_MMo_set 7 = .ok (.i2l, 1) := by decide +kernel
theorem d_MMo_set_8 : decode b_MMo_set 8 = .ok (.lconst 0, 1) := by decide +kernel
theorem d_MMo_set_9 : decode b_MMo_set 9 = .ok (.ldc2_w 61, 3) := by decide +kernel
theorem d_MMo_set_12 : decode b_MMo_set 12 = .ok (.invokestatic 41, 3) := by decide +kernel
theorem d_MMo_set_15 : decode b_MMo_set 15 = .ok (.ifCond .ne 7, 3) := by decide +kernel
theorem d_MMo_set_18 : decode b_MMo_set 18 = .ok (.iconst 1, 1) := by decide +kernel
theorem d_MMo_set_19 : decode b_MMo_set 19 = .ok (.goto 4, 3) := by decide +kernel
theorem d_MMo_set_22 : decode b_MMo_set 22 = .ok (.iconst 0, 1) := by decide +kernel
theorem d_MMo_set_23 : decode b_MMo_set 23 = .ok (.iconst 1, 1) := by decide +kernel
theorem d_MMo_set_24 : decode b_MMo_set 24 = .ok (.invokevirtual 49, 3) := by decide +kernel
theorem d_MMo_set_27 : decode b_MMo_set 27 = .ok (.ifCond .eq 5, 3) := by decide +kernel
theorem d_MMo_set_30 : decode b_MMo_set 30 = .ok (.iconst 0, 1) := by decide +kernel
theorem d_MMo_set_31 : decode b_MMo_set 31 = .ok (.ireturn, 1) := by decide +kernel
theorem d_MMo_set_32 : decode b_MMo_set 32 = .ok (.aload_n 0, 1) := by decide +kernel
theorem d_MMo_set_33 : decode b_MMo_set 33 = .ok (.getfield 13, 3) := by decide +kernel
theorem d_MMo_set_36 : decode b_MMo_set 36 = .ok (.iload_n 1, 1) := by decide +kernel
theorem d_MMo_set_37 : decode b_MMo_set 37 = .ok (.iaload, 1) := by decide +kernel
theorem d_MMo_set_38 : decode b_MMo_set 38 = .ok (.istore_n 3, 1) := by decide +kernel
theorem d_MMo_set_39 : decode b_MMo_set 39 = .ok (.aload_n 0, 1) := by decide +kernel
theorem d_MMo_set_40 : decode b_MMo_set 40 = .ok (.getfield 13, 3) := by decide +kernel
theorem d_MMo_set_43 : decode b_MMo_set 43 = .ok (.iload_n 1, 1) := by decide +kernel
theorem d_MMo_set_44 : decode b_MMo_set 44 = .ok (.iload_n 2, 1) := by decide +kernel
theorem d_MMo_set_45 : decode b_MMo_set 45 = .ok (.iastore, 1) := by decide +kernel
theorem d_MMo_set_46 : decode b_MMo_set 46 = .ok (.iload_n 3, 1) := by decide +kernel
theorem d_MMo_set_47 : decode b_MMo_set 47 = .ok (.ireturn, 1) := by decide +kernel
theorem d_MMo_register_0 : decode b_MMo_register 0 = .ok (.aload_n 0, 1) := by decide +kernel
theorem d_MMo_register_1 : decode b_MMo_register 1 = .ok (.iconst 0, 1) := by decide +kernel
theorem d_MMo_register_2 : decode b_MMo_register 2 = .ok (.putfield 38, 3) := by decide +kernel
theorem d_MMo_register_5 : decode b_MMo_register 5 = .ok (.aload_n 0, 1) := by decide +kernel
theorem d_MMo_register_6 : decode b_MMo_register 6 = .ok (.iload_n 1, 1) := by decide +kernel
theorem d_MMo_register_7 : decode b_MMo_register 7 = .ok (.i2l, 1) := by decide +kernel
theorem d_MMo_register_8 : decode b_MMo_register 8 = .ok (.lconst 0, 1) := by decide +kernel
theorem d_MMo_register_9 : decode b_MMo_register 9 = .ok (.ldc2_w 61, 3) := by decide +kernel
theorem d_MMo_register_12 : decode b_MMo_register 12 = .ok (.invokestatic 41, 3) := by decide +kernel
theorem d_MMo_register_15 : decode b_MMo_register 15 = .ok (.ifCond .ne 7, 3) := by decide +kernel
theorem d_MMo_register_18 : decode b_MMo_register 18 = .ok (.iconst 1, 1) := by decide +kernel
theorem d_MMo_register_19 : decode b_MMo_register 19 = .ok (.goto 4, 3) := by decide +kernel
theorem d_MMo_register_22 : decode b_MMo_register 22 = .ok (.iconst 0, 1) := by decide +kernel
theorem d_MMo_register_23 : decode b_MMo_register 23 = .ok (.iconst 1, 1) := by decide +kernel
theorem d_MMo_register_24 : decode b_MMo_register 24 = .ok (.invokevirtual 49, 3) := by decide +kernel
theorem d_MMo_register_27 : decode b_MMo_register 27 = .ok (.ifCond .eq 7, 3) := by decide +kernel
theorem d_MMo_register_30 : decode b_MMo_register 30 = .ok (.iconst 0, 1) := by decide +kernel
theorem d_MMo_register_31 : decode b_MMo_register 31 = .ok (.goto 9, 3) := by decide +kernel
theorem d_MMo_register_34 : decode b_MMo_register 34 = .ok (.aload_n 0, 1) := by decide +kernel
theorem d_MMo_register_35 : decode b_MMo_register 35 = .ok (.getfield 13, 3) := by decide +kernel
theorem d_MMo_register_38 : decode b_MMo_register 38 = .ok (.iload_n 1, 1) := by decide +kernel
theorem d_MMo_register_39 : decode b_MMo_register 39 = .ok (.iaload, 1) := by decide +kernel
theorem d_MMo_register_40 : decode b_MMo_register 40 = .ok (.ireturn, 1) := by decide +kernel
theorem d_MMo_start_0 : decode b_MMo_start 0 = .ok (.aload_n 0, 1) := by decide +kernel
theorem d_MMo_start_1 : decode b_MMo_start 1 = .ok (.iconst 0, 1) := by decide +kernel
theorem d_MMo_start_2 : decode b_MMo_start 2 = .ok (.putfield 38, 3) := by decide +kernel
theorem d_MMo_start_5 : decode b_MMo_start 5 = .ok (.aload_n 0, 1) := by decide +kernel
theorem d_MMo_start_6 : decode b_MMo_start 6 = .ok (.iload_n 1, 1) := by decide +kernel
theorem d_MMo_start_7 : decode b_MMo_start 7 = .ok (.i2l, 1) := by decide +kernel
theorem d_MMo_start_8 : decode b_MMo_start 8 = .ok (.lconst 0, 1) := by decide +kernel
theorem d_MMo_start_9 : decode b_MMo_start 9 = .ok (.ldc2_w 63, 3) := by decide +kernel
theorem d_MMo_start_12 : decode b_MMo_start 12 = .ok (.invokestatic 41, 3) := by decide +kernel
theorem d_MMo_start_15 : decode b_MMo_start 15 = .ok (.ifCond .eq 15, 3) := by decide +kernel
theorem d_MMo_start_18 : decode b_MMo_start 18 = .ok (.iload_n 2, 1) := by decide +kernel
theorem d_MMo_start_19 : decode b_MMo_start 19 = .ok (.i2l, 1) := by decide +kernel
theorem d_MMo_start_20 : decode b_MMo_start 20 = .ok (.lconst 0, 1) := by decide +kernel
theorem d_MMo_start_21 : decode b_MMo_start 21 = .ok (.ldc2_w 65, 3) := by decide +kernel
theorem d_MMo_start_24 : decode b_MMo_start 24 = .ok (.invokestatic 41, 3) := by decide +kernel
theorem d_MMo_start_27 : decode b_MMo_start 27 = .ok (.ifCond .ne 7, 3) := by decide +kernel
theorem d_MMo_start_30 : decode b_MMo_start 30 = .ok (.iconst 1, 1) := by decide +kernel
theorem d_MMo_start_31 : decode b_MMo_start 31 = .ok (.goto 4, 3) := by decide +kernel
theorem d_MMo_start_34 : decode b_MMo_start 34 = .ok (.iconst 0, 1) := by decide +kernel
theorem d_MMo_start_35 : decode b_MMo_start 35 = .ok (.iconst 1, 1) := by decide +kernel
theorem d_MMo_start_36 : decode b_MMo_start 36 = .ok (.invokevirtual 49, 3) := by decide +kernel
theorem d_MMo_start_39 : decode b_MMo_start 39 = .ok (.ifCond .eq 4, 3) := by decide +kernel
theorem d_MMo_start_42 : decode b_MMo_start 42 = .ok (.return_, 1) := by decide +kernel
theorem d_MMo_start_43 : decode b_MMo_start 43 = .ok (.aload_n 0, 1) := by decide +kernel
theorem d_MMo_start_44 : decode b_MMo_start 44 = .ok (.iload_n 1, 1) := by decide +kernel
theorem d_MMo_start_45 : decode b_MMo_start 45 = .ok (.putfield 67, 3) := by decide +kernel
theorem d_MMo_start_48 : decode b_MMo_start 48 = .ok (.aload_n 0, 1) := by decide +kernel
theorem d_MMo_start_49 : decode b_MMo_start 49 = .ok (.iload_n 2, 1) := by decide +kernel
theorem d_MMo_start_50 : decode b_MMo_start 50 = .ok (.putfield 70, 3) := by decide +kernel
theorem d_MMo_start_53 : decode b_MMo_start 53 = .ok (.aload_n 0, 1) := by decide +kernel
theorem d_MMo_start_54 : decode b_MMo_start 54 = .ok (.iconst 0, 1) := by decide +kernel
theorem d_MMo_start_55 : decode b_MMo_start 55 = .ok (.putfield 73, 3) := by decide +kernel
theorem d_MMo_start_58 : decode b_MMo_start 58 = .ok (.aload_n 0, 1) := by decide +kernel
theorem d_MMo_start_59 : decode b_MMo_start 59 = .ok (.iconst (-1), 1) := by decide +kernel
theorem d_MMo_start_60 : decode b_MMo_start 60 = .ok (.putfield 34, 3) := by decide +kernel
theorem d_MMo_start_63 : decode b_MMo_start 63 = .ok (.return_, 1) := by decide +kernel
theorem d_MMo_rr_0 : decode b_MMo_rr 0 = .ok (.aload_n 0, 1) := by decide +kernel
theorem d_MMo_rr_1 : decode b_MMo_rr 1 = .ok (.iconst 0, 1) := by decide +kernel
theorem d_MMo_rr_2 : decode b_MMo_rr 2 = .ok (.putfield 38, 3) := by decide +kernel
theorem d_MMo_rr_5 : decode b_MMo_rr 5 = .ok (.aload_n 0, 1) := by decide +kernel
theorem d_MMo_rr_6 : decode b_MMo_rr 6 = .ok (.iload_n 2, 1) := by decide +kernel
theorem d_MMo_rr_7 : decode b_MMo_rr 7 = .ok (.i2l, 1) := by decide +kernel
theorem d_MMo_rr_8 : decode b_MMo_rr 8 = .ok (.lconst 0, 1) := by decide +kernel
theorem d_MMo_rr_9 : decode b_MMo_rr 9 = .ok (.ldc2_w 76, 3) := by decide +kernel
theorem d_MMo_rr_12 : decode b_MMo_rr 12 = .ok (.invokestatic 41, 3) := by decide +kernel
theorem d_MMo_rr_15 : decode b_MMo_rr 15 = .ok (.ifCond .eq 28, 3) := by decide +kernel
theorem d_MMo_rr_18 : decode b_MMo_rr 18 = .ok (.iload_n 3, 1) := by decide +kernel
theorem d_MMo_rr_19 : decode b_MMo_rr 19 = .ok (.i2l, 1) := by decide +kernel
theorem d_MMo_rr_20 : decode b_MMo_rr 20 = .ok (.lconst 0, 1) := by decide +kernel
theorem d_MMo_rr_21 : decode b_MMo_rr 21 = .ok (.ldc2_w 61, 3) := by decide +kernel
theorem d_MMo_rr_24 : decode b_MMo_rr 24 = .ok (.invokestatic 41, 3) := by decide +kernel
theorem d_MMo_rr_27 : decode b_MMo_rr 27 = .ok (.ifCond .eq 16, 3) := by decide +kernel
theorem d_MMo_rr_30 : decode b_MMo_rr 30 = .ok (.iload 4, 2) := by decide +kernel
theorem d_MMo_rr_32 : decode b_MMo_rr 32 = .ok (.i2l, 1) := by decide +kernel
theorem d_MMo_rr_33 : decode b_MMo_rr 33 = .ok (.lconst 0, 1) := by decide +kernel
theorem d_MMo_rr_34 : decode b_MMo_rr 34 = .ok (.ldc2_w 61, 3) := by decide +kernel
theorem d_MMo_rr_37 : decode b_MMo_rr 37 = .ok (.invokestatic 41, 3) := by decide +kernel
theorem d_MMo_rr_40 : decode b_MMo_rr 40 = .ok (.ifCond .ne 7, 3) := by decide +kernel
theorem d_MMo_rr_43 : decode b_MMo_rr 43 = .ok (.iconst 1, 1) := by decide +kernel
theorem d_MMo_rr_44 : decode b_MMo_rr 44 = .ok (.goto 4, 3) := by decide +kernel
theorem d_MMo_rr_47 : decode b_MMo_rr 47 = .ok (.iconst 0, 1) := by decide +kernel
theorem d_MMo_rr_48 : decode b_MMo_rr 48 = .ok (.iconst 1, 1) := by decide +kernel
theorem d_MMo_rr_49 : decode b_MMo_rr 49 = .ok (.invokevirtual 49, 3) := by decide +kernel
theorem d_MMo_rr_52 : decode b_MMo_rr 52 = .ok (.ifCond .ne 24, 3) := by decide +kernel
theorem d_MMo_rr_55 : decode b_MMo_rr 55 = .ok (.aload_n 0, 1) := by decide +kernel
theorem d_MMo_rr_56 : decode b_MMo_rr 56 = .ok (.iload_n 1, 1) := by decide +kernel
theorem d_MMo_rr_57 : decode b_MMo_rr 57 = .ok (.iconst 2, 1) := by decide +kernel
theorem d_MMo_rr_58 : decode b_MMo_rr 58 = .ok (.invokestatic 53, 3) := by decide +kernel
theorem d_MMo_rr_61 : decode b_MMo_rr 61 = .ok (.ifCond .ne 7, 3) := by decide +kernel
theorem d_MMo_rr_64 : decode b_MMo_rr 64 = .ok (.iconst 1, 1) := by decide +kernel
theorem d_MMo_rr_65 : decode b_MMo_rr 65 = .ok (.goto 4, 3) := by decide +kernel
theorem d_MMo_rr_68 : decode b_MMo_rr 68 = .ok (.iconst 0, 1) := by decide +kernel
theorem d_MMo_rr_69 : decode b_MMo_rr 69 = .ok (.iconst 2, 1) := by decide +kernel
theorem d_MMo_rr_70 : decode b_MMo_rr 70 = .ok (.invokevirtual 49, 3) := by decide +kernel
theorem d_MMo_rr_73 : decode b_MMo_rr 73 = .ok (.ifCond .eq 5, 3) := by decide +kernel
theorem d_MMo_rr_76 : decode b_MMo_rr 76 = .ok (.iconst 0, 1) := by decide +kernel
theorem d_MMo_rr_77 : decode b_MMo_rr 77 = .ok (.ireturn, 1) := by decide +kernel
theorem d_MMo_rr_78 : decode b_MMo_rr 78 = .ok (.aload_n 0, 1) := by decide +kernel
theorem d_MMo_rr_79 : decode b_MMo_rr 79 = .ok (.iload_n 1, 1) := by decide +kernel
theorem d_MMo_rr_80 : decode b_MMo_rr 80 = .ok (.iconst 2, 1) := by decide +kernel
theorem d_MMo_rr_81 : decode b_MMo_rr 81 = .ok (.iload_n 2, 1) := by decide +kernel
theorem d_MMo_rr_82 : decode b_MMo_rr 82 = .ok (.bipush 8, 2) := by decide +kernel
theorem d_MMo_rr_84 : decode b_MMo_rr 84 = .ok (.ishl, 1) := by decide +kernel
theorem d_MMo_rr_85 : decode b_MMo_rr 85 = .ok (.iload_n 3, 1) := by decide +kernel
theorem d_MMo_rr_86 : decode b_MMo_rr 86 = .ok (.iconst 4, 1) := by decide +kernel
theorem d_MMo_rr_87 : decode b_MMo_rr 87 = .ok (.ishl, 1) := by decide +kernel
theorem d_MMo_rr_88 : decode b_MMo_rr 88 = .ok (.ior, 1) := by decide +kernel
theorem d_MMo_rr_89 : decode b_MMo_rr 89 = .ok (.iload 4, 2) := by decide +kernel
theorem d_MMo_rr_91 : decode b_MMo_rr 91 = .ok (.ior, 1) := by decide +kernel
theorem d_MMo_rr_92 : decode b_MMo_rr 92 = .ok (.i2l, 1) := by decide +kernel
theorem d_MMo_rr_93 : decode b_MMo_rr 93 = .ok (.invokevirtual 57, 3) := by decide +kernel
theorem d_MMo_rr_96 : decode b_MMo_rr 96 = .ok (.iload_n 1, 1) := by decide +kernel
theorem d_MMo_rr_97 : decode b_MMo_rr 97 = .ok (.iconst 2, 1) := by decide +kernel
theorem d_MMo_rr_98 : decode b_MMo_rr 98 = .ok (.iadd, 1) := by decide +kernel
theorem d_MMo_rr_99 : decode b_MMo_rr 99 = .ok (.ireturn, 1) := by decide +kernel
theorem d_MMo_rx_0 : decode b_MMo_rx 0 = .ok (.aload_n 0, 1) := by decide +kernel
theorem d_MMo_rx_1 : decode b_MMo_rx 1 = .ok (.iconst 0, 1) := by decide +kernel
theorem d_MMo_rx_2 : decode b_MMo_rx 2 = .ok (.putfield 38, 3) := by decide +kernel
theorem d_MMo_rx_5 : decode b_MMo_rx 5 = .ok (.aload_n 0, 1) := by decide +kernel
theorem d_MMo_rx_6 : decode b_MMo_rx 6 = .ok (.iload_n 2, 1) := by decide +kernel
theorem d_MMo_rx_7 : decode b_MMo_rx 7 = .ok (.i2l, 1) := by decide +kernel
theorem d_MMo_rx_8 : decode b_MMo_rx 8 = .ok (.ldc2_w 78, 3) := by decide +kernel
theorem d_MMo_rx_11 : decode b_MMo_rx 11 = .ok (.ldc2_w 80, 3) := by decide +kernel
theorem d_MMo_rx_14 : decode b_MMo_rx 14 = .ok (.invokestatic 41, 3) := by decide +kernel
theorem d_MMo_rx_17 : decode b_MMo_rx 17 = .ok (.ifCond .eq 54, 3) := by decide +kernel
theorem d_MMo_rx_20 : decode b_MMo_rx 20 = .ok (.iload_n 3, 1) := by decide +kernel
theorem d_MMo_rx_21 : decode b_MMo_rx 21 = .ok (.i2l, 1) := by decide +kernel
theorem d_MMo_rx_22 : decode b_MMo_rx 22 = .ok (.lconst 0, 1) := by decide +kernel
theorem d_MMo_rx_23 : decode b_MMo_rx 23 = .ok (.ldc2_w 61, 3) := by decide +kernel
theorem d_MMo_rx_26 : decode b_MMo_rx 26 = .ok (.invokestatic 41, 3) := by decide +kernel
theorem d_MMo_rx_29 : decode b_MMo_rx 29 = .ok (.ifCond .eq 42, 3) := by decide +kernel
theorem d_MMo_rx_32 : decode b_MMo_rx 32 = .ok (.iload 4, 2) := by decide +kernel
theorem d_MMo_rx_34 : decode b_MMo_rx 34 = .ok (.i2l, 1) := by decide +kernel
theorem d_MMo_rx_35 : decode b_MMo_rx 35 = .ok (.lconst 0, 1) := by decide +kernel
theorem d_MMo_rx_36 : decode b_MMo_rx 36 = .ok (.ldc2_w 61, 3) := by decide +kernel
theorem d_MMo_rx_39 : decode b_MMo_rx 39 = .ok (.invokestatic 41, 3) := by decide +kernel
theorem d_MMo_rx_42 : decode b_MMo_rx 42 = .ok (.ifCond .eq 29, 3) := by decide +kernel
theorem d_MMo_rx_45 : decode b_MMo_rx 45 = .ok (.iload 5, 2) := by decide +kernel
theorem d_MMo_rx_47 : decode b_MMo_rx 47 = .ok (.i2l, 1) := by decide +kernel
theorem d_MMo_rx_48 : decode b_MMo_rx 48 = .ok (.lconst 0, 1) := by decide +kernel
theorem d_MMo_rx_49 : decode b_MMo_rx 49 = .ok (.ldc2_w 61, 3) := by decide +kernel
theorem d_MMo_rx_52 : decode b_MMo_rx 52 = .ok (.invokestatic 41, 3) := by decide +kernel
theorem d_MMo_rx_55 : decode b_MMo_rx 55 = .ok (.ifCond .eq 16, 3) := by decide +kernel
theorem d_MMo_rx_58 : decode b_MMo_rx 58 = .ok (.iload 6, 2) := by decide +kernel
theorem d_MMo_rx_60 : decode b_MMo_rx 60 = .ok (.i2l, 1) := by decide +kernel
theorem d_MMo_rx_61 : decode b_MMo_rx 61 = .ok (.lconst 0, 1) := by decide +kernel
theorem d_MMo_rx_62 : decode b_MMo_rx 62 = .ok (.ldc2_w 82, 3) := by decide +kernel
theorem d_MMo_rx_65 : decode b_MMo_rx 65 = .ok (.invokestatic 41, 3) := by decide +kernel
theorem d_MMo_rx_68 : decode b_MMo_rx 68 = .ok (.ifCond .ne 7, 3) := by decide +kernel
theorem d_MMo_rx_71 : decode b_MMo_rx 71 = .ok (.iconst 1, 1) := by decide +kernel
theorem d_MMo_rx_72 : decode b_MMo_rx 72 = .ok (.goto 4, 3) := by decide +kernel
theorem d_MMo_rx_75 : decode b_MMo_rx 75 = .ok (.iconst 0, 1) := by decide +kernel
theorem d_MMo_rx_76 : decode b_MMo_rx 76 = .ok (.iconst 1, 1) := by decide +kernel
theorem d_MMo_rx_77 : decode b_MMo_rx 77 = .ok (.invokevirtual 49, 3) := by decide +kernel
theorem d_MMo_rx_80 : decode b_MMo_rx 80 = .ok (.ifCond .ne 24, 3) := by decide +kernel
theorem d_MMo_rx_83 : decode b_MMo_rx 83 = .ok (.aload_n 0, 1) := by decide +kernel
theorem d_MMo_rx_84 : decode b_MMo_rx 84 = .ok (.iload_n 1, 1) := by decide +kernel
theorem d_MMo_rx_85 : decode b_MMo_rx 85 = .ok (.iconst 4, 1) := by decide +kernel
theorem d_MMo_rx_86 : decode b_MMo_rx 86 = .ok (.invokestatic 53, 3) := by decide +kernel
theorem d_MMo_rx_89 : decode b_MMo_rx 89 = .ok (.ifCond .ne 7, 3) := by decide +kernel
theorem d_MMo_rx_92 : decode b_MMo_rx 92 = .ok (.iconst 1, 1) := by decide +kernel
theorem d_MMo_rx_93 : decode b_MMo_rx 93 = .ok (.goto 4, 3) := by decide +kernel
theorem d_MMo_rx_96 : decode b_MMo_rx 96 = .ok (.iconst 0, 1) := by decide +kernel
theorem d_MMo_rx_97 : decode b_MMo_rx 97 = .ok (.iconst 2, 1) := by decide +kernel
theorem d_MMo_rx_98 : decode b_MMo_rx 98 = .ok (.invokevirtual 49, 3) := by decide +kernel
theorem d_MMo_rx_101 : decode b_MMo_rx 101 = .ok (.ifCond .eq 5, 3) := by decide +kernel
theorem d_MMo_rx_104 : decode b_MMo_rx 104 = .ok (.iconst 0, 1) := by decide +kernel
theorem d_MMo_rx_105 : decode b_MMo_rx 105 = .ok (.ireturn, 1) := by decide +kernel
theorem d_MMo_rx_106 : decode b_MMo_rx 106 = .ok (.aload_n 0, 1) := by decide +kernel
theorem d_MMo_rx_107 : decode b_MMo_rx 107 = .ok (.iload_n 1, 1) := by decide +kernel
theorem d_MMo_rx_108 : decode b_MMo_rx 108 = .ok (.iconst 4, 1) := by decide +kernel
theorem d_MMo_rx_109 : decode b_MMo_rx 109 = .ok (.iload_n 2, 1) := by decide +kernel
theorem d_MMo_rx_110 : decode b_MMo_rx 110 = .ok (.i2l, 1) := by decide +kernel
theorem d_MMo_rx_111 : decode b_MMo_rx 111 = .ok (.bipush 24, 2) := by decide +kernel
theorem d_MMo_rx_113 : decode b_MMo_rx 113 = .ok (.lshl, 1) := by decide +kernel
theorem d_MMo_rx_114 : decode b_MMo_rx 114 = .ok (.iload_n 3, 1) := by decide +kernel
theorem d_MMo_rx_115 : decode b_MMo_rx 115 = .ok (.bipush 20, 2) := by decide +kernel
theorem d_MMo_rx_117 : decode b_MMo_rx 117 = .ok (.ishl, 1) := by decide +kernel
theorem d_MMo_rx_118 : decode b_MMo_rx 118 = .ok (.i2l, 1) := by decide +kernel
theorem d_MMo_rx_119 : decode b_MMo_rx 119 = .ok (.lor, 1) := by decide +kernel
theorem d_MMo_rx_120 : decode b_MMo_rx 120 = .ok (.iload 4, 2) := by decide +kernel
theorem d_MMo_rx_122 : decode b_MMo_rx 122 = .ok (.bipush 16, 2) := by decide +kernel
theorem d_MMo_rx_124 : decode b_MMo_rx 124 = .ok (.ishl, 1) := by decide +kernel
theorem d_MMo_rx_125 : decode b_MMo_rx 125 = .ok (.i2l, 1) := by decide +kernel
theorem d_MMo_rx_126 : decode b_MMo_rx 126 = .ok (.lor, 1) := by decide +kernel
theorem d_MMo_rx_127 : decode b_MMo_rx 127 = .ok (.iload 5, 2) := by decide +kernel
theorem d_MMo_rx_129 : decode b_MMo_rx 129 = .ok (.bipush 12, 2) := by decide +kernel
theorem d_MMo_rx_131 : decode b_MMo_rx 131 = .ok (.ishl, 1) := by decide +kernel
theorem d_MMo_rx_132 : decode b_MMo_rx 132 = .ok (.i2l, 1) := by decide +kernel
theorem d_MMo_rx_133 : decode b_MMo_rx 133 = .ok (.lor, 1) := by decide +kernel
theorem d_MMo_rx_134 : decode b_MMo_rx 134 = .ok (.iload 6, 2) := by decide +kernel
theorem d_MMo_rx_136 : decode b_MMo_rx 136 = .ok (.i2l, 1) := by decide +kernel
theorem d_MMo_rx_137 : decode b_MMo_rx 137 = .ok (.lor, 1) := by decide +kernel
theorem d_MMo_rx_138 : decode b_MMo_rx 138 = .ok (.invokevirtual 57, 3) := by decide +kernel
theorem d_MMo_rx_141 : decode b_MMo_rx 141 = .ok (.iload_n 1, 1) := by decide +kernel
theorem d_MMo_rx_142 : decode b_MMo_rx 142 = .ok (.iconst 4, 1) := by decide +kernel
theorem d_MMo_rx_143 : decode b_MMo_rx 143 = .ok (.iadd, 1) := by decide +kernel
theorem d_MMo_rx_144 : decode b_MMo_rx 144 = .ok (.ireturn, 1) := by decide +kernel
theorem d_MMo_ss_0 : decode b_MMo_ss 0 = .ok (.aload_n 0, 1) := by decide +kernel
theorem d_MMo_ss_1 : decode b_MMo_ss 1 = .ok (.iconst 0, 1) := by decide +kernel
theorem d_MMo_ss_2 : decode b_MMo_ss 2 = .ok (.putfield 38, 3) := by decide +kernel
theorem d_MMo_ss_5 : decode b_MMo_ss 5 = .ok (.aload_n 0, 1) := by decide +kernel
theorem d_MMo_ss_6 : decode b_MMo_ss 6 = .ok (.iload_n 2, 1) := by decide +kernel
theorem d_MMo_ss_7 : decode b_MMo_ss 7 = .ok (.i2l, 1) := by decide +kernel
theorem d_MMo_ss_8 : decode b_MMo_ss 8 = .ok (.ldc2_w 84, 3) := by decide +kernel
theorem d_MMo_ss_11 : decode b_MMo_ss 11 = .ok (.ldc2_w 45, 3) := by decide +kernel
theorem d_MMo_ss_14 : decode b_MMo_ss 14 = .ok (.invokestatic 41, 3) := by decide +kernel
theorem d_MMo_ss_17 : decode b_MMo_ss 17 = .ok (.ifCond .eq 67, 3) := by decide +kernel
theorem d_MMo_ss_20 : decode b_MMo_ss 20 = .ok (.iload_n 3, 1) := by decide +kernel
theorem d_MMo_ss_21 : decode b_MMo_ss 21 = .ok (.i2l, 1) := by decide +kernel
theorem d_MMo_ss_22 : decode b_MMo_ss 22 = .ok (.lconst 0, 1) := by decide +kernel
theorem d_MMo_ss_23 : decode b_MMo_ss 23 = .ok (.ldc2_w 45, 3) := by decide +kernel
theorem d_MMo_ss_26 : decode b_MMo_ss 26 = .ok (.invokestatic 41, 3) := by decide +kernel
theorem d_MMo_ss_29 : decode b_MMo_ss 29 = .ok (.ifCond .eq 55, 3) := by decide +kernel
theorem d_MMo_ss_32 : decode b_MMo_ss 32 = .ok (.iload 4, 2) := by decide +kernel
theorem d_MMo_ss_34 : decode b_MMo_ss 34 = .ok (.i2l, 1) := by decide +kernel
theorem d_MMo_ss_35 : decode b_MMo_ss 35 = .ok (.lconst 0, 1) := by decide +kernel
theorem d_MMo_ss_36 : decode b_MMo_ss 36 = .ok (.ldc2_w 61, 3) := by decide +kernel
theorem d_MMo_ss_39 : decode b_MMo_ss 39 = .ok (.invokestatic 41, 3) := by decide +kernel
theorem d_MMo_ss_42 : decode b_MMo_ss 42 = .ok (.ifCond .eq 42, 3) := by decide +kernel
theorem d_MMo_ss_45 : decode b_MMo_ss 45 = .ok (.iload 5, 2) := by decide +kernel
theorem d_MMo_ss_47 : decode b_MMo_ss 47 = .ok (.i2l, 1) := by decide +kernel
theorem d_MMo_ss_48 : decode b_MMo_ss 48 = .ok (.lconst 0, 1) := by decide +kernel
theorem d_MMo_ss_49 : decode b_MMo_ss 49 = .ok (.ldc2_w 82, 3) := by decide +kernel
theorem d_MMo_ss_52 : decode b_MMo_ss 52 = .ok (.invokestatic 41, 3) := by decide +kernel
theorem d_MMo_ss_55 : decode b_MMo_ss 55 = .ok (.ifCond .eq 29, 3) := by decide +kernel
theorem d_MMo_ss_58 : decode b_MMo_ss 58 = .ok (.iload 6, 2) := by decide +kernel
theorem d_MMo_ss_60 : decode b_MMo_ss 60 = .ok (.i2l, 1) := by decide +kernel
theorem d_MMo_ss_61 : decode b_MMo_ss 61 = .ok (.lconst 0, 1) := by decide +kernel
theorem d_MMo_ss_62 : decode b_MMo_ss 62 = .ok (.ldc2_w 61, 3) := by decide +kernel
theorem d_MMo_ss_65 : decode b_MMo_ss 65 = .ok (.invokestatic 41, 3) := by decide +kernel
theorem d_MMo_ss_68 : decode b_MMo_ss 68 = .ok (.ifCond .eq 16, 3) := by decide +kernel
theorem d_MMo_ss_71 : decode b_MMo_ss 71 = .ok (.iload 7, 2) := by decide +kernel
theorem d_MMo_ss_73 : decode b_MMo_ss 73 = .ok (.i2l, 1) := by decide +kernel
theorem d_MMo_ss_74 : decode b_MMo_ss 74 = .ok (.lconst 0, 1) := by decide +kernel
theorem d_MMo_ss_75 : decode b_MMo_ss 75 = .ok (.ldc2_w 82, 3) := by decide +kernel
theorem d_MMo_ss_78 : decode b_MMo_ss 78 = .ok (.invokestatic 41, 3) := by decide +kernel
theorem d_MMo_ss_81 : decode b_MMo_ss 81 = .ok (.ifCond .ne 7, 3) := by decide +kernel
theorem d_MMo_ss_84 : decode b_MMo_ss 84 = .ok (.iconst 1, 1) := by decide +kernel
theorem d_MMo_ss_85 : decode b_MMo_ss 85 = .ok (.goto 4, 3) := by decide +kernel
theorem d_MMo_ss_88 : decode b_MMo_ss 88 = .ok (.iconst 0, 1) := by decide +kernel
theorem d_MMo_ss_89 : decode b_MMo_ss 89 = .ok (.iconst 1, 1) := by decide +kernel
theorem d_MMo_ss_90 : decode b_MMo_ss 90 = .ok (.invokevirtual 49, 3) := by decide +kernel
theorem d_MMo_ss_93 : decode b_MMo_ss 93 = .ok (.ifCond .ne 25, 3) := by decide +kernel
theorem d_MMo_ss_96 : decode b_MMo_ss 96 = .ok (.aload_n 0, 1) := by decide +kernel
theorem d_MMo_ss_97 : decode b_MMo_ss 97 = .ok (.iload_n 1, 1) := by decide +kernel
theorem d_MMo_ss_98 : decode b_MMo_ss 98 = .ok (.bipush 6, 2) := by decide +kernel
theorem d_MMo_ss_100 : decode b_MMo_ss 100 = .ok (.invokestatic 53, 3) := by decide +kernel
theorem d_MMo_ss_103 : decode b_MMo_ss 103 = .ok (.ifCond .ne 7, 3) := by decide +kernel
theorem d_MMo_ss_106 : decode b_MMo_ss 106 = .ok (.iconst 1, 1) := by decide +kernel
theorem d_MMo_ss_107 : decode b_MMo_ss 107 = .ok (.goto 4, 3) := by decide +kernel
theorem d_MMo_ss_110 : decode b_MMo_ss 110 = .ok (.iconst 0, 1) := by decide +kernel
theorem d_MMo_ss_111 : decode b_MMo_ss 111 = .ok (.iconst 2, 1) := by decide +kernel
theorem d_MMo_ss_112 : decode b_MMo_ss 112 = .ok (.invokevirtual 49, 3) := by decide +kernel
theorem d_MMo_ss_115 : decode b_MMo_ss 115 = .ok (.ifCond .eq 5, 3) := by decide +kernel
theorem d_MMo_ss_118 : decode b_MMo_ss 118 = .ok (.iconst 0, 1) := by decide +kernel
theorem d_MMo_ss_119 : decode b_MMo_ss 119 = .ok (.ireturn, 1) := by decide +kernel
theorem d_MMo_ss_120 : decode b_MMo_ss 120 = .ok (.aload_n 0, 1) := by decide +kernel
theorem d_MMo_ss_121 : decode b_MMo_ss 121 = .ok (.iload_n 1, 1) := by decide +kernel
theorem d_MMo_ss_122 : decode b_MMo_ss 122 = .ok (.bipush 6, 2) := by decide +kernel
theorem d_MMo_ss_124 : decode b_MMo_ss 124 = .ok (.iload_n 2, 1) := by decide +kernel
theorem d_MMo_ss_125 : decode b_MMo_ss 125 = .ok (.i2l, 1) := by decide +kernel
theorem d_MMo_ss_126 : decode b_MMo_ss 126 = .ok (.bipush 40, 2) := by decide +kernel
theorem d_MMo_ss_128 : decode b_MMo_ss 128 = .ok (.lshl, 1) := by decide +kernel
theorem d_MMo_ss_129 : decode b_MMo_ss 129 = .ok (.iload_n 3, 1) := by decide +kernel
theorem d_MMo_ss_130 : decode b_MMo_ss 130 = .ok (.i2l, 1) := by decide +kernel
theorem d_MMo_ss_131 : decode b_MMo_ss 131 = .ok (.bipush 32, 2) := by decide +kernel
theorem d_MMo_ss_133 : decode b_MMo_ss 133 = .ok (.lshl, 1) := by decide +kernel
theorem d_MMo_ss_134 : decode b_MMo_ss 134 = .ok (.lor, 1) := by decide +kernel
theorem d_MMo_ss_135 : decode b_MMo_ss 135 = .ok (.iload 4, 2) := by decide +kernel
theorem d_MMo_ss_137 : decode b_MMo_ss 137 = .ok (.i2l, 1) := by decide +kernel
theorem d_MMo_ss_138 : decode b_MMo_ss 138 = .ok (.bipush 28, 2) := by decide +kernel
theorem d_MMo_ss_140 : decode b_MMo_ss 140 = .ok (.lshl, 1) := by decide +kernel
theorem d_MMo_ss_141 : decode b_MMo_ss 141 = .ok (.lor, 1) := by decide +kernel
theorem d_MMo_ss_142 : decode b_MMo_ss 142 = .ok (.iload 5, 2) := by decide +kernel
theorem d_MMo_ss_144 : decode b_MMo_ss 144 = .ok (.i2l, 1) := by decide +kernel
theorem d_MMo_ss_145 : decode b_MMo_ss 145 = .ok (.bipush 16, 2) := by decide +kernel
theorem d_MMo_ss_147 : decode b_MMo_ss 147 = .ok (.lshl, 1) := by decide +kernel
theorem d_MMo_ss_148 : decode b_MMo_ss 148 = .ok (.lor, 1) := by decide +kernel
theorem d_MMo_ss_149 : decode b_MMo_ss 149 = .ok (.iload 6, 2) := by decide +kernel
theorem d_MMo_ss_151 : decode b_MMo_ss 151 = .ok (.bipush 12, 2) := by decide +kernel
theorem d_MMo_ss_153 : decode b_MMo_ss 153 = .ok (.ishl, 1) := by decide +kernel
theorem d_MMo_ss_154 : decode b_MMo_ss 154 = .ok (.i2l, 1) := by decide +kernel
theorem d_MMo_ss_155 : decode b_MMo_ss 155 = .ok (.lor, 1) := by decide +kernel
theorem d_MMo_ss_156 : decode b_MMo_ss 156 = .ok (.iload 7, 2) := by decide +kernel
theorem d_MMo_ss_158 : decode b_MMo_ss 158 = .ok (.i2l, 1) := by decide +kernel
theorem d_MMo_ss_159 : decode b_MMo_ss 159 = .ok (.lor, 1) := by decide +kernel
theorem d_MMo_ss_160 : decode b_MMo_ss 160 = .ok (.invokevirtual 57, 3) := by decide +kernel
theorem d_MMo_ss_163 : decode b_MMo_ss 163 = .ok (.iload_n 1, 1) := by decide +kernel
theorem d_MMo_ss_164 : decode b_MMo_ss 164 = .ok (.bipush 6, 2) := by decide +kernel
theorem d_MMo_ss_166 : decode b_MMo_ss 166 = .ok (.iadd, 1) := by decide +kernel
theorem d_MMo_ss_167 : decode b_MMo_ss 167 = .ok (.ireturn, 1) := by decide +kernel
theorem d_MMo_wrong_0 : decode b_MMo_wrong 0 = .ok (.iload_n 1, 1) := by decide +kernel
theorem d_MMo_wrong_1 : decode b_MMo_wrong 1 = .ok (.ifCond .eq 15, 3) := by decide +kernel
theorem d_MMo_wrong_4 : decode b_MMo_wrong 4 = .ok (.aload_n 0, 1) := by decide +kernel
theorem d_MMo_wrong_5 : decode b_MMo_wrong 5 = .ok (.getfield 86, 3) := by decide +kernel
theorem d_MMo_wrong_8 : decode b_MMo_wrong 8 = .ok (.ifCond .ne 8, 3) := by decide +kernel
theorem d_MMo_wrong_11 : decode b_MMo_wrong 11 = .ok (.aload_n 0, 1) := by decide +kernel
theorem d_MMo_wrong_12 : decode b_MMo_wrong 12 = .ok (.iload_n 2, 1) := by decide +kernel
theorem d_MMo_wrong_13 : decode b_MMo_wrong 13 = .ok (.putfield 86, 3) := by decide +kernel
theorem d_MMo_wrong_16 : decode b_MMo_wrong 16 = .ok (.return_, 1) := by decide +kernel
theorem d_MMo_based_0 : decode b_MMo_based 0 = .ok (.aload_n 0, 1) := by decide +kernel
theorem d_MMo_based_1 : decode b_MMo_based 1 = .ok (.iload_n 1, 1) := by decide +kernel
theorem d_MMo_based_2 : decode b_MMo_based 2 = .ok (.iconst 2, 1) := by decide +kernel
theorem d_MMo_based_3 : decode b_MMo_based 3 = .ok (.invokevirtual 89, 3) := by decide +kernel
theorem d_MMo_based_6 : decode b_MMo_based 6 = .ok (.l2i, 1) := by decide +kernel
theorem d_MMo_based_7 : decode b_MMo_based 7 = .ok (.istore_n 2, 1) := by decide +kernel
theorem d_MMo_based_8 : decode b_MMo_based 8 = .ok (.iload_n 2, 1) := by decide +kernel
theorem d_MMo_based_9 : decode b_MMo_based 9 = .ok (.bipush 12, 2) := by decide +kernel
theorem d_MMo_based_11 : decode b_MMo_based 11 = .ok (.ishr, 1) := by decide +kernel
theorem d_MMo_based_12 : decode b_MMo_based 12 = .ok (.istore_n 3, 1) := by decide +kernel
theorem d_MMo_based_13 : decode b_MMo_based 13 = .ok (.iload_n 2, 1) := by decide +kernel
theorem d_MMo_based_14 : decode b_MMo_based 14 = .ok (.sipush 4095, 3) := by decide +kernel
theorem d_MMo_based_17 : decode b_MMo_based 17 = .ok (.iand, 1) := by decide +kernel
theorem d_MMo_based_18 : decode b_MMo_based 18 = .ok (.iload_n 3, 1) := by decide +kernel
theorem d_MMo_based_19 : decode b_MMo_based 19 = .ok (.ifCond .le 12, 3) := by decide +kernel
theorem d_MMo_based_22 : decode b_MMo_based 22 = .ok (.aload_n 0, 1) := by decide +kernel
theorem d_MMo_based_23 : decode b_MMo_based 23 = .ok (.getfield 13, 3) := by decide +kernel
theorem d_MMo_based_26 : decode b_MMo_based 26 = .ok (.iload_n 3, 1) := by decide +kernel
theorem d_MMo_based_27 : decode b_MMo_based 27 = .ok (.iaload, 1) := by decide +kernel
theorem d_MMo_based_28 : decode b_MMo_based 28 = .ok (.goto 4, 3) := by decide +kernel
theorem d_MMo_based_31 : decode b_MMo_based 31 = .ok (.iconst 0, 1) := by decide +kernel
theorem d_MMo_based_32 : decode b_MMo_based 32 = .ok (.iadd, 1) := by decide +kernel
theorem d_MMo_based_33 : decode b_MMo_based 33 = .ok (.ldc 93, 2) := by decide +kernel
