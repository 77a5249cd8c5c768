theorem d_MMo_indexed_446 : decode b_MMo_indexed 446 = .ok (.aload_n 0, 1) := by decide +kernel
theorem d_MMo_indexed_447 : decode b_MMo_indexed 447 = .ok (.getfield 25, 3) := by decide +kernel
theorem d_MMo_indexed_450 : decode b_MMo_indexed 450 = .ok (.iload 10, 2) := by decide +kernel
theorem d_MMo_indexed_452 : decode b_MMo_indexed 452 = .ok (.lload 8, 2) := by decide +kernel
theorem d_MMo_indexed_454 : decode b_MMo_indexed 454 = .ok (.ldc2_w 206, 3) := by decide +kernel
theorem d_MMo_indexed_457 : decode b_MMo_indexed 457 = .ok (.lrem, 1) := by decide +kernel
theorem d_MMo_indexed_458 : decode b_MMo_indexed 458 = .ok (.l2i, 1) := by decide +kernel
theorem d_MMo_indexed_459 : decode b_MMo_indexed 459 = .ok (.iastore, 1) := by decide +kernel
theorem d_MMo_indexed_460 : decode b_MMo_indexed 460 = .ok (.lload 8, 2) := by decide +kernel
theorem d_MMo_indexed_462 : decode b_MMo_indexed 462 = .ok (.ldc2_w 206, 3) := by decide +kernel
theorem d_MMo_indexed_465 : decode b_MMo_indexed 465 = .ok (.ldiv, 1) := by decide +kernel
theorem d_MMo_indexed_466 : decode b_MMo_indexed 466 = .ok (.lstore 8, 2) := by decide +kernel
theorem d_MMo_indexed_468 : decode b_MMo_indexed 468 = .ok (.iinc 10 1, 3) := by decide +kernel
theorem d_MMo_indexed_471 : decode b_MMo_indexed 471 = .ok (.goto (-32), 3) := by decide +kernel
theorem d_MMo_indexed_474 : decode b_MMo_indexed 474 = .ok (.aload_n 0, 1) := by decide +kernel
theorem d_MMo_indexed_475 : decode b_MMo_indexed 475 = .ok (.aload_n 0, 1) := by decide +kernel
theorem d_MMo_indexed_476 : decode b_MMo_indexed 476 = .ok (.getfield 152, 3) := by decide +kernel
theorem d_MMo_indexed_479 : decode b_MMo_indexed 479 = .ok (.bipush 8, 2) := by decide +kernel
theorem d_MMo_indexed_481 : decode b_MMo_indexed 481 = .ok (.aload_n 0, 1) := by decide +kernel
theorem d_MMo_indexed_482 : decode b_MMo_indexed 482 = .ok (.getfield 25, 3) := by decide +kernel
theorem d_MMo_indexed_485 : decode b_MMo_indexed 485 = .ok (.aload_n 0, 1) := by decide +kernel
theorem d_MMo_indexed_486 : decode b_MMo_indexed 486 = .ok (.getfield 13, 3) := by decide +kernel
theorem d_MMo_indexed_489 : decode b_MMo_indexed 489 = .ok (.iload_n 2, 1) := by decide +kernel
theorem d_MMo_indexed_490 : decode b_MMo_indexed 490 = .ok (.iaload, 1) := by decide +kernel
theorem d_MMo_indexed_491 : decode b_MMo_indexed 491 = .ok (.ifCond .ge 7, 3) := by decide +kernel
theorem d_MMo_indexed_494 : decode b_MMo_indexed 494 = .ok (.iconst 1, 1) := by decide +kernel
theorem d_MMo_indexed_495 : decode b_MMo_indexed 495 = .ok (.goto 4, 3) := by decide +kernel
theorem d_MMo_indexed_498 : decode b_MMo_indexed 498 = .ok (.iconst 0, 1) := by decide +kernel
theorem d_MMo_indexed_499 : decode b_MMo_indexed 499 = .ok (.invokevirtual 216, 3) := by decide +kernel
theorem d_MMo_indexed_502 : decode b_MMo_indexed 502 = .ok (.goto 61, 3) := by decide +kernel
theorem d_MMo_indexed_505 : decode b_MMo_indexed 505 = .ok (.aload_n 0, 1) := by decide +kernel
theorem d_MMo_indexed_506 : decode b_MMo_indexed 506 = .ok (.getfield 13, 3) := by decide +kernel
theorem d_MMo_indexed_509 : decode b_MMo_indexed 509 = .ok (.iload_n 2, 1) := by decide +kernel
theorem d_MMo_indexed_510 : decode b_MMo_indexed 510 = .ok (.aload_n 0, 1) := by decide +kernel
theorem d_MMo_indexed_511 : decode b_MMo_indexed 511 = .ok (.getfield 19, 3) := by decide +kernel
theorem d_MMo_indexed_514 : decode b_MMo_indexed 514 = .ok (.aload_n 0, 1) := by decide +kernel
theorem d_MMo_indexed_515 : decode b_MMo_indexed 515 = .ok (.aload_n 0, 1) := by decide +kernel
theorem d_MMo_indexed_516 : decode b_MMo_indexed 516 = .ok (.getfield 152, 3) := by decide +kernel
theorem d_MMo_indexed_519 : decode b_MMo_indexed 519 = .ok (.bipush 8, 2) := by decide +kernel
theorem d_MMo_indexed_521 : decode b_MMo_indexed 521 = .ok (.invokevirtual 186, 3) := by decide +kernel
theorem d_MMo_indexed_524 : decode b_MMo_indexed 524 = .ok (.invokestatic 189, 3) := by decide +kernel
theorem d_MMo_indexed_527 : decode b_MMo_indexed 527 = .ok (.l2i, 1) := by decide +kernel
theorem d_MMo_indexed_528 : decode b_MMo_indexed 528 = .ok (.iastore, 1) := by decide +kernel
theorem d_MMo_indexed_529 : decode b_MMo_indexed 529 = .ok (.goto 34, 3) := by decide +kernel
theorem d_MMo_indexed_532 : decode b_MMo_indexed 532 = .ok (.aload_n 0, 1) := by decide +kernel
theorem d_MMo_indexed_533 : decode b_MMo_indexed 533 = .ok (.aload_n 0, 1) := by decide +kernel
theorem d_MMo_indexed_534 : decode b_MMo_indexed 534 = .ok (.getfield 152, 3) := by decide +kernel
theorem d_MMo_indexed_537 : decode b_MMo_indexed 537 = .ok (.iconst 4, 1) := by decide +kernel
theorem d_MMo_indexed_538 : decode b_MMo_indexed 538 = .ok (.aload_n 0, 1) := by decide +kernel
theorem d_MMo_indexed_539 : decode b_MMo_indexed 539 = .ok (.getfield 13, 3) := by decide +kernel
theorem d_MMo_indexed_542 : decode b_MMo_indexed 542 = .ok (.iload_n 2, 1) := by decide +kernel
theorem d_MMo_indexed_543 : decode b_MMo_indexed 543 = .ok (.iaload, 1) := by decide +kernel
theorem d_MMo_indexed_544 : decode b_MMo_indexed 544 = .ok (.i2l, 1) := by decide +kernel
theorem d_MMo_indexed_545 : decode b_MMo_indexed 545 = .ok (.invokevirtual 57, 3) := by decide +kernel
theorem d_MMo_indexed_548 : decode b_MMo_indexed 548 = .ok (.goto 15, 3) := by decide +kernel
theorem d_MMo_indexed_551 : decode b_MMo_indexed 551 = .ok (.aload_n 0, 1) := by decide +kernel
theorem d_MMo_indexed_552 : decode b_MMo_indexed 552 = .ok (.aload_n 0, 1) := by decide +kernel
theorem d_MMo_indexed_553 : decode b_MMo_indexed 553 = .ok (.getfield 132, 3) := by decide +kernel
theorem d_MMo_indexed_556 : decode b_MMo_indexed 556 = .ok (.iload_n 2, 1) := by decide +kernel
theorem d_MMo_indexed_557 : decode b_MMo_indexed 557 = .ok (.lload 5, 2) := by decide +kernel
theorem d_MMo_indexed_559 : decode b_MMo_indexed 559 = .ok (.l2i, 1) := by decide +kernel
theorem d_MMo_indexed_560 : decode b_MMo_indexed 560 = .ok (.invokevirtual 256, 3) := by decide +kernel
theorem d_MMo_indexed_563 : decode b_MMo_indexed 563 = .ok (.return_, 1) := by decide +kernel
theorem d_MMo_left_0 : decode b_MMo_left 0 = .ok (.iload_n 2, 1) := by decide +kernel
theorem d_MMo_left_1 : decode b_MMo_left 1 = .ok (.istore 4, 2) := by decide +kernel
theorem d_MMo_left_3 : decode b_MMo_left 3 = .ok (.iconst 0, 1) := by decide +kernel
theorem d_MMo_left_4 : decode b_MMo_left 4 = .ok (.istore 5, 2) := by decide +kernel
theorem d_MMo_left_6 : decode b_MMo_left 6 = .ok (.iconst 0, 1) := by decide +kernel
theorem d_MMo_left_7 : decode b_MMo_left 7 = .ok (.istore 6, 2) := by decide +kernel
theorem d_MMo_left_9 : decode b_MMo_left 9 = .ok (.iload 6, 2) := by decide +kernel
theorem d_MMo_left_11 : decode b_MMo_left 11 = .ok (.iload_n 3, 1) := by decide +kernel
theorem d_MMo_left_12 : decode b_MMo_left 12 = .ok (.if_icmp .ge 51, 3) := by decide +kernel
theorem d_MMo_left_15 : decode b_MMo_left 15 = .ok (.iload 5, 2) := by decide +kernel
theorem d_MMo_left_17 : decode b_MMo_left 17 = .ok (.iload 4, 2) := by decide +kernel
theorem d_MMo_left_19 : decode b_MMo_left 19 = .ok (.bipush 30, 2) := by decide +kernel
theorem d_MMo_left_21 : decode b_MMo_left 21 = .ok (.ishr, 1) := by decide +kernel
theorem d_MMo_left_22 : decode b_MMo_left 22 = .ok (.iconst 1, 1) := by decide +kernel
theorem d_MMo_left_23 : decode b_MMo_left 23 = .ok (.iand, 1) := by decide +kernel
theorem d_MMo_left_24 : decode b_MMo_left 24 = .ok (.iload_n 2, 1) := by decide +kernel
theorem d_MMo_left_25 : decode b_MMo_left 25 = .ok (.bipush 31, 2) := by decide +kernel
theorem d_MMo_left_27 : decode b_MMo_left 27 = .ok (.ishr, 1) := by decide +kernel
theorem d_MMo_left_28 : decode b_MMo_left 28 = .ok (.iconst 1, 1) := by decide +kernel
theorem d_MMo_left_29 : decode b_MMo_left 29 = .ok (.iand, 1) := by decide +kernel
theorem d_MMo_left_30 : decode b_MMo_left 30 = .ok (.if_icmp .eq 7, 3) := by decide +kernel
theorem d_MMo_left_33 : decode b_MMo_left 33 = .ok (.iconst 1, 1) := by decide +kernel
theorem d_MMo_left_34 : decode b_MMo_left 34 = .ok (.goto 4, 3) := by decide +kernel
theorem d_MMo_left_37 : decode b_MMo_left 37 = .ok (.iconst 0, 1) := by decide +kernel
theorem d_MMo_left_38 : decode b_MMo_left 38 = .ok (.ior, 1) := by decide +kernel
theorem d_MMo_left_39 : decode b_MMo_left 39 = .ok (.istore 5, 2) := by decide +kernel
theorem d_MMo_left_41 : decode b_MMo_left 41 = .ok (.iload 4, 2) := by decide +kernel
theorem d_MMo_left_43 : decode b_MMo_left 43 = .ok (.iconst 1, 1) := by decide +kernel
theorem d_MMo_left_44 : decode b_MMo_left 44 = .ok (.ishl, 1) := by decide +kernel
theorem d_MMo_left_45 : decode b_MMo_left 45 = .ok (.ldc_w 266, 3) := by decide +kernel
theorem d_MMo_left_48 : decode b_MMo_left 48 = .ok (.iand, 1) := by decide +kernel
theorem d_MMo_left_49 : decode b_MMo_left 49 = .ok (.iload_n 2, 1) := by decide +kernel
theorem d_MMo_left_50 : decode b_MMo_left 50 = .ok (.ldc_w 267, 3) := by decide +kernel
theorem d_MMo_left_53 : decode b_MMo_left 53 = .ok (.iand, 1) := by decide +kernel
theorem d_MMo_left_54 : decode b_MMo_left 54 = .ok (.ior, 1) := by decide +kernel
theorem d_MMo_left_55 : decode b_MMo_left 55 = .ok (.istore 4, 2) := by decide +kernel
theorem d_MMo_left_57 : decode b_MMo_left 57 = .ok (.iinc 6 1, 3) := by decide +kernel
theorem d_MMo_left_60 : decode b_MMo_left 60 = .ok (.goto (-51), 3) := by decide +kernel
theorem d_MMo_left_63 : decode b_MMo_left 63 = .ok (.aload_n 0, 1) := by decide +kernel
theorem d_MMo_left_64 : decode b_MMo_left 64 = .ok (.getfield 13, 3) := by decide +kernel
theorem d_MMo_left_67 : decode b_MMo_left 67 = .ok (.iload_n 1, 1) := by decide +kernel
theorem d_MMo_left_68 : decode b_MMo_left 68 = .ok (.iload 4, 2) := by decide +kernel
theorem d_MMo_left_70 : decode b_MMo_left 70 = .ok (.iastore, 1) := by decide +kernel
theorem d_MMo_left_71 : decode b_MMo_left 71 = .ok (.aload_n 0, 1) := by decide +kernel
theorem d_MMo_left_72 : decode b_MMo_left 72 = .ok (.iload 5, 2) := by decide +kernel
theorem d_MMo_left_74 : decode b_MMo_left 74 = .ok (.ifCond .eq 7, 3) := by decide +kernel
theorem d_MMo_left_77 : decode b_MMo_left 77 = .ok (.iconst 3, 1) := by decide +kernel
theorem d_MMo_left_78 : decode b_MMo_left 78 = .ok (.goto 8, 3) := by decide +kernel
theorem d_MMo_left_81 : decode b_MMo_left 81 = .ok (.iload 4, 2) := by decide +kernel
theorem d_MMo_left_83 : decode b_MMo_left 83 = .ok (.invokestatic 232, 3) := by decide +kernel
theorem d_MMo_left_86 : decode b_MMo_left 86 = .ok (.putfield 73, 3) := by decide +kernel
theorem d_MMo_left_89 : decode b_MMo_left 89 = .ok (.iload 5, 2) := by decide +kernel
theorem d_MMo_left_91 : decode b_MMo_left 91 = .ok (.ifCond .eq 18, 3) := by decide +kernel
theorem d_MMo_left_94 : decode b_MMo_left 94 = .ok (.aload_n 0, 1) := by decide +kernel
theorem d_MMo_left_95 : decode b_MMo_left 95 = .ok (.getfield 70, 3) := by decide +kernel
theorem d_MMo_left_98 : decode b_MMo_left 98 = .ok (.iconst 1, 1) := by decide +kernel
theorem d_MMo_left_99 : decode b_MMo_left 99 = .ok (.iand, 1) := by decide +kernel
theorem d_MMo_left_100 : decode b_MMo_left 100 = .ok (.ifCond .le 9, 3) := by decide +kernel
theorem d_MMo_left_103 : decode b_MMo_left 103 = .ok (.aload_n 0, 1) := by decide +kernel
theorem d_MMo_left_104 : decode b_MMo_left 104 = .ok (.bipush 8, 2) := by decide +kernel
theorem d_MMo_left_106 : decode b_MMo_left 106 = .ok (.putfield 86, 3) := by decide +kernel
theorem d_MMo_left_109 : decode b_MMo_left 109 = .ok (.return_, 1) := by decide +kernel
theorem d_MMo_immediate_0 : decode b_MMo_immediate 0 = .ok (.aload_n 0, 1) := by decide +kernel
theorem d_MMo_immediate_1 : decode b_MMo_immediate 1 = .ok (.getfield 7, 3) := by decide +kernel
theorem d_MMo_immediate_4 : decode b_MMo_immediate 4 = .ok (.aload_n 0, 1) := by decide +kernel
theorem d_MMo_immediate_5 : decode b_MMo_immediate 5 = .ok (.getfield 149, 3) := by decide +kernel
theorem d_MMo_immediate_8 : decode b_MMo_immediate 8 = .ok (.iaload, 1) := by decide +kernel
theorem d_MMo_immediate_9 : decode b_MMo_immediate 9 = .ok (.istore_n 1, 1) := by decide +kernel
theorem d_MMo_immediate_10 : decode b_MMo_immediate 10 = .ok (.iload_n 1, 1) := by decide +kernel
theorem d_MMo_immediate_11 : decode b_MMo_immediate 11 = .ok (.istore_n 2, 1) := by decide +kernel
theorem d_MMo_immediate_12 : decode b_MMo_immediate 12 = .ok (.aload_n 0, 1) := by decide +kernel
theorem d_MMo_immediate_13 : decode b_MMo_immediate 13 = .ok (.getfield 132, 3) := by decide +kernel
theorem d_MMo_immediate_16 : decode b_MMo_immediate 16 = .ok (.sipush 145, 3) := by decide +kernel
theorem d_MMo_immediate_19 : decode b_MMo_immediate 19 = .ok (.if_icmp .ne 39, 3) := by decide +kernel
theorem d_MMo_immediate_22 : decode b_MMo_immediate 22 = .ok (.aload_n 0, 1) := by decide +kernel
theorem d_MMo_immediate_23 : decode b_MMo_immediate 23 = .ok (.iload_n 1, 1) := by decide +kernel
theorem d_MMo_immediate_24 : decode b_MMo_immediate 24 = .ok (.aload_n 0, 1) := by decide +kernel
theorem d_MMo_immediate_25 : decode b_MMo_immediate 25 = .ok (.getfield 142, 3) := by decide +kernel
theorem d_MMo_immediate_28 : decode b_MMo_immediate 28 = .ok (.iand, 1) := by decide +kernel
theorem d_MMo_immediate_29 : decode b_MMo_immediate 29 = .ok (.ifCond .ne 7, 3) := by decide +kernel
theorem d_MMo_immediate_32 : decode b_MMo_immediate 32 = .ok (.iconst 0, 1) := by decide +kernel
theorem d_MMo_immediate_33 : decode b_MMo_immediate 33 = .ok (.goto 21, 3) := by decide +kernel
theorem d_MMo_immediate_36 : decode b_MMo_immediate 36 = .ok (.iload_n 1, 1) := by decide +kernel
theorem d_MMo_immediate_37 : decode b_MMo_immediate 37 = .ok (.aload_n 0, 1) := by decide +kernel
theorem d_MMo_immediate_38 : decode b_MMo_immediate 38 = .ok (.getfield 142, 3) := by decide +kernel
theorem d_MMo_immediate_41 : decode b_MMo_immediate 41 = .ok (.iand, 1) := by decide +kernel
theorem d_MMo_immediate_42 : decode b_MMo_immediate 42 = .ok (.aload_n 0, 1) := by decide +kernel
theorem d_MMo_immediate_43 : decode b_MMo_immediate 43 = .ok (.getfield 142, 3) := by decide +kernel
theorem d_MMo_immediate_46 : decode b_MMo_immediate 46 = .ok (.if_icmp .ne 7, 3) := by decide +kernel
theorem d_MMo_immediate_49 : decode b_MMo_immediate 49 = .ok (.iconst 3, 1) := by decide +kernel
theorem d_MMo_immediate_50 : decode b_MMo_immediate 50 = .ok (.goto 4, 3) := by decide +kernel
theorem d_MMo_immediate_53 : decode b_MMo_immediate 53 = .ok (.iconst 1, 1) := by decide +kernel
theorem d_MMo_immediate_54 : decode b_MMo_immediate 54 = .ok (.putfield 73, 3) := by decide +kernel
theorem d_MMo_immediate_57 : decode b_MMo_immediate 57 = .ok (.return_, 1) := by decide +kernel
theorem d_MMo_immediate_58 : decode b_MMo_immediate 58 = .ok (.aload_n 0, 1) := by decide +kernel
theorem d_MMo_immediate_59 : decode b_MMo_immediate 59 = .ok (.getfield 132, 3) := by decide +kernel
theorem d_MMo_immediate_62 : decode b_MMo_immediate 62 = .ok (.sipush 149, 3) := by decide +kernel
theorem d_MMo_immediate_65 : decode b_MMo_immediate 65 = .ok (.if_icmp .ne 18, 3) := by decide +kernel
theorem d_MMo_immediate_68 : decode b_MMo_immediate 68 = .ok (.aload_n 0, 1) := by decide +kernel
theorem d_MMo_immediate_69 : decode b_MMo_immediate 69 = .ok (.iload_n 1, 1) := by decide +kernel
theorem d_MMo_immediate_70 : decode b_MMo_immediate 70 = .ok (.i2l, 1) := by decide +kernel
theorem d_MMo_immediate_71 : decode b_MMo_immediate 71 = .ok (.aload_n 0, 1) := by decide +kernel
theorem d_MMo_immediate_72 : decode b_MMo_immediate 72 = .ok (.getfield 142, 3) := by decide +kernel
theorem d_MMo_immediate_75 : decode b_MMo_immediate 75 = .ok (.i2l, 1) := by decide +kernel
theorem d_MMo_immediate_76 : decode b_MMo_immediate 76 = .ok (.invokestatic 239, 3) := by decide +kernel
theorem d_MMo_immediate_79 : decode b_MMo_immediate 79 = .ok (.putfield 73, 3) := by decide +kernel
theorem d_MMo_immediate_82 : decode b_MMo_immediate 82 = .ok (.return_, 1) := by decide +kernel
theorem d_MMo_immediate_83 : decode b_MMo_immediate 83 = .ok (.aload_n 0, 1) := by decide +kernel
theorem d_MMo_immediate_84 : decode b_MMo_immediate 84 = .ok (.getfield 132, 3) := by decide +kernel
theorem d_MMo_immediate_87 : decode b_MMo_immediate 87 = .ok (.sipush 146, 3) := by decide +kernel
theorem d_MMo_immediate_90 : decode b_MMo_immediate 90 = .ok (.if_icmp .ne 10, 3) := by decide +kernel
theorem d_MMo_immediate_93 : decode b_MMo_immediate 93 = .ok (.aload_n 0, 1) := by decide +kernel
theorem d_MMo_immediate_94 : decode b_MMo_immediate 94 = .ok (.getfield 142, 3) := by decide +kernel
theorem d_MMo_immediate_97 : decode b_MMo_immediate 97 = .ok (.goto 47, 3) := by decide +kernel
theorem d_MMo_immediate_100 : decode b_MMo_immediate 100 = .ok (.aload_n 0, 1) := by decide +kernel
theorem d_MMo_immediate_101 : decode b_MMo_immediate 101 = .ok (.getfield 132, 3) := by decide +kernel
theorem d_MMo_immediate_104 : decode b_MMo_immediate 104 = .ok (.sipush 148, 3) := by decide +kernel
theorem d_MMo_immediate_107 : decode b_MMo_immediate 107 = .ok (.if_icmp .ne 12, 3) := by decide +kernel
theorem d_MMo_immediate_110 : decode b_MMo_immediate 110 = .ok (.iload_n 1, 1) := by decide +kernel
theorem d_MMo_immediate_111 : decode b_MMo_immediate 111 = .ok (.aload_n 0, 1) := by decide +kernel
theorem d_MMo_immediate_112 : decode b_MMo_immediate 112 = .ok (.getfield 142, 3) := by decide +kernel
theorem d_MMo_immediate_115 : decode b_MMo_immediate 115 = .ok (.iand, 1) := by decide +kernel
theorem d_MMo_immediate_116 : decode b_MMo_immediate 116 = .ok (.goto 28, 3) := by decide +kernel
theorem d_MMo_immediate_119 : decode b_MMo_immediate 119 = .ok (.aload_n 0, 1) := by decide +kernel
theorem d_MMo_immediate_120 : decode b_MMo_immediate 120 = .ok (.getfield 132, 3) := by decide +kernel
theorem d_MMo_immediate_123 : decode b_MMo_immediate 123 = .ok (.sipush 150, 3) := by decide +kernel
theorem d_MMo_immediate_126 : decode b_MMo_immediate 126 = .ok (.if_icmp .ne 12, 3) := by decide +kernel
theorem d_MMo_immediate_129 : decode b_MMo_immediate 129 = .ok (.iload_n 1, 1) := by decide +kernel
theorem d_MMo_immediate_130 : decode b_MMo_immediate 130 = .ok (.aload_n 0, 1) := by decide +kernel
theorem d_MMo_immediate_131 : decode b_MMo_immediate 131 = .ok (.getfield 142, 3) := by decide +kernel
theorem d_MMo_immediate_134 : decode b_MMo_immediate 134 = .ok (.ior, 1) := by decide +kernel
theorem d_MMo_immediate_135 : decode b_MMo_immediate 135 = .ok (.goto 9, 3) := by decide +kernel
theorem d_MMo_immediate_138 : decode b_MMo_immediate 138 = .ok (.iload_n 1, 1) := by decide +kernel
theorem d_MMo_immediate_139 : decode b_MMo_immediate 139 = .ok (.aload_n 0, 1) := by decide +kernel
theorem d_MMo_immediate_140 : decode b_MMo_immediate 140 = .ok (.getfield 142, 3) := by decide +kernel
theorem d_MMo_immediate_143 : decode b_MMo_immediate 143 = .ok (.ixor, 1) := by decide +kernel
theorem d_MMo_immediate_144 : decode b_MMo_immediate 144 = .ok (.istore_n 2, 1) := by decide +kernel
theorem d_MMo_immediate_145 : decode b_MMo_immediate 145 = .ok (.aload_n 0, 1) := by decide +kernel
theorem d_MMo_immediate_146 : decode b_MMo_immediate 146 = .ok (.getfield 7, 3) := by decide +kernel
theorem d_MMo_immediate_149 : decode b_MMo_immediate 149 = .ok (.aload_n 0, 1) := by decide +kernel
theorem d_MMo_immediate_150 : decode b_MMo_immediate 150 = .ok (.getfield 149, 3) := by decide +kernel
theorem d_MMo_immediate_153 : decode b_MMo_immediate 153 = .ok (.iload_n 2, 1) := by decide +kernel
theorem d_MMo_immediate_154 : decode b_MMo_immediate 154 = .ok (.iastore, 1) := by decide +kernel
theorem d_MMo_immediate_155 : decode b_MMo_immediate 155 = .ok (.aload_n 0, 1) := by decide +kernel
theorem d_MMo_immediate_156 : decode b_MMo_immediate 156 = .ok (.getfield 132, 3) := by decide +kernel
theorem d_MMo_immediate_159 : decode b_MMo_immediate 159 = .ok (.sipush 146, 3) := by decide +kernel
theorem d_MMo_immediate_162 : decode b_MMo_immediate 162 = .ok (.if_icmp .eq 16, 3) := by decide +kernel
theorem d_MMo_immediate_165 : decode b_MMo_immediate 165 = .ok (.aload_n 0, 1) := by decide +kernel
theorem d_MMo_immediate_166 : decode b_MMo_immediate 166 = .ok (.iload_n 2, 1) := by decide +kernel
theorem d_MMo_immediate_167 : decode b_MMo_immediate 167 = .ok (.ifCond .ne 7, 3) := by decide +kernel
theorem d_MMo_immediate_170 : decode b_MMo_immediate 170 = .ok (.iconst 0, 1) := by decide +kernel
theorem d_MMo_immediate_171 : decode b_MMo_immediate 171 = .ok (.goto 4, 3) := by decide +kernel
theorem d_MMo_immediate_174 : decode b_MMo_immediate 174 = .ok (.iconst 1, 1) := by decide +kernel
theorem d_MMo_immediate_175 : decode b_MMo_immediate 175 = .ok (.putfield 73, 3) := by decide +kernel
theorem d_MMo_immediate_178 : decode b_MMo_immediate 178 = .ok (.return_, 1) := by decide +kernel
theorem d_MMo_others_0 : decode b_MMo_others 0 = .ok (.aload_n 0, 1) := by decide +kernel
theorem d_MMo_others_1 : decode b_MMo_others 1 = .ok (.invokevirtual 163, 3) := by decide +kernel
theorem d_MMo_others_4 : decode b_MMo_others 4 = .ok (.istore_n 2, 1) := by decide +kernel
theorem d_MMo_others_5 : decode b_MMo_others 5 = .ok (.aload_n 0, 1) := by decide +kernel
theorem d_MMo_others_6 : decode b_MMo_others 6 = .ok (.invokevirtual 159, 3) := by decide +kernel
theorem d_MMo_others_9 : decode b_MMo_others 9 = .ok (.istore_n 3, 1) := by decide +kernel
theorem d_MMo_others_10 : decode b_MMo_others 10 = .ok (.aload_n 0, 1) := by decide +kernel
theorem d_MMo_others_11 : decode b_MMo_others 11 = .ok (.getfield 152, 3) := by decide +kernel
theorem d_MMo_others_14 : decode b_MMo_others 14 = .ok (.bipush 63, 2) := by decide +kernel
theorem d_MMo_others_16 : decode b_MMo_others 16 = .ok (.iand, 1) := by decide +kernel
theorem d_MMo_others_17 : decode b_MMo_others 17 = .ok (.istore 4, 2) := by decide +kernel
theorem d_MMo_others_19 : decode b_MMo_others 19 = .ok (.aload_n 0, 1) := by decide +kernel
theorem d_MMo_others_20 : decode b_MMo_others 20 = .ok (.getfield 13, 3) := by decide +kernel
theorem d_MMo_others_23 : decode b_MMo_others 23 = .ok (.iload_n 2, 1) := by decide +kernel
theorem d_MMo_others_24 : decode b_MMo_others 24 = .ok (.iaload, 1) := by decide +kernel
theorem d_MMo_others_25 : decode b_MMo_others 25 = .ok (.istore 5, 2) := by decide +kernel
theorem d_MMo_others_27 : decode b_MMo_others 27 = .ok (.aload_n 0, 1) := by decide +kernel
theorem d_MMo_others_28 : decode b_MMo_others 28 = .ok (.iload_n 1, 1) := by decide +kernel
theorem d_MMo_others_29 : decode b_MMo_others 29 = .ok (.putfield 67, 3) := by decide +kernel
theorem d_MMo_others_32 : decode b_MMo_others 32 = .ok (.aload_n 0, 1) := by decide +kernel
theorem d_MMo_others_33 : decode b_MMo_others 33 = .ok (.getfield 132, 3) := by decide +kernel
theorem d_MMo_others_36 : decode b_MMo_others 36 = .ok (.tableswitch 364 134 152 #[92, 92, 171, 196, 221, 260, 364, 364, 364, 364, 272, 364, 364, 364, 364, 364, 364, 364, 272], 92) := by decide +kernel
theorem d_MMo_others_128 : decode b_MMo_others 128 = .ok (.aload_n 0, 1) := by decide +kernel
theorem d_MMo_others_129 : decode b_MMo_others 129 = .ok (.getfield 13, 3) := by decide +kernel
theorem d_MMo_others_132 : decode b_MMo_others 132 = .ok (.iload_n 3, 1) := by decide +kernel
theorem d_MMo_others_133 : decode b_MMo_others 133 = .ok (.iaload, 1) := by decide +kernel
theorem d_MMo_others_134 : decode b_MMo_others 134 = .ok (.istore 6, 2) := by decide +kernel
theorem d_MMo_others_136 : decode b_MMo_others 136 = .ok (.aload_n 0, 1) := by decide +kernel
theorem d_MMo_others_137 : decode b_MMo_others 137 = .ok (.getfield 13, 3) := by decide +kernel
theorem d_MMo_others_140 : decode b_MMo_others 140 = .ok (.iload_n 3, 1) := by decide +kernel
theorem d_MMo_others_141 : decode b_MMo_others 141 = .ok (.iconst 1, 1) := by decide +kernel
theorem d_MMo_others_142 : decode b_MMo_others 142 = .ok (.ior, 1) := by decide +kernel
theorem d_MMo_others_143 : decode b_MMo_others 143 = .ok (.iaload, 1) := by decide +kernel
theorem d_MMo_others_144 : decode b_MMo_others 144 = .ok (.istore 7, 2) := by decide +kernel
theorem d_MMo_others_146 : decode b_MMo_others 146 = .ok (.aload_n 0, 1) := by decide +kernel
theorem d_MMo_others_147 : decode b_MMo_others 147 = .ok (.getfield 13, 3) := by decide +kernel
theorem d_MMo_others_150 : decode b_MMo_others 150 = .ok (.iload_n 2, 1) := by decide +kernel
theorem d_MMo_others_151 : decode b_MMo_others 151 = .ok (.iload 5, 2) := by decide +kernel
theorem d_MMo_others_153 : decode b_MMo_others 153 = .ok (.iload 6, 2) := by decide +kernel
theorem d_MMo_others_155 : decode b_MMo_others 155 = .ok (.iadd, 1) := by decide +kernel
theorem d_MMo_others_156 : decode b_MMo_others 156 = .ok (.iastore, 1) := by decide +kernel
theorem d_MMo_others_157 : decode b_MMo_others 157 = .ok (.aload_n 0, 1) := by decide +kernel
theorem d_MMo_others_158 : decode b_MMo_others 158 = .ok (.aload_n 0, 1) := by decide +kernel
theorem d_MMo_others_159 : decode b_MMo_others 159 = .ok (.getfield 13, 3) := by decide +kernel
theorem d_MMo_others_162 : decode b_MMo_others 162 = .ok (.iload_n 2, 1) := by decide +kernel
theorem d_MMo_others_163 : decode b_MMo_others 163 = .ok (.iaload, 1) := by decide +kernel
theorem d_MMo_others_164 : decode b_MMo_others 164 = .ok (.iload 7, 2) := by decide +kernel
theorem d_MMo_others_166 : decode b_MMo_others 166 = .ok (.if_icmp .le 7, 3) := by decide +kernel
theorem d_MMo_others_169 : decode b_MMo_others 169 = .ok (.iconst 1, 1) := by decide +kernel
theorem d_MMo_others_170 : decode b_MMo_others 170 = .ok (.goto 4, 3) := by decide +kernel
theorem d_MMo_others_173 : decode b_MMo_others 173 = .ok (.iconst 0, 1) := by decide +kernel
theorem d_MMo_others_174 : decode b_MMo_others 174 = .ok (.aload_n 0, 1) := by decide +kernel
theorem d_MMo_others_175 : decode b_MMo_others 175 = .ok (.getfield 132, 3) := by decide +kernel
theorem d_MMo_others_178 : decode b_MMo_others 178 = .ok (.sipush 134, 3) := by decide +kernel
theorem d_MMo_others_181 : decode b_MMo_others 181 = .ok (.if_icmp .ne 7, 3) := by decide +kernel
theorem d_MMo_others_184 : decode b_MMo_others 184 = .ok (.iconst 1, 1) := by decide +kernel
theorem d_MMo_others_185 : decode b_MMo_others 185 = .ok (.goto 4, 3) := by decide +kernel
theorem d_MMo_others_188 : decode b_MMo_others 188 = .ok (.iconst 0, 1) := by decide +kernel
theorem d_MMo_others_189 : decode b_MMo_others 189 = .ok (.if_icmp .ne 7, 3) := by decide +kernel
theorem d_MMo_others_192 : decode b_MMo_others 192 = .ok (.iconst 1, 1) := by decide +kernel
theorem d_MMo_others_193 : decode b_MMo_others 193 = .ok (.goto 4, 3) := by decide +kernel
theorem d_MMo_others_196 : decode b_MMo_others 196 = .ok (.iconst 0, 1) := by decide +kernel
theorem d_MMo_others_197 : decode b_MMo_others 197 = .ok (.aload_n 0, 1) := by decide +kernel
theorem d_MMo_others_198 : decode b_MMo_others 198 = .ok (.getfield 152, 3) := by decide +kernel
theorem d_MMo_others_201 : decode b_MMo_others 201 = .ok (.invokevirtual 250, 3) := by decide +kernel
theorem d_MMo_others_204 : decode b_MMo_others 204 = .ok (.goto 200, 3) := by decide +kernel
theorem d_MMo_others_207 : decode b_MMo_others 207 = .ok (.aload_n 0, 1) := by decide +kernel
theorem d_MMo_others_208 : decode b_MMo_others 208 = .ok (.getfield 13, 3) := by decide +kernel
theorem d_MMo_others_211 : decode b_MMo_others 211 = .ok (.iload_n 2, 1) := by decide +kernel
theorem d_MMo_others_212 : decode b_MMo_others 212 = .ok (.iload 4, 2) := by decide +kernel
theorem d_MMo_others_214 : decode b_MMo_others 214 = .ok (.bipush 31, 2) := by decide +kernel
theorem d_MMo_others_216 : decode b_MMo_others 216 = .ok (.if_icmp .le 7, 3) := by decide +kernel
theorem d_MMo_others_219 : decode b_MMo_others 219 = .ok (.iconst 0, 1) := by decide +kernel
theorem d_MMo_others_220 : decode b_MMo_others 220 = .ok (.goto 8, 3) := by decide +kernel
theorem d_MMo_others_223 : decode b_MMo_others 223 = .ok (.iload 5, 2) := by decide +kernel
theorem d_MMo_others_225 : decode b_MMo_others 225 = .ok (.iload 4, 2) := by decide +kernel
theorem d_MMo_others_227 : decode b_MMo_others 227 = .ok (.iushr, 1) := by decide +kernel
theorem d_MMo_others_228 : decode b_MMo_others 228 = .ok (.iastore, 1) := by decide +kernel
theorem d_MMo_others_229 : decode b_MMo_others 229 = .ok (.goto 175, 3) := by decide +kernel
theorem d_MMo_others_232 : decode b_MMo_others 232 = .ok (.aload_n 0, 1) := by decide +kernel
theorem d_MMo_others_233 : decode b_MMo_others 233 = .ok (.getfield 13, 3) := by decide +kernel
theorem d_MMo_others_236 : decode b_MMo_others 236 = .ok (.iload_n 2, 1) := by decide +kernel
theorem d_MMo_others_237 : decode b_MMo_others 237 = .ok (.iload 4, 2) := by decide +kernel
theorem d_MMo_others_239 : decode b_MMo_others 239 = .ok (.bipush 31, 2) := by decide +kernel
theorem d_MMo_others_241 : decode b_MMo_others 241 = .ok (.if_icmp .le 7, 3) := by decide +kernel
theorem d_MMo_others_244 : decode b_MMo_others 244 = .ok (.iconst 0, 1) := by decide +kernel
theorem d_MMo_others_245 : decode b_MMo_others 245 = .ok (.goto 8, 3) := by decide +kernel
theorem d_MMo_others_248 : decode b_MMo_others 248 = .ok (.iload 5, 2) := by decide +kernel
theorem d_MMo_others_250 : decode b_MMo_others 250 = .ok (.iload 4, 2) := by decide +kernel
theorem d_MMo_others_252 : decode b_MMo_others 252 = .ok (.ishl, 1) := by decide +kernel
theorem d_MMo_others_253 : decode b_MMo_others 253 = .ok (.iastore, 1) := by decide +kernel
theorem d_MMo_others_254 : decode b_MMo_others 254 = .ok (.goto 150, 3) := by decide +kernel
theorem d_MMo_others_257 : decode b_MMo_others 257 = .ok (.aload_n 0, 1) := by decide +kernel
theorem d_MMo_others_258 : decode b_MMo_others 258 = .ok (.getfield 13, 3) := by decide +kernel
theorem d_MMo_others_261 : decode b_MMo_others 261 = .ok (.iload_n 2, 1) := by decide +kernel
theorem d_MMo_others_262 : decode b_MMo_others 262 = .ok (.iload 5, 2) := by decide +kernel
theorem d_MMo_others_264 : decode b_MMo_others 264 = .ok (.iload 4, 2) := by decide +kernel
theorem d_MMo_others_266 : decode b_MMo_others 266 = .ok (.bipush 31, 2) := by decide +kernel
theorem d_MMo_others_268 : decode b_MMo_others 268 = .ok (.if_icmp .le 8, 3) := by decide +kernel
theorem d_MMo_others_271 : decode b_MMo_others 271 = .ok (.bipush 31, 2) := by decide +kernel
theorem d_MMo_others_273 : decode b_MMo_others 273 = .ok (.goto 5, 3) := by decide +kernel
theorem d_MMo_others_276 : decode b_MMo_others 276 = .ok (.iload 4, 2) := by decide +kernel
theorem d_MMo_others_278 : decode b_MMo_others 278 = .ok (.ishr, 1) := by decide +kernel
theorem d_MMo_others_279 : decode b_MMo_others 279 = .ok (.iastore, 1) := by decide +kernel
theorem d_MMo_others_280 : decode b_MMo_others 280 = .ok (.aload_n 0, 1) := by decide +kernel
theorem d_MMo_others_281 : decode b_MMo_others 281 = .ok (.aload_n 0, 1) := by decide +kernel
theorem d_MMo_others_282 : decode b_MMo_others 282 = .ok (.getfield 13, 3) := by decide +kernel
theorem d_MMo_others_285 : decode b_MMo_others 285 = .ok (.iload_n 2, 1) := by decide +kernel
theorem d_MMo_others_286 : decode b_MMo_others 286 = .ok (.iaload, 1) := by decide +kernel
theorem d_MMo_others_287 : decode b_MMo_others 287 = .ok (.invokestatic 232, 3) := by decide +kernel
theorem d_MMo_others_290 : decode b_MMo_others 290 = .ok (.putfield 73, 3) := by decide +kernel
theorem d_MMo_others_293 : decode b_MMo_others 293 = .ok (.goto 111, 3) := by decide +kernel
theorem d_MMo_others_296 : decode b_MMo_others 296 = .ok (.aload_n 0, 1) := by decide +kernel
theorem d_MMo_others_297 : decode b_MMo_others 297 = .ok (.iload_n 2, 1) := by decide +kernel
theorem d_MMo_others_298 : decode b_MMo_others 298 = .ok (.iload 5, 2) := by decide +kernel
theorem d_MMo_others_300 : decode b_MMo_others 300 = .ok (.iload 4, 2) := by decide +kernel
theorem d_MMo_others_302 : decode b_MMo_others 302 = .ok (.invokevirtual 260, 3) := by decide +kernel
theorem d_MMo_others_305 : decode b_MMo_others 305 = .ok (.goto 99, 3) := by decide +kernel
theorem d_MMo_others_308 : decode b_MMo_others 308 = .ok (.iconst 0, 1) := by decide +kernel
theorem d_MMo_others_309 : decode b_MMo_others 309 = .ok (.istore 8, 2) := by decide +kernel
theorem d_MMo_others_311 : decode b_MMo_others 311 = .ok (.iload 8, 2) := by decide +kernel
theorem d_MMo_others_313 : decode b_MMo_others 313 = .ok (.iload_n 3, 1) := by decide +kernel
theorem d_MMo_others_314 : decode b_MMo_others 314 = .ok (.iload_n 2, 1) := by decide +kernel
theorem d_MMo_others_315 : decode b_MMo_others 315 = .ok (.isub, 1) := by decide +kernel
theorem d_MMo_others_316 : decode b_MMo_others 316 = .ok (.bipush 16, 2) := by decide +kernel
theorem d_MMo_others_318 : decode b_MMo_others 318 = .ok (.iadd, 1) := by decide +kernel
theorem d_MMo_others_319 : decode b_MMo_others 319 = .ok (.bipush 15, 2) := by decide +kernel
theorem d_MMo_others_321 : decode b_MMo_others 321 = .ok (.iand, 1) := by decide +kernel
theorem d_MMo_others_322 : decode b_MMo_others 322 = .ok (.if_icmp .gt 75, 3) := by decide +kernel
theorem d_MMo_others_325 : decode b_MMo_others 325 = .ok (.iload_n 2, 1) := by decide +kernel
theorem d_MMo_others_326 : decode b_MMo_others 326 = .ok (.iload 8, 2) := by decide +kernel
theorem d_MMo_others_328 : decode b_MMo_others 328 = .ok (.iadd, 1) := by decide +kernel
theorem d_MMo_others_329 : decode b_MMo_others 329 = .ok (.bipush 15, 2) := by decide +kernel
theorem d_MMo_others_331 : decode b_MMo_others 331 = .ok (.iand, 1) := by decide +kernel
theorem d_MMo_others_332 : decode b_MMo_others 332 = .ok (.istore 9, 2) := by decide +kernel
theorem d_MMo_others_334 : decode b_MMo_others 334 = .ok (.aload_n 0, 1) := by decide +kernel
theorem d_MMo_others_335 : decode b_MMo_others 335 = .ok (.getfield 132, 3) := by decide +kernel
theorem d_MMo_others_338 : decode b_MMo_others 338 = .ok (.sipush 144, 3) := by decide +kernel
theorem d_MMo_others_341 : decode b_MMo_others 341 = .ok (.if_icmp .ne 28, 3) := by decide +kernel
theorem d_MMo_others_344 : decode b_MMo_others 344 = .ok (.aload_n 0, 1) := by decide +kernel
theorem d_MMo_others_345 : decode b_MMo_others 345 = .ok (.aload_n 0, 1) := by decide +kernel
theorem d_MMo_others_346 : decode b_MMo_others 346 = .ok (.getfield 152, 3) := by decide +kernel
theorem d_MMo_others_349 : decode b_MMo_others 349 = .ok (.iconst 4, 1) := by decide +kernel
theorem d_MMo_others_350 : decode b_MMo_others 350 = .ok (.iload 8, 2) := by decide +kernel
theorem d_MMo_others_352 : decode b_MMo_others 352 = .ok (.imul, 1) := by decide +kernel
theorem d_MMo_others_353 : decode b_MMo_others 353 = .ok (.iadd, 1) := by decide +kernel
theorem d_MMo_others_354 : decode b_MMo_others 354 = .ok (.iconst 4, 1) := by decide +kernel
theorem d_MMo_others_355 : decode b_MMo_others 355 = .ok (.aload_n 0, 1) := by decide +kernel
theorem d_MMo_others_356 : decode b_MMo_others 356 = .ok (.getfield 13, 3) := by decide +kernel
theorem d_MMo_others_359 : decode b_MMo_others 359 = .ok (.iload 9, 2) := by decide +kernel
theorem d_MMo_others_361 : decode b_MMo_others 361 = .ok (.iaload, 1) := by decide +kernel
theorem d_MMo_others_362 : decode b_MMo_others 362 = .ok (.i2l, 1) := by decide +kernel
theorem d_MMo_others_363 : decode b_MMo_others 363 = .ok (.invokevirtual 57, 3) := by decide +kernel
theorem d_MMo_others_366 : decode b_MMo_others 366 = .ok (.goto 25, 3) := by decide +kernel
theorem d_MMo_others_369 : decode b_MMo_others 369 = .ok (.aload_n 0, 1) := by decide +kernel
theorem d_MMo_others_370 : decode b_MMo_others 370 = .ok (.getfield 13, 3) := by decide +kernel
theorem d_MMo_others_373 : decode b_MMo_others 373 = .ok (.iload 9, 2) := by decide +kernel
theorem d_MMo_others_375 : decode b_MMo_others 375 = .ok (.aload_n 0, 1) := by decide +kernel
theorem d_MMo_others_376 : decode b_MMo_others 376 = .ok (.aload_n 0, 1) := by decide +kernel
theorem d_MMo_others_377 : decode b_MMo_others 377 = .ok (.getfield 152, 3) := by decide +kernel
theorem d_MMo_others_380 : decode b_MMo_others 380 = .ok (.iconst 4, 1) := by decide +kernel
theorem d_MMo_others_381 : decode b_MMo_others 381 = .ok (.iload 8, 2) := by decide +kernel
theorem d_MMo_others_383 : decode b_MMo_others 383 = .ok (.imul, 1) := by decide +kernel
theorem d_MMo_others_384 : decode b_MMo_others 384 = .ok (.iadd, 1) := by decide +kernel
theorem d_MMo_others_385 : decode b_MMo_others 385 = .ok (.iconst 4, 1) := by decide +kernel
theorem d_MMo_others_386 : decode b_MMo_others 386 = .ok (.invokevirtual 89, 3) := by decide +kernel
theorem d_MMo_others_389 : decode b_MMo_others 389 = .ok (.l2i, 1) := by decide +kernel
theorem d_MMo_others_390 : decode b_MMo_others 390 = .ok (.iastore, 1) := by decide +kernel
theorem d_MMo_others_391 : decode b_MMo_others 391 = .ok (.iinc 8 1, 3) := by decide +kernel
theorem d_MMo_others_394 : decode b_MMo_others 394 = .ok (.goto (-83), 3) := by decide +kernel
theorem d_MMo_others_397 : decode b_MMo_others 397 = .ok (.goto 7, 3) := by decide +kernel
theorem d_MMo_others_400 : decode b_MMo_others 400 = .ok (.aload_n 0, 1) := by decide +kernel
theorem d_MMo_others_401 : decode b_MMo_others 401 = .ok (.invokevirtual 263, 3) := by decide +kernel
theorem d_MMo_others_404 : decode b_MMo_others 404 = .ok (.return_, 1) := by decide +kernel
theorem d_MMo_acts_0 : decode b_MMo_acts 0 = .ok (.aload_n 0, 1) := by decide +kernel
theorem d_MMo_acts_1 : decode b_MMo_acts 1 = .ok (.getfield 67, 3) := by decide +kernel
theorem d_MMo_acts_4 : decode b_MMo_acts 4 = .ok (.aload_n 0, 1) := by decide +kernel
theorem d_MMo_acts_5 : decode b_MMo_acts 5 = .ok (.getfield 135, 3) := by decide +kernel
theorem d_MMo_acts_8 : decode b_MMo_acts 8 = .ok (.iadd, 1) := by decide +kernel
theorem d_MMo_acts_9 : decode b_MMo_acts 9 = .ok (.ldc 93, 2) := by decide +kernel
theorem d_MMo_acts_11 : decode b_MMo_acts 11 = .ok (.iand, 1) := by decide +kernel
theorem d_MMo_acts_12 : decode b_MMo_acts 12 = .ok (.istore_n 1, 1) := by decide +kernel
theorem d_MMo_acts_13 : decode b_MMo_acts 13 = .ok (.aload_n 0, 1) := by decide +kernel
theorem d_MMo_acts_14 : decode b_MMo_acts 14 = .ok (.getfield 132, 3) := by decide +kernel
theorem d_MMo_acts_17 : decode b_MMo_acts 17 = .ok (.bipush 64, 2) := by decide +kernel
theorem d_MMo_acts_19 : decode b_MMo_acts 19 = .ok (.if_icmp .ge 11, 3) := by decide +kernel
theorem d_MMo_acts_22 : decode b_MMo_acts 22 = .ok (.aload_n 0, 1) := by decide +kernel
theorem d_MMo_acts_23 : decode b_MMo_acts 23 = .ok (.iload_n 1, 1) := by decide +kernel
theorem d_MMo_acts_24 : decode b_MMo_acts 24 = .ok (.invokevirtual 268, 3) := by decide +kernel
theorem d_MMo_acts_27 : decode b_MMo_acts 27 = .ok (.goto 82, 3) := by decide +kernel
theorem d_MMo_acts_30 : decode b_MMo_acts 30 = .ok (.aload_n 0, 1) := by decide +kernel
theorem d_MMo_acts_31 : decode b_MMo_acts 31 = .ok (.getfield 132, 3) := by decide +kernel
theorem d_MMo_acts_34 : decode b_MMo_acts 34 = .ok (.sipush 128, 3) := by decide +kernel
theorem d_MMo_acts_37 : decode b_MMo_acts 37 = .ok (.if_icmp .ge 11, 3) := by decide +kernel
theorem d_MMo_acts_40 : decode b_MMo_acts 40 = .ok (.aload_n 0, 1) := by decide +kernel
theorem d_MMo_acts_41 : decode b_MMo_acts 41 = .ok (.iload_n 1, 1) := by decide +kernel
theorem d_MMo_acts_42 : decode b_MMo_acts 42 = .ok (.invokevirtual 272, 3) := by decide +kernel
theorem d_MMo_acts_45 : decode b_MMo_acts 45 = .ok (.goto 64, 3) := by decide +kernel
theorem d_MMo_acts_48 : decode b_MMo_acts 48 = .ok (.aload_n 0, 1) := by decide +kernel
theorem d_MMo_acts_49 : decode b_MMo_acts 49 = .ok (.getfield 132, 3) := by decide +kernel
theorem d_MMo_acts_52 : decode b_MMo_acts 52 = .ok (.sipush 192, 3) := by decide +kernel
theorem d_MMo_acts_55 : decode b_MMo_acts 55 = .ok (.if_icmp .ge 11, 3) := by decide +kernel
theorem d_MMo_acts_58 : decode b_MMo_acts 58 = .ok (.aload_n 0, 1) := by decide +kernel
theorem d_MMo_acts_59 : decode b_MMo_acts 59 = .ok (.iload_n 1, 1) := by decide +kernel
theorem d_MMo_acts_60 : decode b_MMo_acts 60 = .ok (.invokevirtual 275, 3) := by decide +kernel
theorem d_MMo_acts_63 : decode b_MMo_acts 63 = .ok (.goto 46, 3) := by decide +kernel
theorem d_MMo_acts_66 : decode b_MMo_acts 66 = .ok (.aload_n 0, 1) := by decide +kernel
theorem d_MMo_acts_67 : decode b_MMo_acts 67 = .ok (.iload_n 1, 1) := by decide +kernel
theorem d_MMo_acts_68 : decode b_MMo_acts 68 = .ok (.putfield 67, 3) := by decide +kernel
theorem d_MMo_acts_71 : decode b_MMo_acts 71 = .ok (.aload_n 0, 1) := by decide +kernel
theorem d_MMo_acts_72 : decode b_MMo_acts 72 = .ok (.getfield 132, 3) := by decide +kernel
theorem d_MMo_acts_75 : decode b_MMo_acts 75 = .ok (.sipush 240, 3) := by decide +kernel
theorem d_MMo_acts_78 : decode b_MMo_acts 78 = .ok (.if_icmp .ge 10, 3) := by decide +kernel
theorem d_MMo_acts_81 : decode b_MMo_acts 81 = .ok (.aload_n 0, 1) := by decide +kernel
theorem d_MMo_acts_82 : decode b_MMo_acts 82 = .ok (.invokevirtual 278, 3) := by decide +kernel
theorem d_MMo_acts_85 : decode b_MMo_acts 85 = .ok (.goto 24, 3) := by decide +kernel
theorem d_MMo_acts_88 : decode b_MMo_acts 88 = .ok (.aload_n 0, 1) := by decide +kernel
theorem d_MMo_acts_89 : decode b_MMo_acts 89 = .ok (.getfield 132, 3) := by decide +kernel
theorem d_MMo_acts_92 : decode b_MMo_acts 92 = .ok (.sipush 244, 3) := by decide +kernel
theorem d_MMo_acts_95 : decode b_MMo_acts 95 = .ok (.if_icmp .ge 10, 3) := by decide +kernel
theorem d_MMo_acts_98 : decode b_MMo_acts 98 = .ok (.aload_n 0, 1) := by decide +kernel
theorem d_MMo_acts_99 : decode b_MMo_acts 99 = .ok (.invokevirtual 281, 3) := by decide +kernel
theorem d_MMo_acts_102 : decode b_MMo_acts 102 = .ok (.goto 7, 3) := by decide +kernel
theorem d_MMo_acts_105 : decode b_MMo_acts 105 = .ok (.aload_n 0, 1) := by decide +kernel
theorem d_MMo_acts_106 : decode b_MMo_acts 106 = .ok (.invokevirtual 284, 3) := by decide +kernel
theorem d_MMo_acts_109 : decode b_MMo_acts 109 = .ok (.return_, 1) := by decide +kernel
theorem d_MMo_run_0 : decode b_MMo_run 0 = .ok (.aload_n 0, 1) := by decide +kernel
theorem d_MMo_run_1 : decode b_MMo_run 1 = .ok (.iconst 0, 1) := by decide +kernel
theorem d_MMo_run_2 : decode b_MMo_run 2 = .ok (.putfield 38, 3) := by decide +kernel
theorem d_MMo_run_5 : decode b_MMo_run 5 = .ok (.aload_n 0, 1) := by decide +kernel
theorem d_MMo_run_6 : decode b_MMo_run 6 = .ok (.aload_n 0, 1) := by decide +kernel
theorem d_MMo_run_7 : decode b_MMo_run 7 = .ok (.getfield 34, 3) := by decide +kernel
theorem d_MMo_run_10 : decode b_MMo_run 10 = .ok (.ifCond .lt 7, 3) := by decide +kernel
theorem d_MMo_run_13 : decode b_MMo_run 13 = .ok (.iconst 1, 1) := by decide +kernel
theorem d_MMo_run_14 : decode b_MMo_run 14 = .ok (.goto 4, 3) := by decide +kernel
theorem d_MMo_run_17 : decode b_MMo_run 17 = .ok (.iconst 0, 1) := by decide +kernel
theorem d_MMo_run_18 : decode b_MMo_run 18 = .ok (.iconst 1, 1) := by decide +kernel
theorem d_MMo_run_19 : decode b_MMo_run 19 = .ok (.invokevirtual 49, 3) := by decide +kernel
theorem d_MMo_run_22 : decode b_MMo_run 22 = .ok (.ifCond .ne 28, 3) := by decide +kernel
theorem d_MMo_run_25 : decode b_MMo_run 25 = .ok (.aload_n 0, 1) := by decide +kernel
theorem d_MMo_run_26 : decode b_MMo_run 26 = .ok (.iload_n 1, 1) := by decide +kernel
theorem d_MMo_run_27 : decode b_MMo_run 27 = .ok (.i2l, 1) := by decide +kernel
theorem d_MMo_run_28 : decode b_MMo_run 28 = .ok (.lconst 1, 1) := by decide +kernel
theorem d_MMo_run_29 : decode b_MMo_run 29 = .ok (.ldc2_w 287, 3) := by decide +kernel
theorem d_MMo_run_32 : decode b_MMo_run 32 = .ok (.invokestatic 41, 3) := by decide +kernel
theorem d_MMo_run_35 : decode b_MMo_run 35 = .ok (.ifCond .ne 7, 3) := by decide +kernel
theorem d_MMo_run_38 : decode b_MMo_run 38 = .ok (.iconst 1, 1) := by decide +kernel
theorem d_MMo_run_39 : decode b_MMo_run 39 = .ok (.goto 4, 3) := by decide +kernel
theorem d_MMo_run_42 : decode b_MMo_run 42 = .ok (.iconst 0, 1) := by decide +kernel
theorem d_MMo_run_43 : decode b_MMo_run 43 = .ok (.iconst 2, 1) := by decide +kernel
theorem d_MMo_run_44 : decode b_MMo_run 44 = .ok (.invokevirtual 49, 3) := by decide +kernel
theorem d_MMo_run_47 : decode b_MMo_run 47 = .ok (.ifCond .eq 5, 3) := by decide +kernel
theorem d_MMo_run_50 : decode b_MMo_run 50 = .ok (.iconst 0, 1) := by decide +kernel
theorem d_MMo_run_51 : decode b_MMo_run 51 = .ok (.ireturn, 1) := by decide +kernel
theorem d_MMo_run_52 : decode b_MMo_run 52 = .ok (.iconst 0, 1) := by decide +kernel
theorem d_MMo_run_53 : decode b_MMo_run 53 = .ok (.istore_n 2, 1) := by decide +kernel
theorem d_MMo_run_54 : decode b_MMo_run 54 = .ok (.iload_n 2, 1) := by decide +kernel
theorem d_MMo_run_55 : decode b_MMo_run 55 = .ok (.iload_n 1, 1) := by decide +kernel
theorem d_MMo_run_56 : decode b_MMo_run 56 = .ok (.if_icmp .ge 111, 3) := by decide +kernel
theorem d_MMo_run_59 : decode b_MMo_run 59 = .ok (.aload_n 0, 1) := by decide +kernel
theorem d_MMo_run_60 : decode b_MMo_run 60 = .ok (.getfield 34, 3) := by decide +kernel
theorem d_MMo_run_63 : decode b_MMo_run 63 = .ok (.ifCond .ge 104, 3) := by decide +kernel
theorem d_MMo_run_66 : decode b_MMo_run 66 = .ok (.aload_n 0, 1) := by decide +kernel
theorem d_MMo_run_67 : decode b_MMo_run 67 = .ok (.invokevirtual 289, 3) := by decide +kernel
theorem d_MMo_run_70 : decode b_MMo_run 70 = .ok (.aload_n 0, 1) := by decide +kernel
theorem d_MMo_run_71 : decode b_MMo_run 71 = .ok (.getfield 86, 3) := by decide +kernel
theorem d_MMo_run_74 : decode b_MMo_run 74 = .ok (.ifCond .ne 7, 3) := by decide +kernel
theorem d_MMo_run_77 : decode b_MMo_run 77 = .ok (.aload_n 0, 1) := by decide +kernel
theorem d_MMo_run_78 : decode b_MMo_run 78 = .ok (.invokevirtual 292, 3) := by decide +kernel
theorem d_MMo_run_81 : decode b_MMo_run 81 = .ok (.aload_n 0, 1) := by decide +kernel
theorem d_MMo_run_82 : decode b_MMo_run 82 = .ok (.getfield 86, 3) := by decide +kernel
theorem d_MMo_run_85 : decode b_MMo_run 85 = .ok (.ifCond .ne 20, 3) := by decide +kernel
theorem d_MMo_run_88 : decode b_MMo_run 88 = .ok (.aload_n 0, 1) := by decide +kernel
theorem d_MMo_run_89 : decode b_MMo_run 89 = .ok (.invokevirtual 295, 3) := by decide +kernel
theorem d_MMo_run_92 : decode b_MMo_run 92 = .ok (.aload_n 0, 1) := by decide +kernel
theorem d_MMo_run_93 : decode b_MMo_run 93 = .ok (.dup, 1) := by decide +kernel
theorem d_MMo_run_94 : decode b_MMo_run 94 = .ok (.getfield 298, 3) := by decide +kernel
theorem d_MMo_run_97 : decode b_MMo_run 97 = .ok (.iconst 1, 1) := by decide +kernel
theorem d_MMo_run_98 : decode b_MMo_run 98 = .ok (.iadd, 1) := by decide +kernel
theorem d_MMo_run_99 : decode b_MMo_run 99 = .ok (.putfield 298, 3) := by decide +kernel
theorem d_MMo_run_102 : decode b_MMo_run 102 = .ok (.iinc 2 1, 3) := by decide +kernel
theorem d_MMo_run_105 : decode b_MMo_run 105 = .ok (.aload_n 0, 1) := by decide +kernel
