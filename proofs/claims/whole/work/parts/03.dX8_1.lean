theorem dX8_isThere_0 : decode cX8_isThere 0 = .ok (.aload_n 0, 1) := by decide +kernel
theorem dX8_isThere_1 : decode cX8_isThere 1 = .ok (.getfield 19, 3) := by decide +kernel
theorem dX8_isThere_4 : decode cX8_isThere 4 = .ok (.iconst 0, 1) := by decide +kernel
theorem dX8_isThere_5 : decode cX8_isThere 5 = .ok (.iaload, 1) := by decide +kernel
theorem dX8_isThere_6 : decode cX8_isThere 6 = .ok (.ifCond .le 7, 3) := by decide +kernel
theorem dX8_isThere_9 : decode cX8_isThere 9 = .ok (.iconst 1, 1) := by decide +kernel
theorem dX8_isThere_10 : decode cX8_isThere 10 = .ok (.goto 4, 3) := by decide +kernel
theorem dX8_isThere_13 : decode cX8_isThere 13 = .ok (.iconst 0, 1) := by decide +kernel
theorem dX8_isThere_14 : decode cX8_isThere 14 = .ok (.ireturn, 1) := by decide +kernel
theorem dX8_isJar_0 : decode cX8_isJar 0 = .ok (.iload_n 1, 1) := by decide +kernel
theorem dX8_isJar_1 : decode cX8_isJar 1 = .ok (.i2l, 1) := by decide +kernel
theorem dX8_isJar_2 : decode cX8_isJar 2 = .ok (.lconst 0, 1) := by decide +kernel
theorem dX8_isJar_3 : decode cX8_isJar 3 = .ok (.aload_n 0, 1) := by decide +kernel
theorem dX8_isJar_4 : decode cX8_isJar 4 = .ok (.getfield 19, 3) := by decide +kernel
theorem dX8_isJar_7 : decode cX8_isJar 7 = .ok (.iconst 0, 1) := by decide +kernel
theorem dX8_isJar_8 : decode cX8_isJar 8 = .ok (.iaload, 1) := by decide +kernel
theorem dX8_isJar_9 : decode cX8_isJar 9 = .ok (.iconst 1, 1) := by decide +kernel
theorem dX8_isJar_10 : decode cX8_isJar 10 = .ok (.isub, 1) := by decide +kernel
theorem dX8_isJar_11 : decode cX8_isJar 11 = .ok (.i2l, 1) := by decide +kernel
theorem dX8_isJar_12 : decode cX8_isJar 12 = .ok (.invokestatic 60, 3) := by decide +kernel
theorem dX8_isJar_15 : decode cX8_isJar 15 = .ok (.ireturn, 1) := by decide +kernel
theorem dX8_isNote_0 : decode cX8_isNote 0 = .ok (.lload_n 0, 1) := by decide +kernel
theorem dX8_isNote_1 : decode cX8_isNote 1 = .ok (.lconst 0, 1) := by decide +kernel
theorem dX8_isNote_2 : decode cX8_isNote 2 = .ok (.ldc2_w 152, 3) := by decide +kernel
theorem dX8_isNote_5 : decode cX8_isNote 5 = .ok (.invokestatic 60, 3) := by decide +kernel
theorem dX8_isNote_8 : decode cX8_isNote 8 = .ok (.ireturn, 1) := by decide +kernel
theorem dX8_bits_0 : decode cX8_bits 0 = .ok (.iconst 0, 1) := by decide +kernel
theorem dX8_bits_1 : decode cX8_bits 1 = .ok (.istore_n 1, 1) := by decide +kernel
theorem dX8_bits_2 : decode cX8_bits 2 = .ok (.iconst 0, 1) := by decide +kernel
theorem dX8_bits_3 : decode cX8_bits 3 = .ok (.istore_n 2, 1) := by decide +kernel
theorem dX8_bits_4 : decode cX8_bits 4 = .ok (.iload_n 2, 1) := by decide +kernel
theorem dX8_bits_5 : decode cX8_bits 5 = .ok (.bipush 8, 2) := by decide +kernel
theorem dX8_bits_7 : decode cX8_bits 7 = .ok (.if_icmp .ge 17, 3) := by decide +kernel
theorem dX8_bits_10 : decode cX8_bits 10 = .ok (.iload_n 1, 1) := by decide +kernel
theorem dX8_bits_11 : decode cX8_bits 11 = .ok (.iload_n 0, 1) := by decide +kernel
theorem dX8_bits_12 : decode cX8_bits 12 = .ok (.iload_n 2, 1) := by decide +kernel
theorem dX8_bits_13 : decode cX8_bits 13 = .ok (.ishr, 1) := by decide +kernel
theorem dX8_bits_14 : decode cX8_bits 14 = .ok (.iconst 1, 1) := by decide +kernel
theorem dX8_bits_15 : decode cX8_bits 15 = .ok (.iand, 1) := by decide +kernel
theorem dX8_bits_16 : decode cX8_bits 16 = .ok (.iadd, 1) := by decide +kernel
theorem dX8_bits_17 : decode cX8_bits 17 = .ok (.istore_n 1, 1) := by decide +kernel
theorem dX8_bits_18 : decode cX8_bits 18 = .ok (.iinc 2 1, 3) := by decide +kernel
theorem dX8_bits_21 : decode cX8_bits 21 = .ok (.goto (-17), 3) := by decide +kernel
theorem dX8_bits_24 : decode cX8_bits 24 = .ok (.iload_n 1, 1) := by decide +kernel
theorem dX8_bits_25 : decode cX8_bits 25 = .ok (.ireturn, 1) := by decide +kernel
theorem dX8_has_0 : decode cX8_has 0 = .ok (.iload_n 0, 1) := by decide +kernel
theorem dX8_has_1 : decode cX8_has 1 = .ok (.iload_n 1, 1) := by decide +kernel
theorem dX8_has_2 : decode cX8_has 2 = .ok (.ishr, 1) := by decide +kernel
theorem dX8_has_3 : decode cX8_has 3 = .ok (.iconst 1, 1) := by decide +kernel
theorem dX8_has_4 : decode cX8_has 4 = .ok (.iand, 1) := by decide +kernel
theorem dX8_has_5 : decode cX8_has 5 = .ok (.iconst 1, 1) := by decide +kernel
theorem dX8_has_6 : decode cX8_has 6 = .ok (.if_icmp .ne 7, 3) := by decide +kernel
theorem dX8_has_9 : decode cX8_has 9 = .ok (.iconst 1, 1) := by decide +kernel
theorem dX8_has_10 : decode cX8_has 10 = .ok (.goto 4, 3) := by decide +kernel
theorem dX8_has_13 : decode cX8_has 13 = .ok (.iconst 0, 1) := by decide +kernel
theorem dX8_has_14 : decode cX8_has 14 = .ok (.ireturn, 1) := by decide +kernel
theorem dX8_of_0 : decode cX8_of 0 = .ok (.aload_n 0, 1) := by decide +kernel
theorem dX8_of_1 : decode cX8_of 1 = .ok (.iconst 3, 1) := by decide +kernel
theorem dX8_of_2 : decode cX8_of 2 = .ok (.iconst 5, 1) := by decide +kernel
theorem dX8_of_3 : decode cX8_of 3 = .ok (.iload_n 1, 1) := by decide +kernel
theorem dX8_of_4 : decode cX8_of 4 = .ok (.imul, 1) := by decide +kernel
theorem dX8_of_5 : decode cX8_of 5 = .ok (.iadd, 1) := by decide +kernel
theorem dX8_of_6 : decode cX8_of 6 = .ok (.iload_n 2, 1) := by decide +kernel
theorem dX8_of_7 : decode cX8_of 7 = .ok (.iadd, 1) := by decide +kernel
theorem dX8_of_8 : decode cX8_of 8 = .ok (.iaload, 1) := by decide +kernel
theorem dX8_of_9 : decode cX8_of 9 = .ok (.ireturn, 1) := by decide +kernel
theorem dX8_be_0 : decode cX8_be 0 = .ok (.aload_n 0, 1) := by decide +kernel
theorem dX8_be_1 : decode cX8_be 1 = .ok (.iconst 3, 1) := by decide +kernel
theorem dX8_be_2 : decode cX8_be 2 = .ok (.iconst 5, 1) := by decide +kernel
theorem dX8_be_3 : decode cX8_be 3 = .ok (.iload_n 1, 1) := by decide +kernel
theorem dX8_be_4 : decode cX8_be 4 = .ok (.imul, 1) := by decide +kernel
theorem dX8_be_5 : decode cX8_be 5 = .ok (.iadd, 1) := by decide +kernel
theorem dX8_be_6 : decode cX8_be 6 = .ok (.iload_n 2, 1) := by decide +kernel
theorem dX8_be_7 : decode cX8_be 7 = .ok (.iadd, 1) := by decide +kernel
theorem dX8_be_8 : decode cX8_be 8 = .ok (.iload_n 3, 1) := by decide +kernel
theorem dX8_be_9 : decode cX8_be 9 = .ok (.iastore, 1) := by decide +kernel
theorem dX8_be_10 : decode cX8_be 10 = .ok (.return_, 1) := by decide +kernel
theorem dX8_those_0 : decode cX8_those 0 = .ok (.iconst 0, 1) := by decide +kernel
theorem dX8_those_1 : decode cX8_those 1 = .ok (.istore_n 2, 1) := by decide +kernel
theorem dX8_those_2 : decode cX8_those 2 = .ok (.iconst 0, 1) := by decide +kernel
theorem dX8_those_3 : decode cX8_those 3 = .ok (.istore_n 3, 1) := by decide +kernel
theorem dX8_those_4 : decode cX8_those 4 = .ok (.iload_n 3, 1) := by decide +kernel
theorem dX8_those_5 : decode cX8_those 5 = .ok (.aload_n 0, 1) := by decide +kernel
theorem dX8_those_6 : decode cX8_those 6 = .ok (.iconst 0, 1) := by decide +kernel
theorem dX8_those_7 : decode cX8_those 7 = .ok (.iaload, 1) := by decide +kernel
theorem dX8_those_8 : decode cX8_those 8 = .ok (.if_icmp .ge 29, 3) := by decide +kernel
theorem dX8_those_11 : decode cX8_those 11 = .ok (.iload_n 2, 1) := by decide +kernel
theorem dX8_those_12 : decode cX8_those 12 = .ok (.aload_n 0, 1) := by decide +kernel
theorem dX8_those_13 : decode cX8_those 13 = .ok (.iload_n 3, 1) := by decide +kernel
theorem dX8_those_14 : decode cX8_those 14 = .ok (.iconst 4, 1) := by decide +kernel
theorem dX8_those_15 : decode cX8_those 15 = .ok (.invokestatic 154, 3) := by decide +kernel
theorem dX8_those_18 : decode cX8_those 18 = .ok (.iload_n 1, 1) := by decide +kernel
theorem dX8_those_19 : decode cX8_those 19 = .ok (.if_icmp .ne 9, 3) := by decide +kernel
theorem dX8_those_22 : decode cX8_those 22 = .ok (.iconst 1, 1) := by decide +kernel
theorem dX8_those_23 : decode cX8_those 23 = .ok (.iload_n 3, 1) := by decide +kernel
theorem dX8_those_24 : decode cX8_those 24 = .ok (.ishl, 1) := by decide +kernel
theorem dX8_those_25 : decode cX8_those 25 = .ok (.goto 4, 3) := by decide +kernel
theorem dX8_those_28 : decode cX8_those 28 = .ok (.iconst 0, 1) := by decide +kernel
theorem dX8_those_29 : decode cX8_those 29 = .ok (.ior, 1) := by decide +kernel
theorem dX8_those_30 : decode cX8_those 30 = .ok (.istore_n 2, 1) := by decide +kernel
theorem dX8_those_31 : decode cX8_those 31 = .ok (.iinc 3 1, 3) := by decide +kernel
theorem dX8_those_34 : decode cX8_those 34 = .ok (.goto (-30), 3) := by decide +kernel
theorem dX8_those_37 : decode cX8_those 37 = .ok (.iload_n 2, 1) := by decide +kernel
theorem dX8_those_38 : decode cX8_those 38 = .ok (.ireturn, 1) := by decide +kernel
theorem dX8_apart_0 : decode cX8_apart 0 = .ok (.iload_n 0, 1) := by decide +kernel
theorem dX8_apart_1 : decode cX8_apart 1 = .ok (.iload_n 1, 1) := by decide +kernel
theorem dX8_apart_2 : decode cX8_apart 2 = .ok (.if_icmp .le 9, 3) := by decide +kernel
theorem dX8_apart_5 : decode cX8_apart 5 = .ok (.iload_n 0, 1) := by decide +kernel
theorem dX8_apart_6 : decode cX8_apart 6 = .ok (.iload_n 1, 1) := by decide +kernel
theorem dX8_apart_7 : decode cX8_apart 7 = .ok (.isub, 1) := by decide +kernel
theorem dX8_apart_8 : decode cX8_apart 8 = .ok (.goto 6, 3) := by decide +kernel
theorem dX8_apart_11 : decode cX8_apart 11 = .ok (.iload_n 1, 1) := by decide +kernel
theorem dX8_apart_12 : decode cX8_apart 12 = .ok (.iload_n 0, 1) := by decide +kernel
theorem dX8_apart_13 : decode cX8_apart 13 = .ok (.isub, 1) := by decide +kernel
theorem dX8_apart_14 : decode cX8_apart 14 = .ok (.istore_n 2, 1) := by decide +kernel
theorem dX8_apart_15 : decode cX8_apart 15 = .ok (.iload_n 2, 1) := by decide +kernel
theorem dX8_apart_16 : decode cX8_apart 16 = .ok (.bipush 6, 2) := by decide +kernel
theorem dX8_apart_18 : decode cX8_apart 18 = .ok (.if_icmp .le 10, 3) := by decide +kernel
theorem dX8_apart_21 : decode cX8_apart 21 = .ok (.bipush 12, 2) := by decide +kernel
theorem dX8_apart_23 : decode cX8_apart 23 = .ok (.iload_n 2, 1) := by decide +kernel
theorem dX8_apart_24 : decode cX8_apart 24 = .ok (.isub, 1) := by decide +kernel
theorem dX8_apart_25 : decode cX8_apart 25 = .ok (.goto 4, 3) := by decide +kernel
theorem dX8_apart_28 : decode cX8_apart 28 = .ok (.iload_n 2, 1) := by decide +kernel
theorem dX8_apart_29 : decode cX8_apart 29 = .ok (.ireturn, 1) := by decide +kernel
theorem dX8_gap_0 : decode cX8_gap 0 = .ok (.iload_n 0, 1) := by decide +kernel
theorem dX8_gap_1 : decode cX8_gap 1 = .ok (.iload_n 1, 1) := by decide +kernel
theorem dX8_gap_2 : decode cX8_gap 2 = .ok (.if_icmp .le 9, 3) := by decide +kernel
theorem dX8_gap_5 : decode cX8_gap 5 = .ok (.iload_n 0, 1) := by decide +kernel
theorem dX8_gap_6 : decode cX8_gap 6 = .ok (.iload_n 1, 1) := by decide +kernel
theorem dX8_gap_7 : decode cX8_gap 7 = .ok (.isub, 1) := by decide +kernel
theorem dX8_gap_8 : decode cX8_gap 8 = .ok (.goto 6, 3) := by decide +kernel
theorem dX8_gap_11 : decode cX8_gap 11 = .ok (.iload_n 1, 1) := by decide +kernel
theorem dX8_gap_12 : decode cX8_gap 12 = .ok (.iload_n 0, 1) := by decide +kernel
theorem dX8_gap_13 : decode cX8_gap 13 = .ok (.isub, 1) := by decide +kernel
theorem dX8_gap_14 : decode cX8_gap 14 = .ok (.ireturn, 1) := by decide +kernel
theorem dX8_setsOff_0 : decode cX8_setsOff 0 = .ok (.iconst 0, 1) := by decide +kernel
theorem dX8_setsOff_1 : decode cX8_setsOff 1 = .ok (.istore_n 3, 1) := by decide +kernel
theorem dX8_setsOff_2 : decode cX8_setsOff 2 = .ok (.iconst 0, 1) := by decide +kernel
theorem dX8_setsOff_3 : decode cX8_setsOff 3 = .ok (.istore 4, 2) := by decide +kernel
theorem dX8_setsOff_5 : decode cX8_setsOff 5 = .ok (.iconst 0, 1) := by decide +kernel
theorem dX8_setsOff_6 : decode cX8_setsOff 6 = .ok (.istore 5, 2) := by decide +kernel
theorem dX8_setsOff_8 : decode cX8_setsOff 8 = .ok (.iconst 0, 1) := by decide +kernel
theorem dX8_setsOff_9 : decode cX8_setsOff 9 = .ok (.istore 6, 2) := by decide +kernel
theorem dX8_setsOff_11 : decode cX8_setsOff 11 = .ok (.iconst 0, 1) := by decide +kernel
theorem dX8_setsOff_12 : decode cX8_setsOff 12 = .ok (.istore 7, 2) := by decide +kernel
theorem dX8_setsOff_14 : decode cX8_setsOff 14 = .ok (.iload 7, 2) := by decide +kernel
theorem dX8_setsOff_16 : decode cX8_setsOff 16 = .ok (.aload_n 1, 1) := by decide +kernel
theorem dX8_setsOff_17 : decode cX8_setsOff 17 = .ok (.iconst 0, 1) := by decide +kernel
theorem dX8_setsOff_18 : decode cX8_setsOff 18 = .ok (.iaload, 1) := by decide +kernel
theorem dX8_setsOff_19 : decode cX8_setsOff 19 = .ok (.if_icmp .ge 118, 3) := by decide +kernel
theorem dX8_setsOff_22 : decode cX8_setsOff 22 = .ok (.aload_n 0, 1) := by decide +kernel
theorem dX8_setsOff_23 : decode cX8_setsOff 23 = .ok (.getfield 34, 3) := by decide +kernel
theorem dX8_setsOff_26 : decode cX8_setsOff 26 = .ok (.iload 7, 2) := by decide +kernel
theorem dX8_setsOff_28 : decode cX8_setsOff 28 = .ok (.iaload, 1) := by decide +kernel
theorem dX8_setsOff_29 : decode cX8_setsOff 29 = .ok (.ldc 93, 2) := by decide +kernel
theorem dX8_setsOff_31 : decode cX8_setsOff 31 = .ok (.if_icmp .eq 100, 3) := by decide +kernel
theorem dX8_setsOff_34 : decode cX8_setsOff 34 = .ok (.iload 7, 2) := by decide +kernel
theorem dX8_setsOff_36 : decode cX8_setsOff 36 = .ok (.aload_n 1, 1) := by decide +kernel
theorem dX8_setsOff_37 : decode cX8_setsOff 37 = .ok (.iload_n 2, 1) := by decide +kernel
theorem dX8_setsOff_38 : decode cX8_setsOff 38 = .ok (.iconst 3, 1) := by decide +kernel
theorem dX8_setsOff_39 : decode cX8_setsOff 39 = .ok (.invokestatic 154, 3) := by decide +kernel
theorem dX8_setsOff_42 : decode cX8_setsOff 42 = .ok (.invokestatic 158, 3) := by decide +kernel
theorem dX8_setsOff_45 : decode cX8_setsOff 45 = .ok (.aload_n 1, 1) := by decide +kernel
theorem dX8_setsOff_46 : decode cX8_setsOff 46 = .ok (.iconst 2, 1) := by decide +kernel
theorem dX8_setsOff_47 : decode cX8_setsOff 47 = .ok (.iaload, 1) := by decide +kernel
theorem dX8_setsOff_48 : decode cX8_setsOff 48 = .ok (.if_icmp .gt 83, 3) := by decide +kernel
theorem dX8_setsOff_51 : decode cX8_setsOff 51 = .ok (.aload_n 0, 1) := by decide +kernel
theorem dX8_setsOff_52 : decode cX8_setsOff 52 = .ok (.getfield 34, 3) := by decide +kernel
theorem dX8_setsOff_55 : decode cX8_setsOff 55 = .ok (.iload 7, 2) := by decide +kernel
theorem dX8_setsOff_57 : decode cX8_setsOff 57 = .ok (.iaload, 1) := by decide +kernel
theorem dX8_setsOff_58 : decode cX8_setsOff 58 = .ok (.aload_n 1, 1) := by decide +kernel
theorem dX8_setsOff_59 : decode cX8_setsOff 59 = .ok (.iload_n 2, 1) := by decide +kernel
theorem dX8_setsOff_60 : decode cX8_setsOff 60 = .ok (.iconst 1, 1) := by decide +kernel
theorem dX8_setsOff_61 : decode cX8_setsOff 61 = .ok (.invokestatic 154, 3) := by decide +kernel
theorem dX8_setsOff_64 : decode cX8_setsOff 64 = .ok (.invokestatic 161, 3) := by decide +kernel
theorem dX8_setsOff_67 : decode cX8_setsOff 67 = .ok (.istore 8, 2) := by decide +kernel
theorem dX8_setsOff_69 : decode cX8_setsOff 69 = .ok (.iload_n 3, 1) := by decide +kernel
theorem dX8_setsOff_70 : decode cX8_setsOff 70 = .ok (.iload 8, 2) := by decide +kernel
theorem dX8_setsOff_72 : decode cX8_setsOff 72 = .ok (.ifCond .ne 7, 3) := by decide +kernel
theorem dX8_setsOff_75 : decode cX8_setsOff 75 = .ok (.iconst 1, 1) := by decide +kernel
theorem dX8_setsOff_76 : decode cX8_setsOff 76 = .ok (.goto 4, 3) := by decide +kernel
theorem dX8_setsOff_79 : decode cX8_setsOff 79 = .ok (.iconst 0, 1) := by decide +kernel
theorem dX8_setsOff_80 : decode cX8_setsOff 80 = .ok (.iadd, 1) := by decide +kernel
theorem dX8_setsOff_81 : decode cX8_setsOff 81 = .ok (.istore_n 3, 1) := by decide +kernel
theorem dX8_setsOff_82 : decode cX8_setsOff 82 = .ok (.iload 4, 2) := by decide +kernel
theorem dX8_setsOff_84 : decode cX8_setsOff 84 = .ok (.iload 8, 2) := by decide +kernel
theorem dX8_setsOff_86 : decode cX8_setsOff 86 = .ok (.iconst 1, 1) := by decide +kernel
theorem dX8_setsOff_87 : decode cX8_setsOff 87 = .ok (.if_icmp .gt 7, 3) := by decide +kernel
theorem dX8_setsOff_90 : decode cX8_setsOff 90 = .ok (.iconst 1, 1) := by decide +kernel
theorem dX8_setsOff_91 : decode cX8_setsOff 91 = .ok (.goto 4, 3) := by decide +kernel
theorem dX8_setsOff_94 : decode cX8_setsOff 94 = .ok (.iconst 0, 1) := by decide +kernel
theorem dX8_setsOff_95 : decode cX8_setsOff 95 = .ok (.iadd, 1) := by decide +kernel
theorem dX8_setsOff_96 : decode cX8_setsOff 96 = .ok (.istore 4, 2) := by decide +kernel
theorem dX8_setsOff_98 : decode cX8_setsOff 98 = .ok (.iload 5, 2) := by decide +kernel
theorem dX8_setsOff_100 : decode cX8_setsOff 100 = .ok (.iload 8, 2) := by decide +kernel
theorem dX8_setsOff_102 : decode cX8_setsOff 102 = .ok (.iconst 5, 1) := by decide +kernel
theorem dX8_setsOff_103 : decode cX8_setsOff 103 = .ok (.if_icmp .ne 7, 3) := by decide +kernel
theorem dX8_setsOff_106 : decode cX8_setsOff 106 = .ok (.iconst 1, 1) := by decide +kernel
theorem dX8_setsOff_107 : decode cX8_setsOff 107 = .ok (.goto 4, 3) := by decide +kernel
theorem dX8_setsOff_110 : decode cX8_setsOff 110 = .ok (.iconst 0, 1) := by decide +kernel
theorem dX8_setsOff_111 : decode cX8_setsOff 111 = .ok (.iadd, 1) := by decide +kernel
theorem dX8_setsOff_112 : decode cX8_setsOff 112 = .ok (.istore 5, 2) := by decide +kernel
theorem dX8_setsOff_114 : decode cX8_setsOff 114 = .ok (.iload 6, 2) := by decide +kernel
theorem dX8_setsOff_116 : decode cX8_setsOff 116 = .ok (.iload 8, 2) := by decide +kernel
theorem dX8_setsOff_118 : decode cX8_setsOff 118 = .ok (.bipush 6, 2) := by decide +kernel
theorem dX8_setsOff_120 : decode cX8_setsOff 120 = .ok (.if_icmp .ne 7, 3) := by decide +kernel
theorem dX8_setsOff_123 : decode cX8_setsOff 123 = .ok (.iconst 1, 1) := by decide +kernel
theorem dX8_setsOff_124 : decode cX8_setsOff 124 = .ok (.goto 4, 3) := by decide +kernel
theorem dX8_setsOff_127 : decode cX8_setsOff 127 = .ok (.iconst 0, 1) := by decide +kernel
theorem dX8_setsOff_128 : decode cX8_setsOff 128 = .ok (.iadd, 1) := by decide +kernel
theorem dX8_setsOff_129 : decode cX8_setsOff 129 = .ok (.istore 6, 2) := by decide +kernel
theorem dX8_setsOff_131 : decode cX8_setsOff 131 = .ok (.iinc 7 1, 3) := by decide +kernel
theorem dX8_setsOff_134 : decode cX8_setsOff 134 = .ok (.goto (-120), 3) := by decide +kernel
theorem dX8_setsOff_137 : decode cX8_setsOff 137 = .ok (.aload_n 1, 1) := by decide +kernel
theorem dX8_setsOff_138 : decode cX8_setsOff 138 = .ok (.iload_n 2, 1) := by decide +kernel
theorem dX8_setsOff_139 : decode cX8_setsOff 139 = .ok (.iconst 0, 1) := by decide +kernel
theorem dX8_setsOff_140 : decode cX8_setsOff 140 = .ok (.invokestatic 154, 3) := by decide +kernel
theorem dX8_setsOff_143 : decode cX8_setsOff 143 = .ok (.tableswitch 72 1 4 #[29, 39, 50, 61], 29) := by decide +kernel
theorem dX8_setsOff_172 : decode cX8_setsOff 172 = .ok (.iload_n 3, 1) := by decide +kernel
theorem dX8_setsOff_173 : decode cX8_setsOff 173 = .ok (.ifCond .le 7, 3) := by decide +kernel
theorem dX8_setsOff_176 : decode cX8_setsOff 176 = .ok (.iconst 1, 1) := by decide +kernel
theorem dX8_setsOff_177 : decode cX8_setsOff 177 = .ok (.goto 4, 3) := by decide +kernel
theorem dX8_setsOff_180 : decode cX8_setsOff 180 = .ok (.iconst 0, 1) := by decide +kernel
theorem dX8_setsOff_181 : decode cX8_setsOff 181 = .ok (.ireturn, 1) := by decide +kernel
theorem dX8_setsOff_182 : decode cX8_setsOff 182 = .ok (.iload 4, 2) := by decide +kernel
theorem dX8_setsOff_184 : decode cX8_setsOff 184 = .ok (.ifCond .le 7, 3) := by decide +kernel
theorem dX8_setsOff_187 : decode cX8_setsOff 187 = .ok (.iconst 1, 1) := by decide +kernel
theorem dX8_setsOff_188 : decode cX8_setsOff 188 = .ok (.goto 4, 3) := by decide +kernel
theorem dX8_setsOff_191 : decode cX8_setsOff 191 = .ok (.iconst 0, 1) := by decide +kernel
theorem dX8_setsOff_192 : decode cX8_setsOff 192 = .ok (.ireturn, 1) := by decide +kernel
theorem dX8_setsOff_193 : decode cX8_setsOff 193 = .ok (.iload_n 3, 1) := by decide +kernel
theorem dX8_setsOff_194 : decode cX8_setsOff 194 = .ok (.iconst 1, 1) := by decide +kernel
theorem dX8_setsOff_195 : decode cX8_setsOff 195 = .ok (.if_icmp .le 7, 3) := by decide +kernel
theorem dX8_setsOff_198 : decode cX8_setsOff 198 = .ok (.iconst 1, 1) := by decide +kernel
theorem dX8_setsOff_199 : decode cX8_setsOff 199 = .ok (.goto 4, 3) := by decide +kernel
theorem dX8_setsOff_202 : decode cX8_setsOff 202 = .ok (.iconst 0, 1) := by decide +kernel
theorem dX8_setsOff_203 : decode cX8_setsOff 203 = .ok (.ireturn, 1) := by decide +kernel
theorem dX8_setsOff_204 : decode cX8_setsOff 204 = .ok (.iload 5, 2) := by decide +kernel
theorem dX8_setsOff_206 : decode cX8_setsOff 206 = .ok (.ifCond .le 7, 3) := by decide +kernel
theorem dX8_setsOff_209 : decode cX8_setsOff 209 = .ok (.iconst 1, 1) := by decide +kernel
theorem dX8_setsOff_210 : decode cX8_setsOff 210 = .ok (.goto 4, 3) := by decide +kernel
theorem dX8_setsOff_213 : decode cX8_setsOff 213 = .ok (.iconst 0, 1) := by decide +kernel
theorem dX8_setsOff_214 : decode cX8_setsOff 214 = .ok (.ireturn, 1) := by decide +kernel
theorem dX8_setsOff_215 : decode cX8_setsOff 215 = .ok (.iload 5, 2) := by decide +kernel
theorem dX8_setsOff_217 : decode cX8_setsOff 217 = .ok (.ifCond .gt 8, 3) := by decide +kernel
theorem dX8_setsOff_220 : decode cX8_setsOff 220 = .ok (.iload 6, 2) := by decide +kernel
theorem dX8_setsOff_222 : decode cX8_setsOff 222 = .ok (.ifCond .le 7, 3) := by decide +kernel
theorem dX8_setsOff_225 : decode cX8_setsOff 225 = .ok (.iconst 1, 1) := by decide +kernel
theorem dX8_setsOff_226 : decode cX8_setsOff 226 = .ok (.goto 4, 3) := by decide +kernel
theorem dX8_setsOff_229 : decode cX8_setsOff 229 = .ok (.iconst 0, 1) := by decide +kernel
theorem dX8_setsOff_230 : decode cX8_setsOff 230 = .ok (.ireturn, 1) := by decide +kernel
theorem dX8_chainOf_0 : decode cX8_chainOf 0 = .ok (.iconst 0, 1) := by decide +kernel
theorem dX8_chainOf_1 : decode cX8_chainOf 1 = .ok (.istore 5, 2) := by decide +kernel
theorem dX8_chainOf_3 : decode cX8_chainOf 3 = .ok (.iload 5, 2) := by decide +kernel
theorem dX8_chainOf_5 : decode cX8_chainOf 5 = .ok (.bipush 8, 2) := by decide +kernel
theorem dX8_chainOf_7 : decode cX8_chainOf 7 = .ok (.if_icmp .ge 28, 3) := by decide +kernel
theorem dX8_chainOf_10 : decode cX8_chainOf 10 = .ok (.aload_n 0, 1) := by decide +kernel
theorem dX8_chainOf_11 : decode cX8_chainOf 11 = .ok (.getfield 34, 3) := by decide +kernel
theorem dX8_chainOf_14 : decode cX8_chainOf 14 = .ok (.iload 5, 2) := by decide +kernel
theorem dX8_chainOf_16 : decode cX8_chainOf 16 = .ok (.iload 5, 2) := by decide +kernel
theorem dX8_chainOf_18 : decode cX8_chainOf 18 = .ok (.iload_n 3, 1) := by decide +kernel
theorem dX8_chainOf_19 : decode cX8_chainOf 19 = .ok (.if_icmp .ne 7, 3) := by decide +kernel
theorem dX8_chainOf_22 : decode cX8_chainOf 22 = .ok (.iload_n 2, 1) := by decide +kernel
theorem dX8_chainOf_23 : decode cX8_chainOf 23 = .ok (.goto 5, 3) := by decide +kernel
theorem dX8_chainOf_26 : decode cX8_chainOf 26 = .ok (.ldc 93, 2) := by decide +kernel
theorem dX8_chainOf_28 : decode cX8_chainOf 28 = .ok (.iastore, 1) := by decide +kernel
theorem dX8_chainOf_29 : decode cX8_chainOf 29 = .ok (.iinc 5 1, 3) := by decide +kernel
theorem dX8_chainOf_32 : decode cX8_chainOf 32 = .ok (.goto (-29), 3) := by decide +kernel
theorem dX8_chainOf_35 : decode cX8_chainOf 35 = .ok (.iload 4, 2) := by decide +kernel
theorem dX8_chainOf_37 : decode cX8_chainOf 37 = .ok (.istore 5, 2) := by decide +kernel
theorem dX8_chainOf_39 : decode cX8_chainOf 39 = .ok (.iconst 1, 1) := by decide +kernel
theorem dX8_chainOf_40 : decode cX8_chainOf 40 = .ok (.istore 6, 2) := by decide +kernel
theorem dX8_chainOf_42 : decode cX8_chainOf 42 = .ok (.aload_n 0, 1) := by decide +kernel
theorem dX8_chainOf_43 : decode cX8_chainOf 43 = .ok (.iconst 0, 1) := by decide +kernel
theorem dX8_chainOf_44 : decode cX8_chainOf 44 = .ok (.putfield 164, 3) := by decide +kernel
theorem dX8_chainOf_47 : decode cX8_chainOf 47 = .ok (.iload 6, 2) := by decide +kernel
theorem dX8_chainOf_49 : decode cX8_chainOf 49 = .ok (.ifCond .eq 169, 3) := by decide +kernel
theorem dX8_chainOf_52 : decode cX8_chainOf 52 = .ok (.iconst 0, 1) := by decide +kernel
theorem dX8_chainOf_53 : decode cX8_chainOf 53 = .ok (.istore 7, 2) := by decide +kernel
theorem dX8_chainOf_55 : decode cX8_chainOf 55 = .ok (.iconst 0, 1) := by decide +kernel
theorem dX8_chainOf_56 : decode cX8_chainOf 56 = .ok (.istore 8, 2) := by decide +kernel
theorem dX8_chainOf_58 : decode cX8_chainOf 58 = .ok (.iload 8, 2) := by decide +kernel
theorem dX8_chainOf_60 : decode cX8_chainOf 60 = .ok (.bipush 8, 2) := by decide +kernel
theorem dX8_chainOf_62 : decode cX8_chainOf 62 = .ok (.if_icmp .ge 18, 3) := by decide +kernel
theorem dX8_chainOf_65 : decode cX8_chainOf 65 = .ok (.aload_n 0, 1) := by decide +kernel
theorem dX8_chainOf_66 : decode cX8_chainOf 66 = .ok (.getfield 37, 3) := by decide +kernel
theorem dX8_chainOf_69 : decode cX8_chainOf 69 = .ok (.iload 8, 2) := by decide +kernel
theorem dX8_chainOf_71 : decode cX8_chainOf 71 = .ok (.ldc 93, 2) := by decide +kernel
theorem dX8_chainOf_73 : decode cX8_chainOf 73 = .ok (.iastore, 1) := by decide +kernel
theorem dX8_chainOf_74 : decode cX8_chainOf 74 = .ok (.iinc 8 1, 3) := by decide +kernel
theorem dX8_chainOf_77 : decode cX8_chainOf 77 = .ok (.goto (-19), 3) := by decide +kernel
theorem dX8_chainOf_80 : decode cX8_chainOf 80 = .ok (.iconst 0, 1) := by decide +kernel
theorem dX8_chainOf_81 : decode cX8_chainOf 81 = .ok (.istore 8, 2) := by decide +kernel
theorem dX8_chainOf_83 : decode cX8_chainOf 83 = .ok (.iload 8, 2) := by decide +kernel
theorem dX8_chainOf_85 : decode cX8_chainOf 85 = .ok (.aload_n 1, 1) := by decide +kernel
theorem dX8_chainOf_86 : decode cX8_chainOf 86 = .ok (.iconst 0, 1) := by decide +kernel
theorem dX8_chainOf_87 : decode cX8_chainOf 87 = .ok (.iaload, 1) := by decide +kernel
theorem dX8_chainOf_88 : decode cX8_chainOf 88 = .ok (.if_icmp .ge 57, 3) := by decide +kernel
theorem dX8_chainOf_91 : decode cX8_chainOf 91 = .ok (.iload 5, 2) := by decide +kernel
theorem dX8_chainOf_93 : decode cX8_chainOf 93 = .ok (.iload 8, 2) := by decide +kernel
theorem dX8_chainOf_95 : decode cX8_chainOf 95 = .ok (.invokestatic 167, 3) := by decide +kernel
theorem dX8_chainOf_98 : decode cX8_chainOf 98 = .ok (.ifCond .eq 41, 3) := by decide +kernel
theorem dX8_chainOf_101 : decode cX8_chainOf 101 = .ok (.aload_n 0, 1) := by decide +kernel
theorem dX8_chainOf_102 : decode cX8_chainOf 102 = .ok (.aload_n 1, 1) := by decide +kernel
theorem dX8_chainOf_103 : decode cX8_chainOf 103 = .ok (.iload 8, 2) := by decide +kernel
theorem dX8_chainOf_105 : decode cX8_chainOf 105 = .ok (.invokevirtual 171, 3) := by decide +kernel
theorem dX8_chainOf_108 : decode cX8_chainOf 108 = .ok (.ifCond .eq 31, 3) := by decide +kernel
theorem dX8_chainOf_111 : decode cX8_chainOf 111 = .ok (.iload 7, 2) := by decide +kernel
theorem dX8_chainOf_113 : decode cX8_chainOf 113 = .ok (.iconst 1, 1) := by decide +kernel
theorem dX8_chainOf_114 : decode cX8_chainOf 114 = .ok (.iload 8, 2) := by decide +kernel
theorem dX8_chainOf_116 : decode cX8_chainOf 116 = .ok (.ishl, 1) := by decide +kernel
theorem dX8_chainOf_117 : decode cX8_chainOf 117 = .ok (.ior, 1) := by decide +kernel
theorem dX8_chainOf_118 : decode cX8_chainOf 118 = .ok (.istore 7, 2) := by decide +kernel
theorem dX8_chainOf_120 : decode cX8_chainOf 120 = .ok (.aload_n 0, 1) := by decide +kernel
theorem dX8_chainOf_121 : decode cX8_chainOf 121 = .ok (.getfield 37, 3) := by decide +kernel
theorem dX8_chainOf_124 : decode cX8_chainOf 124 = .ok (.aload_n 1, 1) := by decide +kernel
theorem dX8_chainOf_125 : decode cX8_chainOf 125 = .ok (.iload 8, 2) := by decide +kernel
theorem dX8_chainOf_127 : decode cX8_chainOf 127 = .ok (.iconst 3, 1) := by decide +kernel
theorem dX8_chainOf_128 : decode cX8_chainOf 128 = .ok (.invokestatic 154, 3) := by decide +kernel
theorem dX8_chainOf_131 : decode cX8_chainOf 131 = .ok (.aload_n 1, 1) := by decide +kernel
theorem dX8_chainOf_132 : decode cX8_chainOf 132 = .ok (.iload 8, 2) := by decide +kernel
theorem dX8_chainOf_134 : decode cX8_chainOf 134 = .ok (.iconst 1, 1) := by decide +kernel
theorem dX8_chainOf_135 : decode cX8_chainOf 135 = .ok (.invokestatic 154, 3) := by decide +kernel
theorem dX8_chainOf_138 : decode cX8_chainOf 138 = .ok (.iastore, 1) := by decide +kernel
theorem dX8_chainOf_139 : decode cX8_chainOf 139 = .ok (.iinc 8 1, 3) := by decide +kernel
theorem dX8_chainOf_142 : decode cX8_chainOf 142 = .ok (.goto (-59), 3) := by decide +kernel
theorem dX8_chainOf_145 : decode cX8_chainOf 145 = .ok (.iconst 0, 1) := by decide +kernel
theorem dX8_chainOf_146 : decode cX8_chainOf 146 = .ok (.istore 8, 2) := by decide +kernel
theorem dX8_chainOf_148 : decode cX8_chainOf 148 = .ok (.iload 8, 2) := by decide +kernel
theorem dX8_chainOf_150 : decode cX8_chainOf 150 = .ok (.bipush 8, 2) := by decide +kernel
theorem dX8_chainOf_152 : decode cX8_chainOf 152 = .ok (.if_icmp .ge 23, 3) := by decide +kernel
theorem dX8_chainOf_155 : decode cX8_chainOf 155 = .ok (.aload_n 0, 1) := by decide +kernel
theorem dX8_chainOf_156 : decode cX8_chainOf 156 = .ok (.getfield 34, 3) := by decide +kernel
theorem dX8_chainOf_159 : decode cX8_chainOf 159 = .ok (.iload 8, 2) := by decide +kernel
theorem dX8_chainOf_161 : decode cX8_chainOf 161 = .ok (.aload_n 0, 1) := by decide +kernel
theorem dX8_chainOf_162 : decode cX8_chainOf 162 = .ok (.getfield 37, 3) := by decide +kernel
theorem dX8_chainOf_165 : decode cX8_chainOf 165 = .ok (.iload 8, 2) := by decide +kernel
theorem dX8_chainOf_167 : decode cX8_chainOf 167 = .ok (.iaload, 1) := by decide +kernel
theorem dX8_chainOf_168 : decode cX8_chainOf 168 = .ok (.iastore, 1) := by decide +kernel
theorem dX8_chainOf_169 : decode cX8_chainOf 169 = .ok (.iinc 8 1, 3) := by decide +kernel
theorem dX8_chainOf_172 : decode cX8_chainOf 172 = .ok (.goto (-24), 3) := by decide +kernel
theorem dX8_chainOf_175 : decode cX8_chainOf 175 = .ok (.iload 5, 2) := by decide +kernel
theorem dX8_chainOf_177 : decode cX8_chainOf 177 = .ok (.iload 7, 2) := by decide +kernel
theorem dX8_chainOf_179 : decode cX8_chainOf 179 = .ok (.iconst (-1), 1) := by decide +kernel
theorem dX8_chainOf_180 : decode cX8_chainOf 180 = .ok (.ixor, 1) := by decide +kernel
theorem dX8_chainOf_181 : decode cX8_chainOf 181 = .ok (.iand, 1) := by decide +kernel
theorem dX8_chainOf_182 : decode cX8_chainOf 182 = .ok (.istore 5, 2) := by decide +kernel
theorem dX8_chainOf_184 : decode cX8_chainOf 184 = .ok (.iload 7, 2) := by decide +kernel
theorem dX8_chainOf_186 : decode cX8_chainOf 186 = .ok (.ifCond .eq 7, 3) := by decide +kernel
theorem dX8_chainOf_189 : decode cX8_chainOf 189 = .ok (.iconst 1, 1) := by decide +kernel
theorem dX8_chainOf_190 : decode cX8_chainOf 190 = .ok (.goto 4, 3) := by decide +kernel
theorem dX8_chainOf_193 : decode cX8_chainOf 193 = .ok (.iconst 0, 1) := by decide +kernel
theorem dX8_chainOf_194 : decode cX8_chainOf 194 = .ok (.istore 6, 2) := by decide +kernel
theorem dX8_chainOf_196 : decode cX8_chainOf 196 = .ok (.aload_n 0, 1) := by decide +kernel
theorem dX8_chainOf_197 : decode cX8_chainOf 197 = .ok (.dup, 1) := by decide +kernel
theorem dX8_chainOf_198 : decode cX8_chainOf 198 = .ok (.getfield 164, 3) := by decide +kernel
theorem dX8_chainOf_201 : decode cX8_chainOf 201 = .ok (.iload 6, 2) := by decide +kernel
theorem dX8_chainOf_203 : decode cX8_chainOf 203 = .ok (.ifCond .eq 7, 3) := by decide +kernel
theorem dX8_chainOf_206 : decode cX8_chainOf 206 = .ok (.iconst 1, 1) := by decide +kernel
theorem dX8_chainOf_207 : decode cX8_chainOf 207 = .ok (.goto 4, 3) := by decide +kernel
theorem dX8_chainOf_210 : decode cX8_chainOf 210 = .ok (.iconst 0, 1) := by decide +kernel
theorem dX8_chainOf_211 : decode cX8_chainOf 211 = .ok (.iadd, 1) := by decide +kernel
theorem dX8_chainOf_212 : decode cX8_chainOf 212 = .ok (.putfield 164, 3) := by decide +kernel
theorem dX8_chainOf_215 : decode cX8_chainOf 215 = .ok (.goto (-168), 3) := by decide +kernel
theorem dX8_chainOf_218 : decode cX8_chainOf 218 = .ok (.iload 4, 2) := by decide +kernel
theorem dX8_chainOf_220 : decode cX8_chainOf 220 = .ok (.iload 5, 2) := by decide +kernel
theorem dX8_chainOf_222 : decode cX8_chainOf 222 = .ok (.iconst (-1), 1) := by decide +kernel
theorem dX8_chainOf_223 : decode cX8_chainOf 223 = .ok (.ixor, 1) := by decide +kernel
theorem dX8_chainOf_224 : decode cX8_chainOf 224 = .ok (.iand, 1) := by decide +kernel
theorem dX8_chainOf_225 : decode cX8_chainOf 225 = .ok (.ireturn, 1) := by decide +kernel
theorem dX8_worstOf_0 : decode cX8_worstOf 0 = .ok (.iconst (-1), 1) := by decide +kernel
theorem dX8_worstOf_1 : decode cX8_worstOf 1 = .ok (.istore_n 2, 1) := by decide +kernel
theorem dX8_worstOf_2 : decode cX8_worstOf 2 = .ok (.aload_n 1, 1) := by decide +kernel
theorem dX8_worstOf_3 : decode cX8_worstOf 3 = .ok (.iconst 0, 1) := by decide +kernel
theorem dX8_worstOf_4 : decode cX8_worstOf 4 = .ok (.invokestatic 175, 3) := by decide +kernel
theorem dX8_worstOf_7 : decode cX8_worstOf 7 = .ok (.istore_n 3, 1) := by decide +kernel
theorem dX8_worstOf_8 : decode cX8_worstOf 8 = .ok (.iconst 0, 1) := by decide +kernel
theorem dX8_worstOf_9 : decode cX8_worstOf 9 = .ok (.istore 4, 2) := by decide +kernel
theorem dX8_worstOf_11 : decode cX8_worstOf 11 = .ok (.iload 4, 2) := by decide +kernel
theorem dX8_worstOf_13 : decode cX8_worstOf 13 = .ok (.bipush 12, 2) := by decide +kernel
theorem dX8_worstOf_15 : decode cX8_worstOf 15 = .ok (.if_icmp .ge 62, 3) := by decide +kernel
theorem dX8_worstOf_18 : decode cX8_worstOf 18 = .ok (.iconst 0, 1) := by decide +kernel
theorem dX8_worstOf_19 : decode cX8_worstOf 19 = .ok (.istore 5, 2) := by decide +kernel
theorem dX8_worstOf_21 : decode cX8_worstOf 21 = .ok (.iload 5, 2) := by decide +kernel
theorem dX8_worstOf_23 : decode cX8_worstOf 23 = .ok (.aload_n 1, 1) := by decide +kernel
theorem dX8_worstOf_24 : decode cX8_worstOf 24 = .ok (.iconst 0, 1) := by decide +kernel
theorem dX8_worstOf_25 : decode cX8_worstOf 25 = .ok (.iaload, 1) := by decide +kernel
theorem dX8_worstOf_26 : decode cX8_worstOf 26 = .ok (.if_icmp .ge 45, 3) := by decide +kernel
theorem dX8_worstOf_29 : decode cX8_worstOf 29 = .ok (.aload_n 0, 1) := by decide +kernel
theorem dX8_worstOf_30 : decode cX8_worstOf 30 = .ok (.aload_n 1, 1) := by decide +kernel
theorem dX8_worstOf_31 : decode cX8_worstOf 31 = .ok (.iload 4, 2) := by decide +kernel
theorem dX8_worstOf_33 : decode cX8_worstOf 33 = .ok (.iload 5, 2) := by decide +kernel
theorem dX8_worstOf_35 : decode cX8_worstOf 35 = .ok (.iload_n 3, 1) := by decide +kernel
theorem dX8_worstOf_36 : decode cX8_worstOf 36 = .ok (.invokevirtual 179, 3) := by decide +kernel
theorem dX8_worstOf_39 : decode cX8_worstOf 39 = .ok (.invokestatic 183, 3) := by decide +kernel
theorem dX8_worstOf_42 : decode cX8_worstOf 42 = .ok (.istore 6, 2) := by decide +kernel
theorem dX8_worstOf_44 : decode cX8_worstOf 44 = .ok (.iload 6, 2) := by decide +kernel
theorem dX8_worstOf_46 : decode cX8_worstOf 46 = .ok (.iload_n 2, 1) := by decide +kernel
theorem dX8_worstOf_47 : decode cX8_worstOf 47 = .ok (.if_icmp .le 18, 3) := by decide +kernel
theorem dX8_worstOf_50 : decode cX8_worstOf 50 = .ok (.iload 6, 2) := by decide +kernel
theorem dX8_worstOf_52 : decode cX8_worstOf 52 = .ok (.istore_n 2, 1) := by decide +kernel
theorem dX8_worstOf_53 : decode cX8_worstOf 53 = .ok (.aload_n 0, 1) := by decide +kernel
theorem dX8_worstOf_54 : decode cX8_worstOf 54 = .ok (.iload 4, 2) := by decide +kernel
theorem dX8_worstOf_56 : decode cX8_worstOf 56 = .ok (.putfield 186, 3) := by decide +kernel
theorem dX8_worstOf_59 : decode cX8_worstOf 59 = .ok (.aload_n 0, 1) := by decide +kernel
theorem dX8_worstOf_60 : decode cX8_worstOf 60 = .ok (.iload 5, 2) := by decide +kernel
theorem dX8_worstOf_62 : decode cX8_worstOf 62 = .ok (.putfield 189, 3) := by decide +kernel
theorem dX8_worstOf_65 : decode cX8_worstOf 65 = .ok (.iinc 5 1, 3) := by decide +kernel
theorem dX8_worstOf_68 : decode cX8_worstOf 68 = .ok (.goto (-47), 3) := by decide +kernel
theorem dX8_worstOf_71 : decode cX8_worstOf 71 = .ok (.iinc 4 1, 3) := by decide +kernel
theorem dX8_worstOf_74 : decode cX8_worstOf 74 = .ok (.goto (-63), 3) := by decide +kernel
theorem dX8_worstOf_77 : decode cX8_worstOf 77 = .ok (.iload_n 2, 1) := by decide +kernel
theorem dX8_worstOf_78 : decode cX8_worstOf 78 = .ok (.ireturn, 1) := by decide +kernel
theorem dX8_sneezes_0 : decode cX8_sneezes 0 = .ok (.aload_n 0, 1) := by decide +kernel
theorem dX8_sneezes_1 : decode cX8_sneezes 1 = .ok (.aload_n 1, 1) := by decide +kernel
theorem dX8_sneezes_2 : decode cX8_sneezes 2 = .ok (.iload_n 2, 1) := by decide +kernel
theorem dX8_sneezes_3 : decode cX8_sneezes 3 = .ok (.iload_n 3, 1) := by decide +kernel
theorem dX8_sneezes_4 : decode cX8_sneezes 4 = .ok (.aload_n 1, 1) := by decide +kernel
theorem dX8_sneezes_5 : decode cX8_sneezes 5 = .ok (.iconst 0, 1) := by decide +kernel
theorem dX8_sneezes_6 : decode cX8_sneezes 6 = .ok (.invokestatic 175, 3) := by decide +kernel
theorem dX8_sneezes_9 : decode cX8_sneezes 9 = .ok (.invokevirtual 179, 3) := by decide +kernel
theorem dX8_sneezes_12 : decode cX8_sneezes 12 = .ok (.istore 4, 2) := by decide +kernel
theorem dX8_sneezes_14 : decode cX8_sneezes 14 = .ok (.iconst 0, 1) := by decide +kernel
theorem dX8_sneezes_15 : decode cX8_sneezes 15 = .ok (.istore 5, 2) := by decide +kernel
theorem dX8_sneezes_17 : decode cX8_sneezes 17 = .ok (.iload 5, 2) := by decide +kernel
theorem dX8_sneezes_19 : decode cX8_sneezes 19 = .ok (.aload_n 1, 1) := by decide +kernel
theorem dX8_sneezes_20 : decode cX8_sneezes 20 = .ok (.iconst 0, 1) := by decide +kernel
theorem dX8_sneezes_21 : decode cX8_sneezes 21 = .ok (.iaload, 1) := by decide +kernel
theorem dX8_sneezes_22 : decode cX8_sneezes 22 = .ok (.if_icmp .ge 27, 3) := by decide +kernel
theorem dX8_sneezes_25 : decode cX8_sneezes 25 = .ok (.iload 4, 2) := by decide +kernel
theorem dX8_sneezes_27 : decode cX8_sneezes 27 = .ok (.iload 5, 2) := by decide +kernel
theorem dX8_sneezes_29 : decode cX8_sneezes 29 = .ok (.invokestatic 167, 3) := by decide +kernel
theorem dX8_sneezes_32 : decode cX8_sneezes 32 = .ok (.ifCond .eq 11, 3) := by decide +kernel
theorem dX8_sneezes_35 : decode cX8_sneezes 35 = .ok (.aload_n 1, 1) := by decide +kernel
theorem dX8_sneezes_36 : decode cX8_sneezes 36 = .ok (.iload 5, 2) := by decide +kernel
theorem dX8_sneezes_38 : decode cX8_sneezes 38 = .ok (.iconst 4, 1) := by decide +kernel
theorem dX8_sneezes_39 : decode cX8_sneezes 39 = .ok (.iconst 1, 1) := by decide +kernel
theorem dX8_sneezes_40 : decode cX8_sneezes 40 = .ok (.invokestatic 192, 3) := by decide +kernel
theorem dX8_sneezes_43 : decode cX8_sneezes 43 = .ok (.iinc 5 1, 3) := by decide +kernel
theorem dX8_sneezes_46 : decode cX8_sneezes 46 = .ok (.goto (-29), 3) := by decide +kernel
theorem dX8_sneezes_49 : decode cX8_sneezes 49 = .ok (.return_, 1) := by decide +kernel
theorem dX8_yearOf_0 : decode cX8_yearOf 0 = .ok (.iconst 0, 1) := by decide +kernel
theorem dX8_yearOf_1 : decode cX8_yearOf 1 = .ok (.istore_n 1, 1) := by decide +kernel
theorem dX8_yearOf_2 : decode cX8_yearOf 2 = .ok (.iload_n 1, 1) := by decide +kernel
theorem dX8_yearOf_3 : decode cX8_yearOf 3 = .ok (.aload_n 0, 1) := by decide +kernel
theorem dX8_yearOf_4 : decode cX8_yearOf 4 = .ok (.iconst 0, 1) := by decide +kernel
theorem dX8_yearOf_5 : decode cX8_yearOf 5 = .ok (.iaload, 1) := by decide +kernel
theorem dX8_yearOf_6 : decode cX8_yearOf 6 = .ok (.if_icmp .ge 52, 3) := by decide +kernel
theorem dX8_yearOf_9 : decode cX8_yearOf 9 = .ok (.aload_n 0, 1) := by decide +kernel
theorem dX8_yearOf_10 : decode cX8_yearOf 10 = .ok (.iload_n 1, 1) := by decide +kernel
theorem dX8_yearOf_11 : decode cX8_yearOf 11 = .ok (.iconst 4, 1) := by decide +kernel
theorem dX8_yearOf_12 : decode cX8_yearOf 12 = .ok (.invokestatic 154, 3) := by decide +kernel
theorem dX8_yearOf_15 : decode cX8_yearOf 15 = .ok (.ifCond .ne 37, 3) := by decide +kernel
theorem dX8_yearOf_18 : decode cX8_yearOf 18 = .ok (.aload_n 0, 1) := by decide +kernel
theorem dX8_yearOf_19 : decode cX8_yearOf 19 = .ok (.iload_n 1, 1) := by decide +kernel
theorem dX8_yearOf_20 : decode cX8_yearOf 20 = .ok (.iconst 2, 1) := by decide +kernel
theorem dX8_yearOf_21 : decode cX8_yearOf 21 = .ok (.aload_n 0, 1) := by decide +kernel
theorem dX8_yearOf_22 : decode cX8_yearOf 22 = .ok (.iload_n 1, 1) := by decide +kernel
theorem dX8_yearOf_23 : decode cX8_yearOf 23 = .ok (.iconst 2, 1) := by decide +kernel
theorem dX8_yearOf_24 : decode cX8_yearOf 24 = .ok (.invokestatic 154, 3) := by decide +kernel
theorem dX8_yearOf_27 : decode cX8_yearOf 27 = .ok (.iconst 1, 1) := by decide +kernel
theorem dX8_yearOf_28 : decode cX8_yearOf 28 = .ok (.isub, 1) := by decide +kernel
theorem dX8_yearOf_29 : decode cX8_yearOf 29 = .ok (.invokestatic 192, 3) := by decide +kernel
theorem dX8_yearOf_32 : decode cX8_yearOf 32 = .ok (.aload_n 0, 1) := by decide +kernel
theorem dX8_yearOf_33 : decode cX8_yearOf 33 = .ok (.iload_n 1, 1) := by decide +kernel
theorem dX8_yearOf_34 : decode cX8_yearOf 34 = .ok (.iconst 4, 1) := by decide +kernel
theorem dX8_yearOf_35 : decode cX8_yearOf 35 = .ok (.aload_n 0, 1) := by decide +kernel
theorem dX8_yearOf_36 : decode cX8_yearOf 36 = .ok (.iload_n 1, 1) := by decide +kernel
theorem dX8_yearOf_37 : decode cX8_yearOf 37 = .ok (.iconst 2, 1) := by decide +kernel
theorem dX8_yearOf_38 : decode cX8_yearOf 38 = .ok (.invokestatic 154, 3) := by decide +kernel
theorem dX8_yearOf_41 : decode cX8_yearOf 41 = .ok (.ifCond .ne 7, 3) := by decide +kernel
theorem dX8_yearOf_44 : decode cX8_yearOf 44 = .ok (.iconst 2, 1) := by decide +kernel
theorem dX8_yearOf_45 : decode cX8_yearOf 45 = .ok (.goto 4, 3) := by decide +kernel
theorem dX8_yearOf_48 : decode cX8_yearOf 48 = .ok (.iconst 0, 1) := by decide +kernel
theorem dX8_yearOf_49 : decode cX8_yearOf 49 = .ok (.invokestatic 192, 3) := by decide +kernel
theorem dX8_yearOf_52 : decode cX8_yearOf 52 = .ok (.iinc 1 1, 3) := by decide +kernel
theorem dX8_yearOf_55 : decode cX8_yearOf 55 = .ok (.goto (-53), 3) := by decide +kernel
theorem dX8_yearOf_58 : decode cX8_yearOf 58 = .ok (.aload_n 0, 1) := by decide +kernel
theorem dX8_yearOf_59 : decode cX8_yearOf 59 = .ok (.iconst 1, 1) := by decide +kernel
theorem dX8_yearOf_60 : decode cX8_yearOf 60 = .ok (.dup2, 1) := by decide +kernel
theorem dX8_yearOf_61 : decode cX8_yearOf 61 = .ok (.iaload, 1) := by decide +kernel
theorem dX8_yearOf_62 : decode cX8_yearOf 62 = .ok (.iconst 1, 1) := by decide +kernel
theorem dX8_yearOf_63 : decode cX8_yearOf 63 = .ok (.iadd, 1) := by decide +kernel
theorem dX8_yearOf_64 : decode cX8_yearOf 64 = .ok (.iastore, 1) := by decide +kernel
theorem dX8_yearOf_65 : decode cX8_yearOf 65 = .ok (.return_, 1) := by decide +kernel
theorem dX8_changePlaces_0 : decode cX8_changePlaces 0 = .ok (.aload_n 0, 1) := by decide +kernel
theorem dX8_changePlaces_1 : decode cX8_changePlaces 1 = .ok (.iload_n 1, 1) := by decide +kernel
theorem dX8_changePlaces_2 : decode cX8_changePlaces 2 = .ok (.iconst 3, 1) := by decide +kernel
theorem dX8_changePlaces_3 : decode cX8_changePlaces 3 = .ok (.invokestatic 154, 3) := by decide +kernel
theorem dX8_changePlaces_6 : decode cX8_changePlaces 6 = .ok (.istore_n 3, 1) := by decide +kernel
theorem dX8_changePlaces_7 : decode cX8_changePlaces 7 = .ok (.aload_n 0, 1) := by decide +kernel
theorem dX8_changePlaces_8 : decode cX8_changePlaces 8 = .ok (.iload_n 1, 1) := by decide +kernel
theorem dX8_changePlaces_9 : decode cX8_changePlaces 9 = .ok (.iconst 3, 1) := by decide +kernel
theorem dX8_changePlaces_10 : decode cX8_changePlaces 10 = .ok (.aload_n 0, 1) := by decide +kernel
theorem dX8_changePlaces_11 : decode cX8_changePlaces 11 = .ok (.iload_n 2, 1) := by decide +kernel
theorem dX8_changePlaces_12 : decode cX8_changePlaces 12 = .ok (.iconst 3, 1) := by decide +kernel
theorem dX8_changePlaces_13 : decode cX8_changePlaces 13 = .ok (.invokestatic 154, 3) := by decide +kernel
theorem dX8_changePlaces_16 : decode cX8_changePlaces 16 = .ok (.invokestatic 192, 3) := by decide +kernel
theorem dX8_changePlaces_19 : decode cX8_changePlaces 19 = .ok (.aload_n 0, 1) := by decide +kernel
theorem dX8_changePlaces_20 : decode cX8_changePlaces 20 = .ok (.iload_n 2, 1) := by decide +kernel
theorem dX8_changePlaces_21 : decode cX8_changePlaces 21 = .ok (.iconst 3, 1) := by decide +kernel
theorem dX8_changePlaces_22 : decode cX8_changePlaces 22 = .ok (.iload_n 3, 1) := by decide +kernel
theorem dX8_changePlaces_23 : decode cX8_changePlaces 23 = .ok (.invokestatic 192, 3) := by decide +kernel
theorem dX8_changePlaces_26 : decode cX8_changePlaces 26 = .ok (.return_, 1) := by decide +kernel
theorem dX8_layThen_0 : decode cX8_layThen 0 = .ok (.iconst 0, 1) := by decide +kernel
theorem dX8_layThen_1 : decode cX8_layThen 1 = .ok (.istore_n 1, 1) := by decide +kernel
theorem dX8_layThen_2 : decode cX8_layThen 2 = .ok (.iload_n 1, 1) := by decide +kernel
theorem dX8_layThen_3 : decode cX8_layThen 3 = .ok (.bipush 43, 2) := by decide +kernel
theorem dX8_layThen_5 : decode cX8_layThen 5 = .ok (.if_icmp .ge 21, 3) := by decide +kernel
theorem dX8_layThen_8 : decode cX8_layThen 8 = .ok (.aload_n 0, 1) := by decide +kernel
theorem dX8_layThen_9 : decode cX8_layThen 9 = .ok (.getfield 25, 3) := by decide +kernel
theorem dX8_layThen_12 : decode cX8_layThen 12 = .ok (.iload_n 1, 1) := by decide +kernel
theorem dX8_layThen_13 : decode cX8_layThen 13 = .ok (.aload_n 0, 1) := by decide +kernel
theorem dX8_layThen_14 : decode cX8_layThen 14 = .ok (.getfield 19, 3) := by decide +kernel
theorem dX8_layThen_17 : decode cX8_layThen 17 = .ok (.iload_n 1, 1) := by decide +kernel
theorem dX8_layThen_18 : decode cX8_layThen 18 = .ok (.iaload, 1) := by decide +kernel
theorem dX8_layThen_19 : decode cX8_layThen 19 = .ok (.iastore, 1) := by decide +kernel
theorem dX8_layThen_20 : decode cX8_layThen 20 = .ok (.iinc 1 1, 3) := by decide +kernel
theorem dX8_layThen_23 : decode cX8_layThen 23 = .ok (.goto (-21), 3) := by decide +kernel
theorem dX8_layThen_26 : decode cX8_layThen 26 = .ok (.return_, 1) := by decide +kernel
theorem dX8_keep_0 : decode cX8_keep 0 = .ok (.aload_n 0, 1) := by decide +kernel
theorem dX8_keep_1 : decode cX8_keep 1 = .ok (.getfield 149, 3) := by decide +kernel
theorem dX8_keep_4 : decode cX8_keep 4 = .ok (.bipush 24, 2) := by decide +kernel
theorem dX8_keep_6 : decode cX8_keep 6 = .ok (.if_icmp .ne 43, 3) := by decide +kernel
theorem dX8_keep_9 : decode cX8_keep 9 = .ok (.iconst 0, 1) := by decide +kernel
theorem dX8_keep_10 : decode cX8_keep 10 = .ok (.istore_n 1, 1) := by decide +kernel
theorem dX8_keep_11 : decode cX8_keep 11 = .ok (.iload_n 1, 1) := by decide +kernel
theorem dX8_keep_12 : decode cX8_keep 12 = .ok (.sipush 989, 3) := by decide +kernel
theorem dX8_keep_15 : decode cX8_keep 15 = .ok (.if_icmp .ge 24, 3) := by decide +kernel
theorem dX8_keep_18 : decode cX8_keep 18 = .ok (.aload_n 0, 1) := by decide +kernel
theorem dX8_keep_19 : decode cX8_keep 19 = .ok (.getfield 28, 3) := by decide +kernel
theorem dX8_keep_22 : decode cX8_keep 22 = .ok (.iload_n 1, 1) := by decide +kernel
theorem dX8_keep_23 : decode cX8_keep 23 = .ok (.aload_n 0, 1) := by decide +kernel
theorem dX8_keep_24 : decode cX8_keep 24 = .ok (.getfield 28, 3) := by decide +kernel
theorem dX8_keep_27 : decode cX8_keep 27 = .ok (.iload_n 1, 1) := by decide +kernel
theorem dX8_keep_28 : decode cX8_keep 28 = .ok (.bipush 43, 2) := by decide +kernel
theorem dX8_keep_30 : decode cX8_keep 30 = .ok (.iadd, 1) := by decide +kernel
theorem dX8_keep_31 : decode cX8_keep 31 = .ok (.iaload, 1) := by decide +kernel
theorem dX8_keep_32 : decode cX8_keep 32 = .ok (.iastore, 1) := by decide +kernel
theorem dX8_keep_33 : decode cX8_keep 33 = .ok (.iinc 1 1, 3) := by decide +kernel
theorem dX8_keep_36 : decode cX8_keep 36 = .ok (.goto (-25), 3) := by decide +kernel
theorem dX8_keep_39 : decode cX8_keep 39 = .ok (.aload_n 0, 1) := by decide +kernel
theorem dX8_keep_40 : decode cX8_keep 40 = .ok (.dup, 1) := by decide +kernel
theorem dX8_keep_41 : decode cX8_keep 41 = .ok (.getfield 149, 3) := by decide +kernel
theorem dX8_keep_44 : decode cX8_keep 44 = .ok (.iconst 1, 1) := by decide +kernel
theorem dX8_keep_45 : decode cX8_keep 45 = .ok (.isub, 1) := by decide +kernel
theorem dX8_keep_46 : decode cX8_keep 46 = .ok (.putfield 149, 3) := by decide +kernel
theorem dX8_keep_49 : decode cX8_keep 49 = .ok (.iconst 0, 1) := by decide +kernel
theorem dX8_keep_50 : decode cX8_keep 50 = .ok (.istore_n 1, 1) := by decide +kernel
theorem dX8_keep_51 : decode cX8_keep 51 = .ok (.iload_n 1, 1) := by decide +kernel
theorem dX8_keep_52 : decode cX8_keep 52 = .ok (.bipush 43, 2) := by decide +kernel
theorem dX8_keep_54 : decode cX8_keep 54 = .ok (.if_icmp .ge 29, 3) := by decide +kernel
theorem dX8_keep_57 : decode cX8_keep 57 = .ok (.aload_n 0, 1) := by decide +kernel
theorem dX8_keep_58 : decode cX8_keep 58 = .ok (.getfield 28, 3) := by decide +kernel
theorem dX8_keep_61 : decode cX8_keep 61 = .ok (.bipush 43, 2) := by decide +kernel
theorem dX8_keep_63 : decode cX8_keep 63 = .ok (.aload_n 0, 1) := by decide +kernel
theorem dX8_keep_64 : decode cX8_keep 64 = .ok (.getfield 149, 3) := by decide +kernel
theorem dX8_keep_67 : decode cX8_keep 67 = .ok (.imul, 1) := by decide +kernel
theorem dX8_keep_68 : decode cX8_keep 68 = .ok (.iload_n 1, 1) := by decide +kernel
theorem dX8_keep_69 : decode cX8_keep 69 = .ok (.iadd, 1) := by decide +kernel
theorem dX8_keep_70 : decode cX8_keep 70 = .ok (.aload_n 0, 1) := by decide +kernel
theorem dX8_keep_71 : decode cX8_keep 71 = .ok (.getfield 19, 3) := by decide +kernel
theorem dX8_keep_74 : decode cX8_keep 74 = .ok (.iload_n 1, 1) := by decide +kernel
theorem dX8_keep_75 : decode cX8_keep 75 = .ok (.iaload, 1) := by decide +kernel
theorem dX8_keep_76 : decode cX8_keep 76 = .ok (.iastore, 1) := by decide +kernel
theorem dX8_keep_77 : decode cX8_keep 77 = .ok (.iinc 1 1, 3) := by decide +kernel
theorem dX8_keep_80 : decode cX8_keep 80 = .ok (.goto (-29), 3) := by decide +kernel
theorem dX8_keep_83 : decode cX8_keep 83 = .ok (.aload_n 0, 1) := by decide +kernel
theorem dX8_keep_84 : decode cX8_keep 84 = .ok (.dup, 1) := by decide +kernel
theorem dX8_keep_85 : decode cX8_keep 85 = .ok (.getfield 149, 3) := by decide +kernel
theorem dX8_keep_88 : decode cX8_keep 88 = .ok (.iconst 1, 1) := by decide +kernel
theorem dX8_keep_89 : decode cX8_keep 89 = .ok (.iadd, 1) := by decide +kernel
theorem dX8_keep_90 : decode cX8_keep 90 = .ok (.putfield 149, 3) := by decide +kernel
theorem dX8_keep_93 : decode cX8_keep 93 = .ok (.return_, 1) := by decide +kernel
theorem dX8_years_0 : decode cX8_years 0 = .ok (.aload_n 0, 1) := by decide +kernel
theorem dX8_years_1 : decode cX8_years 1 = .ok (.iconst 0, 1) := by decide +kernel
theorem dX8_years_2 : decode cX8_years 2 = .ok (.putfield 50, 3) := by decide +kernel
theorem dX8_years_5 : decode cX8_years 5 = .ok (.aload_n 0, 1) := by decide +kernel
theorem dX8_years_6 : decode cX8_years 6 = .ok (.invokevirtual 196, 3) := by decide +kernel
theorem dX8_years_9 : decode cX8_years 9 = .ok (.ifCond .ne 6, 3) := by decide +kernel
theorem dX8_years_12 : decode cX8_years 12 = .ok (.ldc 199, 2) := by decide +kernel
theorem dX8_years_14 : decode cX8_years 14 = .ok (.ireturn, 1) := by decide +kernel
theorem dX8_years_15 : decode cX8_years 15 = .ok (.iload_n 1, 1) := by decide +kernel
theorem dX8_years_16 : decode cX8_years 16 = .ok (.i2l, 1) := by decide +kernel
theorem dX8_years_17 : decode cX8_years 17 = .ok (.lconst 1, 1) := by decide +kernel
theorem dX8_years_18 : decode cX8_years 18 = .ok (.ldc2_w 200, 3) := by decide +kernel
theorem dX8_years_21 : decode cX8_years 21 = .ok (.invokestatic 60, 3) := by decide +kernel
theorem dX8_years_24 : decode cX8_years 24 = .ok (.ifCond .ne 6, 3) := by decide +kernel
theorem dX8_years_27 : decode cX8_years 27 = .ok (.ldc 70, 2) := by decide +kernel
theorem dX8_years_29 : decode cX8_years 29 = .ok (.ireturn, 1) := by decide +kernel
theorem dX8_years_30 : decode cX8_years 30 = .ok (.aload_n 0, 1) := by decide +kernel
theorem dX8_years_31 : decode cX8_years 31 = .ok (.getfield 19, 3) := by decide +kernel
theorem dX8_years_34 : decode cX8_years 34 = .ok (.iconst 1, 1) := by decide +kernel
theorem dX8_years_35 : decode cX8_years 35 = .ok (.iaload, 1) := by decide +kernel
theorem dX8_years_36 : decode cX8_years 36 = .ok (.iload_n 1, 1) := by decide +kernel
theorem dX8_years_37 : decode cX8_years 37 = .ok (.iadd, 1) := by decide +kernel
theorem dX8_years_38 : decode cX8_years 38 = .ok (.sipush 999, 3) := by decide +kernel
theorem dX8_years_41 : decode cX8_years 41 = .ok (.if_icmp .le 6, 3) := by decide +kernel
theorem dX8_years_44 : decode cX8_years 44 = .ok (.ldc 80, 2) := by decide +kernel
theorem dX8_years_46 : decode cX8_years 46 = .ok (.ireturn, 1) := by decide +kernel
theorem dX8_years_47 : decode cX8_years 47 = .ok (.iconst 0, 1) := by decide +kernel
theorem dX8_years_48 : decode cX8_years 48 = .ok (.istore_n 2, 1) := by decide +kernel
theorem dX8_years_49 : decode cX8_years 49 = .ok (.iload_n 2, 1) := by decide +kernel
theorem dX8_years_50 : decode cX8_years 50 = .ok (.iload_n 1, 1) := by decide +kernel
theorem dX8_years_51 : decode cX8_years 51 = .ok (.if_icmp .ge 20, 3) := by decide +kernel
theorem dX8_years_54 : decode cX8_years 54 = .ok (.aload_n 0, 1) := by decide +kernel
theorem dX8_years_55 : decode cX8_years 55 = .ok (.invokevirtual 202, 3) := by decide +kernel
theorem dX8_years_58 : decode cX8_years 58 = .ok (.aload_n 0, 1) := by decide +kernel
theorem dX8_years_59 : decode cX8_years 59 = .ok (.getfield 19, 3) := by decide +kernel
theorem dX8_years_62 : decode cX8_years 62 = .ok (.invokestatic 205, 3) := by decide +kernel
theorem dX8_years_65 : decode cX8_years 65 = .ok (.iinc 2 1, 3) := by decide +kernel
theorem dX8_years_68 : decode cX8_years 68 = .ok (.goto (-19), 3) := by decide +kernel
theorem dX8_years_71 : decode cX8_years 71 = .ok (.aload_n 0, 1) := by decide +kernel
theorem dX8_years_72 : decode cX8_years 72 = .ok (.getfield 19, 3) := by decide +kernel
theorem dX8_years_75 : decode cX8_years 75 = .ok (.iconst 0, 1) := by decide +kernel
theorem dX8_years_76 : decode cX8_years 76 = .ok (.invokestatic 175, 3) := by decide +kernel
theorem dX8_years_79 : decode cX8_years 79 = .ok (.ireturn, 1) := by decide +kernel
theorem dX8_sneeze_0 : decode cX8_sneeze 0 = .ok (.aload_n 0, 1) := by decide +kernel
theorem dX8_sneeze_1 : decode cX8_sneeze 1 = .ok (.iconst 0, 1) := by decide +kernel
theorem dX8_sneeze_2 : decode cX8_sneeze 2 = .ok (.putfield 50, 3) := by decide +kernel
theorem dX8_sneeze_5 : decode cX8_sneeze 5 = .ok (.iload_n 1, 1) := by decide +kernel
theorem dX8_sneeze_6 : decode cX8_sneeze 6 = .ok (.i2l, 1) := by decide +kernel
theorem dX8_sneeze_7 : decode cX8_sneeze 7 = .ok (.invokestatic 209, 3) := by decide +kernel
theorem dX8_sneeze_10 : decode cX8_sneeze 10 = .ok (.ifCond .eq 11, 3) := by decide +kernel
theorem dX8_sneeze_13 : decode cX8_sneeze 13 = .ok (.aload_n 0, 1) := by decide +kernel
theorem dX8_sneeze_14 : decode cX8_sneeze 14 = .ok (.iload_n 2, 1) := by decide +kernel
theorem dX8_sneeze_15 : decode cX8_sneeze 15 = .ok (.invokevirtual 213, 3) := by decide +kernel
theorem dX8_sneeze_18 : decode cX8_sneeze 18 = .ok (.ifCond .ne 6, 3) := by decide +kernel
theorem dX8_sneeze_21 : decode cX8_sneeze 21 = .ok (.ldc 70, 2) := by decide +kernel
theorem dX8_sneeze_23 : decode cX8_sneeze 23 = .ok (.ireturn, 1) := by decide +kernel
theorem dX8_sneeze_24 : decode cX8_sneeze 24 = .ok (.aload_n 0, 1) := by decide +kernel
theorem dX8_sneeze_25 : decode cX8_sneeze 25 = .ok (.invokevirtual 202, 3) := by decide +kernel
theorem dX8_sneeze_28 : decode cX8_sneeze 28 = .ok (.aload_n 0, 1) := by decide +kernel
theorem dX8_sneeze_29 : decode cX8_sneeze 29 = .ok (.getfield 19, 3) := by decide +kernel
theorem dX8_sneeze_32 : decode cX8_sneeze 32 = .ok (.iconst 0, 1) := by decide +kernel
theorem dX8_sneeze_33 : decode cX8_sneeze 33 = .ok (.invokestatic 175, 3) := by decide +kernel
theorem dX8_sneeze_36 : decode cX8_sneeze 36 = .ok (.istore_n 3, 1) := by decide +kernel
theorem dX8_sneeze_37 : decode cX8_sneeze 37 = .ok (.aload_n 0, 1) := by decide +kernel
theorem dX8_sneeze_38 : decode cX8_sneeze 38 = .ok (.aload_n 0, 1) := by decide +kernel
theorem dX8_sneeze_39 : decode cX8_sneeze 39 = .ok (.getfield 19, 3) := by decide +kernel
theorem dX8_sneeze_42 : decode cX8_sneeze 42 = .ok (.iload_n 1, 1) := by decide +kernel
theorem dX8_sneeze_43 : decode cX8_sneeze 43 = .ok (.iload_n 2, 1) := by decide +kernel
theorem dX8_sneeze_44 : decode cX8_sneeze 44 = .ok (.invokevirtual 216, 3) := by decide +kernel
theorem dX8_sneeze_47 : decode cX8_sneeze 47 = .ok (.iload_n 3, 1) := by decide +kernel
theorem dX8_sneeze_48 : decode cX8_sneeze 48 = .ok (.aload_n 0, 1) := by decide +kernel
theorem dX8_sneeze_49 : decode cX8_sneeze 49 = .ok (.getfield 19, 3) := by decide +kernel
theorem dX8_sneeze_52 : decode cX8_sneeze 52 = .ok (.iconst 0, 1) := by decide +kernel
theorem dX8_sneeze_53 : decode cX8_sneeze 53 = .ok (.invokestatic 175, 3) := by decide +kernel
theorem dX8_sneeze_56 : decode cX8_sneeze 56 = .ok (.iconst (-1), 1) := by decide +kernel
theorem dX8_sneeze_57 : decode cX8_sneeze 57 = .ok (.ixor, 1) := by decide +kernel
theorem dX8_sneeze_58 : decode cX8_sneeze 58 = .ok (.iand, 1) := by decide +kernel
theorem dX8_sneeze_59 : decode cX8_sneeze 59 = .ok (.ireturn, 1) := by decide +kernel
theorem dX8_open_0 : decode cX8_open 0 = .ok (.aload_n 0, 1) := by decide +kernel
theorem dX8_open_1 : decode cX8_open 1 = .ok (.iconst 0, 1) := by decide +kernel
theorem dX8_open_2 : decode cX8_open 2 = .ok (.putfield 50, 3) := by decide +kernel
theorem dX8_open_5 : decode cX8_open 5 = .ok (.aload_n 0, 1) := by decide +kernel
theorem dX8_open_6 : decode cX8_open 6 = .ok (.iload_n 1, 1) := by decide +kernel
theorem dX8_open_7 : decode cX8_open 7 = .ok (.invokevirtual 213, 3) := by decide +kernel
theorem dX8_open_10 : decode cX8_open 10 = .ok (.ifCond .ne 6, 3) := by decide +kernel
theorem dX8_open_13 : decode cX8_open 13 = .ok (.ldc 70, 2) := by decide +kernel
theorem dX8_open_15 : decode cX8_open 15 = .ok (.ireturn, 1) := by decide +kernel
theorem dX8_open_16 : decode cX8_open 16 = .ok (.aload_n 0, 1) := by decide +kernel
theorem dX8_open_17 : decode cX8_open 17 = .ok (.getfield 19, 3) := by decide +kernel
theorem dX8_open_20 : decode cX8_open 20 = .ok (.iload_n 1, 1) := by decide +kernel
theorem dX8_open_21 : decode cX8_open 21 = .ok (.iconst 4, 1) := by decide +kernel
theorem dX8_open_22 : decode cX8_open 22 = .ok (.invokestatic 154, 3) := by decide +kernel
theorem dX8_open_25 : decode cX8_open 25 = .ok (.ifCond .eq 6, 3) := by decide +kernel
theorem dX8_open_28 : decode cX8_open 28 = .ok (.ldc 199, 2) := by decide +kernel
theorem dX8_open_30 : decode cX8_open 30 = .ok (.ireturn, 1) := by decide +kernel
theorem dX8_open_31 : decode cX8_open 31 = .ok (.aload_n 0, 1) := by decide +kernel
theorem dX8_open_32 : decode cX8_open 32 = .ok (.invokevirtual 202, 3) := by decide +kernel
theorem dX8_open_35 : decode cX8_open 35 = .ok (.aload_n 0, 1) := by decide +kernel
theorem dX8_open_36 : decode cX8_open 36 = .ok (.getfield 19, 3) := by decide +kernel
theorem dX8_open_39 : decode cX8_open 39 = .ok (.iload_n 1, 1) := by decide +kernel
theorem dX8_open_40 : decode cX8_open 40 = .ok (.iconst 4, 1) := by decide +kernel
theorem dX8_open_41 : decode cX8_open 41 = .ok (.iconst 3, 1) := by decide +kernel
theorem dX8_open_42 : decode cX8_open 42 = .ok (.invokestatic 192, 3) := by decide +kernel
theorem dX8_open_45 : decode cX8_open 45 = .ok (.aload_n 0, 1) := by decide +kernel
theorem dX8_open_46 : decode cX8_open 46 = .ok (.getfield 19, 3) := by decide +kernel
theorem dX8_open_49 : decode cX8_open 49 = .ok (.iload_n 1, 1) := by decide +kernel
theorem dX8_open_50 : decode cX8_open 50 = .ok (.iconst 1, 1) := by decide +kernel
theorem dX8_open_51 : decode cX8_open 51 = .ok (.invokestatic 154, 3) := by decide +kernel
theorem dX8_open_54 : decode cX8_open 54 = .ok (.ireturn, 1) := by decide +kernel
theorem dX8_change_0 : decode cX8_change 0 = .ok (.aload_n 0, 1) := by decide +kernel
theorem dX8_change_1 : decode cX8_change 1 = .ok (.iconst 0, 1) := by decide +kernel
theorem dX8_change_2 : decode cX8_change 2 = .ok (.putfield 50, 3) := by decide +kernel
theorem dX8_change_5 : decode cX8_change 5 = .ok (.aload_n 0, 1) := by decide +kernel
theorem dX8_change_6 : decode cX8_change 6 = .ok (.iload_n 1, 1) := by decide +kernel
theorem dX8_change_7 : decode cX8_change 7 = .ok (.invokevirtual 213, 3) := by decide +kernel
theorem dX8_change_10 : decode cX8_change 10 = .ok (.ifCond .eq 16, 3) := by decide +kernel
theorem dX8_change_13 : decode cX8_change 13 = .ok (.aload_n 0, 1) := by decide +kernel
theorem dX8_change_14 : decode cX8_change 14 = .ok (.iload_n 2, 1) := by decide +kernel
theorem dX8_change_15 : decode cX8_change 15 = .ok (.invokevirtual 213, 3) := by decide +kernel
theorem dX8_change_18 : decode cX8_change 18 = .ok (.ifCond .eq 8, 3) := by decide +kernel
theorem dX8_change_21 : decode cX8_change 21 = .ok (.iload_n 1, 1) := by decide +kernel
theorem dX8_change_22 : decode cX8_change 22 = .ok (.iload_n 2, 1) := by decide +kernel
theorem dX8_change_23 : decode cX8_change 23 = .ok (.if_icmp .ne 6, 3) := by decide +kernel
theorem dX8_change_26 : decode cX8_change 26 = .ok (.ldc 70, 2) := by decide +kernel
theorem dX8_change_28 : decode cX8_change 28 = .ok (.ireturn, 1) := by decide +kernel
theorem dX8_change_29 : decode cX8_change 29 = .ok (.aload_n 0, 1) := by decide +kernel
theorem dX8_change_30 : decode cX8_change 30 = .ok (.invokevirtual 202, 3) := by decide +kernel
theorem dX8_change_33 : decode cX8_change 33 = .ok (.aload_n 0, 1) := by decide +kernel
theorem dX8_change_34 : decode cX8_change 34 = .ok (.getfield 19, 3) := by decide +kernel
theorem dX8_change_37 : decode cX8_change 37 = .ok (.iload_n 1, 1) := by decide +kernel
theorem dX8_change_38 : decode cX8_change 38 = .ok (.iload_n 2, 1) := by decide +kernel
theorem dX8_change_39 : decode cX8_change 39 = .ok (.invokestatic 220, 3) := by decide +kernel
theorem dX8_change_42 : decode cX8_change 42 = .ok (.aload_n 0, 1) := by decide +kernel
theorem dX8_change_43 : decode cX8_change 43 = .ok (.getfield 19, 3) := by decide +kernel
theorem dX8_change_46 : decode cX8_change 46 = .ok (.iload_n 1, 1) := by decide +kernel
theorem dX8_change_47 : decode cX8_change 47 = .ok (.iconst 3, 1) := by decide +kernel
theorem dX8_change_48 : decode cX8_change 48 = .ok (.invokestatic 154, 3) := by decide +kernel
theorem dX8_change_51 : decode cX8_change 51 = .ok (.ireturn, 1) := by decide +kernel
theorem dX8_seal_0 : decode cX8_seal 0 = .ok (.aload_n 0, 1) := by decide +kernel
theorem dX8_seal_1 : decode cX8_seal 1 = .ok (.iconst 0, 1) := by decide +kernel
theorem dX8_seal_2 : decode cX8_seal 2 = .ok (.putfield 50, 3) := by decide +kernel
theorem dX8_seal_5 : decode cX8_seal 5 = .ok (.aload_n 0, 1) := by decide +kernel
theorem dX8_seal_6 : decode cX8_seal 6 = .ok (.iload_n 1, 1) := by decide +kernel
theorem dX8_seal_7 : decode cX8_seal 7 = .ok (.invokevirtual 213, 3) := by decide +kernel
theorem dX8_seal_10 : decode cX8_seal 10 = .ok (.ifCond .eq 23, 3) := by decide +kernel
theorem dX8_seal_13 : decode cX8_seal 13 = .ok (.iload_n 2, 1) := by decide +kernel
theorem dX8_seal_14 : decode cX8_seal 14 = .ok (.i2l, 1) := by decide +kernel
theorem dX8_seal_15 : decode cX8_seal 15 = .ok (.invokestatic 209, 3) := by decide +kernel
theorem dX8_seal_18 : decode cX8_seal 18 = .ok (.ifCond .eq 15, 3) := by decide +kernel
theorem dX8_seal_21 : decode cX8_seal 21 = .ok (.iload_n 3, 1) := by decide +kernel
theorem dX8_seal_22 : decode cX8_seal 22 = .ok (.i2l, 1) := by decide +kernel
theorem dX8_seal_23 : decode cX8_seal 23 = .ok (.lconst 1, 1) := by decide +kernel
theorem dX8_seal_24 : decode cX8_seal 24 = .ok (.ldc2_w 223, 3) := by decide +kernel
theorem dX8_seal_27 : decode cX8_seal 27 = .ok (.invokestatic 60, 3) := by decide +kernel
theorem dX8_seal_30 : decode cX8_seal 30 = .ok (.ifCond .ne 6, 3) := by decide +kernel
theorem dX8_seal_33 : decode cX8_seal 33 = .ok (.ldc 70, 2) := by decide +kernel
theorem dX8_seal_35 : decode cX8_seal 35 = .ok (.ireturn, 1) := by decide +kernel
theorem dX8_seal_36 : decode cX8_seal 36 = .ok (.aload_n 0, 1) := by decide +kernel
theorem dX8_seal_37 : decode cX8_seal 37 = .ok (.getfield 19, 3) := by decide +kernel
theorem dX8_seal_40 : decode cX8_seal 40 = .ok (.iload_n 1, 1) := by decide +kernel
theorem dX8_seal_41 : decode cX8_seal 41 = .ok (.iconst 4, 1) := by decide +kernel
theorem dX8_seal_42 : decode cX8_seal 42 = .ok (.invokestatic 154, 3) := by decide +kernel
theorem dX8_seal_45 : decode cX8_seal 45 = .ok (.ifCond .ne 6, 3) := by decide +kernel
theorem dX8_seal_48 : decode cX8_seal 48 = .ok (.ldc 199, 2) := by decide +kernel
theorem dX8_seal_50 : decode cX8_seal 50 = .ok (.ireturn, 1) := by decide +kernel
theorem dX8_seal_51 : decode cX8_seal 51 = .ok (.aload_n 0, 1) := by decide +kernel
theorem dX8_seal_52 : decode cX8_seal 52 = .ok (.invokevirtual 202, 3) := by decide +kernel
theorem dX8_seal_55 : decode cX8_seal 55 = .ok (.aload_n 0, 1) := by decide +kernel
theorem dX8_seal_56 : decode cX8_seal 56 = .ok (.getfield 19, 3) := by decide +kernel
theorem dX8_seal_59 : decode cX8_seal 59 = .ok (.iload_n 1, 1) := by decide +kernel
theorem dX8_seal_60 : decode cX8_seal 60 = .ok (.iconst 4, 1) := by decide +kernel
theorem dX8_seal_61 : decode cX8_seal 61 = .ok (.iconst 0, 1) := by decide +kernel
theorem dX8_seal_62 : decode cX8_seal 62 = .ok (.invokestatic 192, 3) := by decide +kernel
theorem dX8_seal_65 : decode cX8_seal 65 = .ok (.aload_n 0, 1) := by decide +kernel
theorem dX8_seal_66 : decode cX8_seal 66 = .ok (.getfield 19, 3) := by decide +kernel
theorem dX8_seal_69 : decode cX8_seal 69 = .ok (.iload_n 1, 1) := by decide +kernel
theorem dX8_seal_70 : decode cX8_seal 70 = .ok (.iconst 1, 1) := by decide +kernel
theorem dX8_seal_71 : decode cX8_seal 71 = .ok (.iload_n 2, 1) := by decide +kernel
theorem dX8_seal_72 : decode cX8_seal 72 = .ok (.invokestatic 192, 3) := by decide +kernel
theorem dX8_seal_75 : decode cX8_seal 75 = .ok (.aload_n 0, 1) := by decide +kernel
theorem dX8_seal_76 : decode cX8_seal 76 = .ok (.getfield 19, 3) := by decide +kernel
theorem dX8_seal_79 : decode cX8_seal 79 = .ok (.iload_n 1, 1) := by decide +kernel
theorem dX8_seal_80 : decode cX8_seal 80 = .ok (.iconst 2, 1) := by decide +kernel
theorem dX8_seal_81 : decode cX8_seal 81 = .ok (.iload_n 3, 1) := by decide +kernel
theorem dX8_seal_82 : decode cX8_seal 82 = .ok (.invokestatic 192, 3) := by decide +kernel
theorem dX8_seal_85 : decode cX8_seal 85 = .ok (.aload_n 0, 1) := by decide +kernel
theorem dX8_seal_86 : decode cX8_seal 86 = .ok (.getfield 19, 3) := by decide +kernel
theorem dX8_seal_89 : decode cX8_seal 89 = .ok (.iconst 0, 1) := by decide +kernel
theorem dX8_seal_90 : decode cX8_seal 90 = .ok (.invokestatic 175, 3) := by decide +kernel
theorem dX8_seal_93 : decode cX8_seal 93 = .ok (.ireturn, 1) := by decide +kernel
theorem dX8_reach_0 : decode cX8_reach 0 = .ok (.aload_n 0, 1) := by decide +kernel
theorem dX8_reach_1 : decode cX8_reach 1 = .ok (.iconst 0, 1) := by decide +kernel
theorem dX8_reach_2 : decode cX8_reach 2 = .ok (.putfield 50, 3) := by decide +kernel
theorem dX8_reach_5 : decode cX8_reach 5 = .ok (.aload_n 0, 1) := by decide +kernel
theorem dX8_reach_6 : decode cX8_reach 6 = .ok (.invokevirtual 196, 3) := by decide +kernel
theorem dX8_reach_9 : decode cX8_reach 9 = .ok (.ifCond .ne 6, 3) := by decide +kernel
theorem dX8_reach_12 : decode cX8_reach 12 = .ok (.ldc 199, 2) := by decide +kernel
theorem dX8_reach_14 : decode cX8_reach 14 = .ok (.ireturn, 1) := by decide +kernel
theorem dX8_reach_15 : decode cX8_reach 15 = .ok (.iload_n 1, 1) := by decide +kernel
theorem dX8_reach_16 : decode cX8_reach 16 = .ok (.i2l, 1) := by decide +kernel
theorem dX8_reach_17 : decode cX8_reach 17 = .ok (.lconst 0, 1) := by decide +kernel
theorem dX8_reach_18 : decode cX8_reach 18 = .ok (.ldc2_w 225, 3) := by decide +kernel
theorem dX8_reach_21 : decode cX8_reach 21 = .ok (.invokestatic 60, 3) := by decide +kernel
theorem dX8_reach_24 : decode cX8_reach 24 = .ok (.ifCond .ne 6, 3) := by decide +kernel
theorem dX8_reach_27 : decode cX8_reach 27 = .ok (.ldc 70, 2) := by decide +kernel
theorem dX8_reach_29 : decode cX8_reach 29 = .ok (.ireturn, 1) := by decide +kernel
theorem dX8_reach_30 : decode cX8_reach 30 = .ok (.aload_n 0, 1) := by decide +kernel
theorem dX8_reach_31 : decode cX8_reach 31 = .ok (.invokevirtual 202, 3) := by decide +kernel
theorem dX8_reach_34 : decode cX8_reach 34 = .ok (.aload_n 0, 1) := by decide +kernel
theorem dX8_reach_35 : decode cX8_reach 35 = .ok (.getfield 19, 3) := by decide +kernel
theorem dX8_reach_38 : decode cX8_reach 38 = .ok (.iconst 2, 1) := by decide +kernel
theorem dX8_reach_39 : decode cX8_reach 39 = .ok (.iaload, 1) := by decide +kernel
theorem dX8_reach_40 : decode cX8_reach 40 = .ok (.istore_n 2, 1) := by decide +kernel
theorem dX8_reach_41 : decode cX8_reach 41 = .ok (.aload_n 0, 1) := by decide +kernel
theorem dX8_reach_42 : decode cX8_reach 42 = .ok (.getfield 19, 3) := by decide +kernel
theorem dX8_reach_45 : decode cX8_reach 45 = .ok (.iconst 2, 1) := by decide +kernel
theorem dX8_reach_46 : decode cX8_reach 46 = .ok (.iload_n 1, 1) := by decide +kernel
theorem dX8_reach_47 : decode cX8_reach 47 = .ok (.iastore, 1) := by decide +kernel
theorem dX8_reach_48 : decode cX8_reach 48 = .ok (.iload_n 2, 1) := by decide +kernel
theorem dX8_reach_49 : decode cX8_reach 49 = .ok (.ireturn, 1) := by decide +kernel
theorem dX8_undo_0 : decode cX8_undo 0 = .ok (.aload_n 0, 1) := by decide +kernel
theorem dX8_undo_1 : decode cX8_undo 1 = .ok (.iconst 0, 1) := by decide +kernel
theorem dX8_undo_2 : decode cX8_undo 2 = .ok (.putfield 50, 3) := by decide +kernel
theorem dX8_undo_5 : decode cX8_undo 5 = .ok (.aload_n 0, 1) := by decide +kernel
theorem dX8_undo_6 : decode cX8_undo 6 = .ok (.getfield 149, 3) := by decide +kernel
theorem dX8_undo_9 : decode cX8_undo 9 = .ok (.ifCond .ne 6, 3) := by decide +kernel
theorem dX8_undo_12 : decode cX8_undo 12 = .ok (.ldc 199, 2) := by decide +kernel
theorem dX8_undo_14 : decode cX8_undo 14 = .ok (.ireturn, 1) := by decide +kernel
theorem dX8_undo_15 : decode cX8_undo 15 = .ok (.aload_n 0, 1) := by decide +kernel
theorem dX8_undo_16 : decode cX8_undo 16 = .ok (.dup, 1) := by decide +kernel
theorem dX8_undo_17 : decode cX8_undo 17 = .ok (.getfield 149, 3) := by decide +kernel
theorem dX8_undo_20 : decode cX8_undo 20 = .ok (.iconst 1, 1) := by decide +kernel
theorem dX8_undo_21 : decode cX8_undo 21 = .ok (.isub, 1) := by decide +kernel
theorem dX8_undo_22 : decode cX8_undo 22 = .ok (.putfield 149, 3) := by decide +kernel
theorem dX8_undo_25 : decode cX8_undo 25 = .ok (.iconst 0, 1) := by decide +kernel
theorem dX8_undo_26 : decode cX8_undo 26 = .ok (.istore_n 1, 1) := by decide +kernel
theorem dX8_undo_27 : decode cX8_undo 27 = .ok (.iload_n 1, 1) := by decide +kernel
theorem dX8_undo_28 : decode cX8_undo 28 = .ok (.bipush 43, 2) := by decide +kernel
theorem dX8_undo_30 : decode cX8_undo 30 = .ok (.if_icmp .ge 29, 3) := by decide +kernel
theorem dX8_undo_33 : decode cX8_undo 33 = .ok (.aload_n 0, 1) := by decide +kernel
theorem dX8_undo_34 : decode cX8_undo 34 = .ok (.getfield 19, 3) := by decide +kernel
theorem dX8_undo_37 : decode cX8_undo 37 = .ok (.iload_n 1, 1) := by decide +kernel
theorem dX8_undo_38 : decode cX8_undo 38 = .ok (.aload_n 0, 1) := by decide +kernel
theorem dX8_undo_39 : decode cX8_undo 39 = .ok (.getfield 28, 3) := by decide +kernel
theorem dX8_undo_42 : decode cX8_undo 42 = .ok (.bipush 43, 2) := by decide +kernel
theorem dX8_undo_44 : decode cX8_undo 44 = .ok (.aload_n 0, 1) := by decide +kernel
theorem dX8_undo_45 : decode cX8_undo 45 = .ok (.getfield 149, 3) := by decide +kernel
theorem dX8_undo_48 : decode cX8_undo 48 = .ok (.imul, 1) := by decide +kernel
theorem dX8_undo_49 : decode cX8_undo 49 = .ok (.iload_n 1, 1) := by decide +kernel
theorem dX8_undo_50 : decode cX8_undo 50 = .ok (.iadd, 1) := by decide +kernel
theorem dX8_undo_51 : decode cX8_undo 51 = .ok (.iaload, 1) := by decide +kernel
theorem dX8_undo_52 : decode cX8_undo 52 = .ok (.iastore, 1) := by decide +kernel
theorem dX8_undo_53 : decode cX8_undo 53 = .ok (.iinc 1 1, 3) := by decide +kernel
theorem dX8_undo_56 : decode cX8_undo 56 = .ok (.goto (-29), 3) := by decide +kernel
theorem dX8_undo_59 : decode cX8_undo 59 = .ok (.aload_n 0, 1) := by decide +kernel
theorem dX8_undo_60 : decode cX8_undo 60 = .ok (.getfield 149, 3) := by decide +kernel
theorem dX8_undo_63 : decode cX8_undo 63 = .ok (.ireturn, 1) := by decide +kernel
theorem dX8_jar_0 : decode cX8_jar 0 = .ok (.aload_n 0, 1) := by decide +kernel
theorem dX8_jar_1 : decode cX8_jar 1 = .ok (.iconst 0, 1) := by decide +kernel
theorem dX8_jar_2 : decode cX8_jar 2 = .ok (.putfield 50, 3) := by decide +kernel
theorem dX8_jar_5 : decode cX8_jar 5 = .ok (.aload_n 0, 1) := by decide +kernel
theorem dX8_jar_6 : decode cX8_jar 6 = .ok (.iload_n 1, 1) := by decide +kernel
theorem dX8_jar_7 : decode cX8_jar 7 = .ok (.invokevirtual 213, 3) := by decide +kernel
theorem dX8_jar_10 : decode cX8_jar 10 = .ok (.ifCond .eq 29, 3) := by decide +kernel
theorem dX8_jar_13 : decode cX8_jar 13 = .ok (.iload_n 2, 1) := by decide +kernel
theorem dX8_jar_14 : decode cX8_jar 14 = .ok (.i2l, 1) := by decide +kernel
theorem dX8_jar_15 : decode cX8_jar 15 = .ok (.lconst 0, 1) := by decide +kernel
theorem dX8_jar_16 : decode cX8_jar 16 = .ok (.ldc2_w 227, 3) := by decide +kernel
theorem dX8_jar_19 : decode cX8_jar 19 = .ok (.invokestatic 60, 3) := by decide +kernel
theorem dX8_jar_22 : decode cX8_jar 22 = .ok (.ifCond .eq 17, 3) := by decide +kernel
theorem dX8_jar_25 : decode cX8_jar 25 = .ok (.aload_n 0, 1) := by decide +kernel
theorem dX8_jar_26 : decode cX8_jar 26 = .ok (.getfield 19, 3) := by decide +kernel
theorem dX8_jar_29 : decode cX8_jar 29 = .ok (.iload_n 1, 1) := by decide +kernel
theorem dX8_jar_30 : decode cX8_jar 30 = .ok (.iload_n 2, 1) := by decide +kernel
theorem dX8_jar_31 : decode cX8_jar 31 = .ok (.iconst 1, 1) := by decide +kernel
theorem dX8_jar_32 : decode cX8_jar 32 = .ok (.iadd, 1) := by decide +kernel
theorem dX8_jar_33 : decode cX8_jar 33 = .ok (.invokestatic 154, 3) := by decide +kernel
theorem dX8_jar_36 : decode cX8_jar 36 = .ok (.goto 5, 3) := by decide +kernel
theorem dX8_jar_39 : decode cX8_jar 39 = .ok (.ldc 70, 2) := by decide +kernel
theorem dX8_jar_41 : decode cX8_jar 41 = .ok (.ireturn, 1) := by decide +kernel
theorem dX8_stand_0 : decode cX8_stand 0 = .ok (.aload_n 0, 1) := by decide +kernel
theorem dX8_stand_1 : decode cX8_stand 1 = .ok (.iconst 0, 1) := by decide +kernel
theorem dX8_stand_2 : decode cX8_stand 2 = .ok (.putfield 50, 3) := by decide +kernel
theorem dX8_stand_5 : decode cX8_stand 5 = .ok (.aload_n 0, 1) := by decide +kernel
theorem dX8_stand_6 : decode cX8_stand 6 = .ok (.invokevirtual 196, 3) := by decide +kernel
theorem dX8_stand_9 : decode cX8_stand 9 = .ok (.ifCond .ne 6, 3) := by decide +kernel
theorem dX8_stand_12 : decode cX8_stand 12 = .ok (.ldc 199, 2) := by decide +kernel
theorem dX8_stand_14 : decode cX8_stand 14 = .ok (.ireturn, 1) := by decide +kernel
theorem dX8_stand_15 : decode cX8_stand 15 = .ok (.iload_n 1, 1) := by decide +kernel
theorem dX8_stand_16 : decode cX8_stand 16 = .ok (.i2l, 1) := by decide +kernel
theorem dX8_stand_17 : decode cX8_stand 17 = .ok (.lconst 0, 1) := by decide +kernel
theorem dX8_stand_18 : decode cX8_stand 18 = .ok (.ldc2_w 227, 3) := by decide +kernel
theorem dX8_stand_21 : decode cX8_stand 21 = .ok (.invokestatic 60, 3) := by decide +kernel
theorem dX8_stand_24 : decode cX8_stand 24 = .ok (.ifCond .eq 14, 3) := by decide +kernel
theorem dX8_stand_27 : decode cX8_stand 27 = .ok (.aload_n 0, 1) := by decide +kernel
theorem dX8_stand_28 : decode cX8_stand 28 = .ok (.getfield 19, 3) := by decide +kernel
theorem dX8_stand_31 : decode cX8_stand 31 = .ok (.iload_n 1, 1) := by decide +kernel
theorem dX8_stand_32 : decode cX8_stand 32 = .ok (.invokestatic 175, 3) := by decide +kernel
theorem dX8_stand_35 : decode cX8_stand 35 = .ok (.goto 5, 3) := by decide +kernel
theorem dX8_stand_38 : decode cX8_stand 38 = .ok (.ldc 70, 2) := by decide +kernel
theorem dX8_stand_40 : decode cX8_stand 40 = .ok (.ireturn, 1) := by decide +kernel
theorem dX8_chain_0 : decode cX8_chain 0 = .ok (.aload_n 0, 1) := by decide +kernel
theorem dX8_chain_1 : decode cX8_chain 1 = .ok (.iconst 0, 1) := by decide +kernel
theorem dX8_chain_2 : decode cX8_chain 2 = .ok (.putfield 50, 3) := by decide +kernel
theorem dX8_chain_5 : decode cX8_chain 5 = .ok (.iload_n 1, 1) := by decide +kernel
theorem dX8_chain_6 : decode cX8_chain 6 = .ok (.i2l, 1) := by decide +kernel
theorem dX8_chain_7 : decode cX8_chain 7 = .ok (.invokestatic 209, 3) := by decide +kernel
theorem dX8_chain_10 : decode cX8_chain 10 = .ok (.ifCond .eq 21, 3) := by decide +kernel
theorem dX8_chain_13 : decode cX8_chain 13 = .ok (.aload_n 0, 1) := by decide +kernel
theorem dX8_chain_14 : decode cX8_chain 14 = .ok (.iload_n 2, 1) := by decide +kernel
theorem dX8_chain_15 : decode cX8_chain 15 = .ok (.invokevirtual 213, 3) := by decide +kernel
theorem dX8_chain_18 : decode cX8_chain 18 = .ok (.ifCond .eq 13, 3) := by decide +kernel
theorem dX8_chain_21 : decode cX8_chain 21 = .ok (.iload_n 3, 1) := by decide +kernel
theorem dX8_chain_22 : decode cX8_chain 22 = .ok (.i2l, 1) := by decide +kernel
theorem dX8_chain_23 : decode cX8_chain 23 = .ok (.lconst 0, 1) := by decide +kernel
theorem dX8_chain_24 : decode cX8_chain 24 = .ok (.lconst 1, 1) := by decide +kernel
theorem dX8_chain_25 : decode cX8_chain 25 = .ok (.invokestatic 60, 3) := by decide +kernel
theorem dX8_chain_28 : decode cX8_chain 28 = .ok (.ifCond .ne 6, 3) := by decide +kernel
theorem dX8_chain_31 : decode cX8_chain 31 = .ok (.ldc 70, 2) := by decide +kernel
theorem dX8_chain_33 : decode cX8_chain 33 = .ok (.ireturn, 1) := by decide +kernel
theorem dX8_chain_34 : decode cX8_chain 34 = .ok (.aload_n 0, 1) := by decide +kernel
theorem dX8_chain_35 : decode cX8_chain 35 = .ok (.aload_n 0, 1) := by decide +kernel
theorem dX8_chain_36 : decode cX8_chain 36 = .ok (.getfield 19, 3) := by decide +kernel
theorem dX8_chain_39 : decode cX8_chain 39 = .ok (.iload_n 1, 1) := by decide +kernel
theorem dX8_chain_40 : decode cX8_chain 40 = .ok (.iload_n 2, 1) := by decide +kernel
theorem dX8_chain_41 : decode cX8_chain 41 = .ok (.aload_n 0, 1) := by decide +kernel
