theorem dX4_init_0 : decode cX4_init 0 = .ok (.aload_n 0, 1) := by decide +kernel
theorem dX4_init_1 : decode cX4_init 1 = .ok (.invokespecial 3, 3) := by decide +kernel
theorem dX4_init_4 : decode cX4_init 4 = .ok (.aload_n 0, 1) := by decide +kernel
theorem dX4_init_5 : decode cX4_init 5 = .ok (.new 9, 3) := by decide +kernel
theorem dX4_init_8 : decode cX4_init 8 = .ok (.dup, 1) := by decide +kernel
theorem dX4_init_9 : decode cX4_init 9 = .ok (.invokespecial 11, 3) := by decide +kernel
theorem dX4_init_12 : decode cX4_init 12 = .ok (.putfield 12, 3) := by decide +kernel
theorem dX4_init_15 : decode cX4_init 15 = .ok (.aload_n 0, 1) := by decide +kernel
theorem dX4_init_16 : decode cX4_init 16 = .ok (.new 18, 3) := by decide +kernel
theorem dX4_init_19 : decode cX4_init 19 = .ok (.dup, 1) := by decide +kernel
theorem dX4_init_20 : decode cX4_init 20 = .ok (.invokespecial 20, 3) := by decide +kernel
theorem dX4_init_23 : decode cX4_init 23 = .ok (.putfield 21, 3) := by decide +kernel
theorem dX4_init_26 : decode cX4_init 26 = .ok (.return_, 1) := by decide +kernel
theorem dX4_brokenBy_0 : decode cX4_brokenBy 0 = .ok (.aload_n 0, 1) := by decide +kernel
theorem dX4_brokenBy_1 : decode cX4_brokenBy 1 = .ok (.getfield 12, 3) := by decide +kernel
theorem dX4_brokenBy_4 : decode cX4_brokenBy 4 = .ok (.aload_n 1, 1) := by decide +kernel
theorem dX4_brokenBy_5 : decode cX4_brokenBy 5 = .ok (.invokevirtual 25, 3) := by decide +kernel
theorem dX4_brokenBy_8 : decode cX4_brokenBy 8 = .ok (.aload_n 0, 1) := by decide +kernel
theorem dX4_brokenBy_9 : decode cX4_brokenBy 9 = .ok (.getfield 12, 3) := by decide +kernel
theorem dX4_brokenBy_12 : decode cX4_brokenBy 12 = .ok (.iload_n 2, 1) := by decide +kernel
theorem dX4_brokenBy_13 : decode cX4_brokenBy 13 = .ok (.iload_n 3, 1) := by decide +kernel
theorem dX4_brokenBy_14 : decode cX4_brokenBy 14 = .ok (.aload_n 1, 1) := by decide +kernel
theorem dX4_brokenBy_15 : decode cX4_brokenBy 15 = .ok (.iconst 0, 1) := by decide +kernel
theorem dX4_brokenBy_16 : decode cX4_brokenBy 16 = .ok (.invokevirtual 29, 3) := by decide +kernel
theorem dX4_brokenBy_19 : decode cX4_brokenBy 19 = .ok (.invokevirtual 33, 3) := by decide +kernel
theorem dX4_brokenBy_22 : decode cX4_brokenBy 22 = .ok (.ireturn, 1) := by decide +kernel
theorem dX4_findWorst_0 : decode cX4_findWorst 0 = .ok (.aload_n 0, 1) := by decide +kernel
theorem dX4_findWorst_1 : decode cX4_findWorst 1 = .ok (.getfield 12, 3) := by decide +kernel
theorem dX4_findWorst_4 : decode cX4_findWorst 4 = .ok (.aload_n 1, 1) := by decide +kernel
theorem dX4_findWorst_5 : decode cX4_findWorst 5 = .ok (.invokevirtual 25, 3) := by decide +kernel
theorem dX4_findWorst_8 : decode cX4_findWorst 8 = .ok (.aload_n 0, 1) := by decide +kernel
theorem dX4_findWorst_9 : decode cX4_findWorst 9 = .ok (.aload_n 0, 1) := by decide +kernel
theorem dX4_findWorst_10 : decode cX4_findWorst 10 = .ok (.aload_n 1, 1) := by decide +kernel
theorem dX4_findWorst_11 : decode cX4_findWorst 11 = .ok (.iconst 0, 1) := by decide +kernel
theorem dX4_findWorst_12 : decode cX4_findWorst 12 = .ok (.invokevirtual 29, 3) := by decide +kernel
theorem dX4_findWorst_15 : decode cX4_findWorst 15 = .ok (.bipush 8, 2) := by decide +kernel
theorem dX4_findWorst_17 : decode cX4_findWorst 17 = .ok (.invokevirtual 37, 3) := by decide +kernel
theorem dX4_findWorst_20 : decode cX4_findWorst 20 = .ok (.putfield 41, 3) := by decide +kernel
theorem dX4_findWorst_23 : decode cX4_findWorst 23 = .ok (.aload_n 0, 1) := by decide +kernel
theorem dX4_findWorst_24 : decode cX4_findWorst 24 = .ok (.aload_n 0, 1) := by decide +kernel
theorem dX4_findWorst_25 : decode cX4_findWorst 25 = .ok (.getfield 45, 3) := by decide +kernel
theorem dX4_findWorst_28 : decode cX4_findWorst 28 = .ok (.putfield 48, 3) := by decide +kernel
theorem dX4_findWorst_31 : decode cX4_findWorst 31 = .ok (.return_, 1) := by decide +kernel
theorem dX4_mostBroken_0 : decode cX4_mostBroken 0 = .ok (.iconst (-1), 1) := by decide +kernel
theorem dX4_mostBroken_1 : decode cX4_mostBroken 1 = .ok (.istore_n 3, 1) := by decide +kernel
theorem dX4_mostBroken_2 : decode cX4_mostBroken 2 = .ok (.iconst 0, 1) := by decide +kernel
theorem dX4_mostBroken_3 : decode cX4_mostBroken 3 = .ok (.istore 4, 2) := by decide +kernel
theorem dX4_mostBroken_5 : decode cX4_mostBroken 5 = .ok (.iload 4, 2) := by decide +kernel
theorem dX4_mostBroken_7 : decode cX4_mostBroken 7 = .ok (.bipush 12, 2) := by decide +kernel
theorem dX4_mostBroken_9 : decode cX4_mostBroken 9 = .ok (.if_icmp .ge 78, 3) := by decide +kernel
theorem dX4_mostBroken_12 : decode cX4_mostBroken 12 = .ok (.iload_n 3, 1) := by decide +kernel
theorem dX4_mostBroken_13 : decode cX4_mostBroken 13 = .ok (.iload_n 2, 1) := by decide +kernel
theorem dX4_mostBroken_14 : decode cX4_mostBroken 14 = .ok (.if_icmp .ge 73, 3) := by decide +kernel
theorem dX4_mostBroken_17 : decode cX4_mostBroken 17 = .ok (.iconst 0, 1) := by decide +kernel
theorem dX4_mostBroken_18 : decode cX4_mostBroken 18 = .ok (.istore 5, 2) := by decide +kernel
theorem dX4_mostBroken_20 : decode cX4_mostBroken 20 = .ok (.iload 5, 2) := by decide +kernel
theorem dX4_mostBroken_22 : decode cX4_mostBroken 22 = .ok (.aload_n 0, 1) := by decide +kernel
theorem dX4_mostBroken_23 : decode cX4_mostBroken 23 = .ok (.getfield 12, 3) := by decide +kernel
theorem dX4_mostBroken_26 : decode cX4_mostBroken 26 = .ok (.getfield 51, 3) := by decide +kernel
theorem dX4_mostBroken_29 : decode cX4_mostBroken 29 = .ok (.if_icmp .ge 52, 3) := by decide +kernel
theorem dX4_mostBroken_32 : decode cX4_mostBroken 32 = .ok (.iload_n 3, 1) := by decide +kernel
theorem dX4_mostBroken_33 : decode cX4_mostBroken 33 = .ok (.iload_n 2, 1) := by decide +kernel
theorem dX4_mostBroken_34 : decode cX4_mostBroken 34 = .ok (.if_icmp .ge 47, 3) := by decide +kernel
theorem dX4_mostBroken_37 : decode cX4_mostBroken 37 = .ok (.aload_n 0, 1) := by decide +kernel
theorem dX4_mostBroken_38 : decode cX4_mostBroken 38 = .ok (.getfield 12, 3) := by decide +kernel
theorem dX4_mostBroken_41 : decode cX4_mostBroken 41 = .ok (.iload 4, 2) := by decide +kernel
theorem dX4_mostBroken_43 : decode cX4_mostBroken 43 = .ok (.iload 5, 2) := by decide +kernel
theorem dX4_mostBroken_45 : decode cX4_mostBroken 45 = .ok (.iload_n 1, 1) := by decide +kernel
theorem dX4_mostBroken_46 : decode cX4_mostBroken 46 = .ok (.invokevirtual 33, 3) := by decide +kernel
theorem dX4_mostBroken_49 : decode cX4_mostBroken 49 = .ok (.invokestatic 54, 3) := by decide +kernel
theorem dX4_mostBroken_52 : decode cX4_mostBroken 52 = .ok (.istore 6, 2) := by decide +kernel
theorem dX4_mostBroken_54 : decode cX4_mostBroken 54 = .ok (.iload 6, 2) := by decide +kernel
theorem dX4_mostBroken_56 : decode cX4_mostBroken 56 = .ok (.iload_n 3, 1) := by decide +kernel
theorem dX4_mostBroken_57 : decode cX4_mostBroken 57 = .ok (.if_icmp .le 18, 3) := by decide +kernel
theorem dX4_mostBroken_60 : decode cX4_mostBroken 60 = .ok (.iload 6, 2) := by decide +kernel
theorem dX4_mostBroken_62 : decode cX4_mostBroken 62 = .ok (.istore_n 3, 1) := by decide +kernel
theorem dX4_mostBroken_63 : decode cX4_mostBroken 63 = .ok (.aload_n 0, 1) := by decide +kernel
theorem dX4_mostBroken_64 : decode cX4_mostBroken 64 = .ok (.bipush 100, 2) := by decide +kernel
theorem dX4_mostBroken_66 : decode cX4_mostBroken 66 = .ok (.iload 4, 2) := by decide +kernel
theorem dX4_mostBroken_68 : decode cX4_mostBroken 68 = .ok (.imul, 1) := by decide +kernel
theorem dX4_mostBroken_69 : decode cX4_mostBroken 69 = .ok (.iload 5, 2) := by decide +kernel
theorem dX4_mostBroken_71 : decode cX4_mostBroken 71 = .ok (.iadd, 1) := by decide +kernel
theorem dX4_mostBroken_72 : decode cX4_mostBroken 72 = .ok (.putfield 45, 3) := by decide +kernel
theorem dX4_mostBroken_75 : decode cX4_mostBroken 75 = .ok (.iinc 5 1, 3) := by decide +kernel
theorem dX4_mostBroken_78 : decode cX4_mostBroken 78 = .ok (.goto (-58), 3) := by decide +kernel
theorem dX4_mostBroken_81 : decode cX4_mostBroken 81 = .ok (.iinc 4 1, 3) := by decide +kernel
theorem dX4_mostBroken_84 : decode cX4_mostBroken 84 = .ok (.goto (-79), 3) := by decide +kernel
theorem dX4_mostBroken_87 : decode cX4_mostBroken 87 = .ok (.iload_n 3, 1) := by decide +kernel
theorem dX4_mostBroken_88 : decode cX4_mostBroken 88 = .ok (.ireturn, 1) := by decide +kernel
theorem dX4_findGuard_0 : decode cX4_findGuard 0 = .ok (.aload_n 0, 1) := by decide +kernel
theorem dX4_findGuard_1 : decode cX4_findGuard 1 = .ok (.getfield 12, 3) := by decide +kernel
theorem dX4_findGuard_4 : decode cX4_findGuard 4 = .ok (.aload_n 1, 1) := by decide +kernel
theorem dX4_findGuard_5 : decode cX4_findGuard 5 = .ok (.invokevirtual 25, 3) := by decide +kernel
theorem dX4_findGuard_8 : decode cX4_findGuard 8 = .ok (.aload_n 1, 1) := by decide +kernel
theorem dX4_findGuard_9 : decode cX4_findGuard 9 = .ok (.iconst 0, 1) := by decide +kernel
theorem dX4_findGuard_10 : decode cX4_findGuard 10 = .ok (.invokevirtual 29, 3) := by decide +kernel
theorem dX4_findGuard_13 : decode cX4_findGuard 13 = .ok (.istore 5, 2) := by decide +kernel
theorem dX4_findGuard_15 : decode cX4_findGuard 15 = .ok (.aload_n 0, 1) := by decide +kernel
theorem dX4_findGuard_16 : decode cX4_findGuard 16 = .ok (.bipush 9, 2) := by decide +kernel
theorem dX4_findGuard_18 : decode cX4_findGuard 18 = .ok (.putfield 41, 3) := by decide +kernel
theorem dX4_findGuard_21 : decode cX4_findGuard 21 = .ok (.aload_n 0, 1) := by decide +kernel
theorem dX4_findGuard_22 : decode cX4_findGuard 22 = .ok (.iconst 0, 1) := by decide +kernel
theorem dX4_findGuard_23 : decode cX4_findGuard 23 = .ok (.putfield 48, 3) := by decide +kernel
theorem dX4_findGuard_26 : decode cX4_findGuard 26 = .ok (.iconst 0, 1) := by decide +kernel
theorem dX4_findGuard_27 : decode cX4_findGuard 27 = .ok (.istore 6, 2) := by decide +kernel
theorem dX4_findGuard_29 : decode cX4_findGuard 29 = .ok (.iload 6, 2) := by decide +kernel
theorem dX4_findGuard_31 : decode cX4_findGuard 31 = .ok (.sipush 256, 3) := by decide +kernel
theorem dX4_findGuard_34 : decode cX4_findGuard 34 = .ok (.if_icmp .ge 71, 3) := by decide +kernel
theorem dX4_findGuard_37 : decode cX4_findGuard 37 = .ok (.iload 6, 2) := by decide +kernel
theorem dX4_findGuard_39 : decode cX4_findGuard 39 = .ok (.invokestatic 54, 3) := by decide +kernel
theorem dX4_findGuard_42 : decode cX4_findGuard 42 = .ok (.istore 7, 2) := by decide +kernel
theorem dX4_findGuard_44 : decode cX4_findGuard 44 = .ok (.iload 6, 2) := by decide +kernel
theorem dX4_findGuard_46 : decode cX4_findGuard 46 = .ok (.iload 5, 2) := by decide +kernel
theorem dX4_findGuard_48 : decode cX4_findGuard 48 = .ok (.iconst (-1), 1) := by decide +kernel
theorem dX4_findGuard_49 : decode cX4_findGuard 49 = .ok (.ixor, 1) := by decide +kernel
theorem dX4_findGuard_50 : decode cX4_findGuard 50 = .ok (.iand, 1) := by decide +kernel
theorem dX4_findGuard_51 : decode cX4_findGuard 51 = .ok (.ifCond .ne 48, 3) := by decide +kernel
theorem dX4_findGuard_54 : decode cX4_findGuard 54 = .ok (.iload 7, 2) := by decide +kernel
theorem dX4_findGuard_56 : decode cX4_findGuard 56 = .ok (.aload_n 0, 1) := by decide +kernel
theorem dX4_findGuard_57 : decode cX4_findGuard 57 = .ok (.getfield 41, 3) := by decide +kernel
theorem dX4_findGuard_60 : decode cX4_findGuard 60 = .ok (.if_icmp .ge 39, 3) := by decide +kernel
theorem dX4_findGuard_63 : decode cX4_findGuard 63 = .ok (.aload_n 0, 1) := by decide +kernel
theorem dX4_findGuard_64 : decode cX4_findGuard 64 = .ok (.getfield 12, 3) := by decide +kernel
theorem dX4_findGuard_67 : decode cX4_findGuard 67 = .ok (.iload_n 2, 1) := by decide +kernel
theorem dX4_findGuard_68 : decode cX4_findGuard 68 = .ok (.iload_n 3, 1) := by decide +kernel
theorem dX4_findGuard_69 : decode cX4_findGuard 69 = .ok (.iload 5, 2) := by decide +kernel
theorem dX4_findGuard_71 : decode cX4_findGuard 71 = .ok (.iload 6, 2) := by decide +kernel
theorem dX4_findGuard_73 : decode cX4_findGuard 73 = .ok (.iconst (-1), 1) := by decide +kernel
theorem dX4_findGuard_74 : decode cX4_findGuard 74 = .ok (.ixor, 1) := by decide +kernel
theorem dX4_findGuard_75 : decode cX4_findGuard 75 = .ok (.iand, 1) := by decide +kernel
theorem dX4_findGuard_76 : decode cX4_findGuard 76 = .ok (.invokevirtual 33, 3) := by decide +kernel
theorem dX4_findGuard_79 : decode cX4_findGuard 79 = .ok (.invokestatic 54, 3) := by decide +kernel
theorem dX4_findGuard_82 : decode cX4_findGuard 82 = .ok (.iload 4, 2) := by decide +kernel
theorem dX4_findGuard_84 : decode cX4_findGuard 84 = .ok (.if_icmp .gt 15, 3) := by decide +kernel
theorem dX4_findGuard_87 : decode cX4_findGuard 87 = .ok (.aload_n 0, 1) := by decide +kernel
theorem dX4_findGuard_88 : decode cX4_findGuard 88 = .ok (.iload 7, 2) := by decide +kernel
theorem dX4_findGuard_90 : decode cX4_findGuard 90 = .ok (.putfield 41, 3) := by decide +kernel
theorem dX4_findGuard_93 : decode cX4_findGuard 93 = .ok (.aload_n 0, 1) := by decide +kernel
theorem dX4_findGuard_94 : decode cX4_findGuard 94 = .ok (.iload 6, 2) := by decide +kernel
theorem dX4_findGuard_96 : decode cX4_findGuard 96 = .ok (.putfield 48, 3) := by decide +kernel
theorem dX4_findGuard_99 : decode cX4_findGuard 99 = .ok (.iinc 6 1, 3) := by decide +kernel
theorem dX4_findGuard_102 : decode cX4_findGuard 102 = .ok (.goto (-73), 3) := by decide +kernel
theorem dX4_findGuard_105 : decode cX4_findGuard 105 = .ok (.return_, 1) := by decide +kernel
theorem dX4_findChange_0 : decode cX4_findChange 0 = .ok (.aload_n 0, 1) := by decide +kernel
theorem dX4_findChange_1 : decode cX4_findChange 1 = .ok (.getfield 12, 3) := by decide +kernel
theorem dX4_findChange_4 : decode cX4_findChange 4 = .ok (.aload_n 1, 1) := by decide +kernel
theorem dX4_findChange_5 : decode cX4_findChange 5 = .ok (.invokevirtual 25, 3) := by decide +kernel
theorem dX4_findChange_8 : decode cX4_findChange 8 = .ok (.aload_n 1, 1) := by decide +kernel
theorem dX4_findChange_9 : decode cX4_findChange 9 = .ok (.iconst 0, 1) := by decide +kernel
theorem dX4_findChange_10 : decode cX4_findChange 10 = .ok (.invokevirtual 29, 3) := by decide +kernel
theorem dX4_findChange_13 : decode cX4_findChange 13 = .ok (.istore_n 2, 1) := by decide +kernel
theorem dX4_findChange_14 : decode cX4_findChange 14 = .ok (.aload_n 0, 1) := by decide +kernel
theorem dX4_findChange_15 : decode cX4_findChange 15 = .ok (.iload_n 2, 1) := by decide +kernel
theorem dX4_findChange_16 : decode cX4_findChange 16 = .ok (.bipush 8, 2) := by decide +kernel
theorem dX4_findChange_18 : decode cX4_findChange 18 = .ok (.invokevirtual 37, 3) := by decide +kernel
theorem dX4_findChange_21 : decode cX4_findChange 21 = .ok (.istore_n 3, 1) := by decide +kernel
theorem dX4_findChange_22 : decode cX4_findChange 22 = .ok (.aload_n 0, 1) := by decide +kernel
theorem dX4_findChange_23 : decode cX4_findChange 23 = .ok (.ldc 59, 2) := by decide +kernel
theorem dX4_findChange_25 : decode cX4_findChange 25 = .ok (.putfield 48, 3) := by decide +kernel
theorem dX4_findChange_28 : decode cX4_findChange 28 = .ok (.aload_n 0, 1) := by decide +kernel
theorem dX4_findChange_29 : decode cX4_findChange 29 = .ok (.ldc 59, 2) := by decide +kernel
theorem dX4_findChange_31 : decode cX4_findChange 31 = .ok (.putfield 41, 3) := by decide +kernel
theorem dX4_findChange_34 : decode cX4_findChange 34 = .ok (.aload_n 0, 1) := by decide +kernel
theorem dX4_findChange_35 : decode cX4_findChange 35 = .ok (.getfield 21, 3) := by decide +kernel
theorem dX4_findChange_38 : decode cX4_findChange 38 = .ok (.aload_n 1, 1) := by decide +kernel
theorem dX4_findChange_39 : decode cX4_findChange 39 = .ok (.invokevirtual 60, 3) := by decide +kernel
theorem dX4_findChange_42 : decode cX4_findChange 42 = .ok (.iconst 0, 1) := by decide +kernel
theorem dX4_findChange_43 : decode cX4_findChange 43 = .ok (.istore 4, 2) := by decide +kernel
theorem dX4_findChange_45 : decode cX4_findChange 45 = .ok (.iload 4, 2) := by decide +kernel
theorem dX4_findChange_47 : decode cX4_findChange 47 = .ok (.aload_n 1, 1) := by decide +kernel
theorem dX4_findChange_48 : decode cX4_findChange 48 = .ok (.getfield 63, 3) := by decide +kernel
theorem dX4_findChange_51 : decode cX4_findChange 51 = .ok (.if_icmp .ge 98, 3) := by decide +kernel
theorem dX4_findChange_54 : decode cX4_findChange 54 = .ok (.iload 4, 2) := by decide +kernel
theorem dX4_findChange_56 : decode cX4_findChange 56 = .ok (.iconst 1, 1) := by decide +kernel
theorem dX4_findChange_57 : decode cX4_findChange 57 = .ok (.iadd, 1) := by decide +kernel
theorem dX4_findChange_58 : decode cX4_findChange 58 = .ok (.istore 5, 2) := by decide +kernel
theorem dX4_findChange_60 : decode cX4_findChange 60 = .ok (.iload 5, 2) := by decide +kernel
theorem dX4_findChange_62 : decode cX4_findChange 62 = .ok (.aload_n 1, 1) := by decide +kernel
theorem dX4_findChange_63 : decode cX4_findChange 63 = .ok (.getfield 63, 3) := by decide +kernel
theorem dX4_findChange_66 : decode cX4_findChange 66 = .ok (.if_icmp .ge 77, 3) := by decide +kernel
theorem dX4_findChange_69 : decode cX4_findChange 69 = .ok (.aload_n 0, 1) := by decide +kernel
theorem dX4_findChange_70 : decode cX4_findChange 70 = .ok (.getfield 21, 3) := by decide +kernel
theorem dX4_findChange_73 : decode cX4_findChange 73 = .ok (.iload 4, 2) := by decide +kernel
theorem dX4_findChange_75 : decode cX4_findChange 75 = .ok (.iload 5, 2) := by decide +kernel
theorem dX4_findChange_77 : decode cX4_findChange 77 = .ok (.invokevirtual 64, 3) := by decide +kernel
theorem dX4_findChange_80 : decode cX4_findChange 80 = .ok (.aload_n 0, 1) := by decide +kernel
theorem dX4_findChange_81 : decode cX4_findChange 81 = .ok (.getfield 12, 3) := by decide +kernel
theorem dX4_findChange_84 : decode cX4_findChange 84 = .ok (.aload_n 0, 1) := by decide +kernel
theorem dX4_findChange_85 : decode cX4_findChange 85 = .ok (.getfield 21, 3) := by decide +kernel
theorem dX4_findChange_88 : decode cX4_findChange 88 = .ok (.invokevirtual 25, 3) := by decide +kernel
theorem dX4_findChange_91 : decode cX4_findChange 91 = .ok (.aload_n 0, 1) := by decide +kernel
theorem dX4_findChange_92 : decode cX4_findChange 92 = .ok (.iload_n 2, 1) := by decide +kernel
theorem dX4_findChange_93 : decode cX4_findChange 93 = .ok (.iload_n 3, 1) := by decide +kernel
theorem dX4_findChange_94 : decode cX4_findChange 94 = .ok (.invokevirtual 37, 3) := by decide +kernel
theorem dX4_findChange_97 : decode cX4_findChange 97 = .ok (.istore 6, 2) := by decide +kernel
theorem dX4_findChange_99 : decode cX4_findChange 99 = .ok (.aload_n 0, 1) := by decide +kernel
theorem dX4_findChange_100 : decode cX4_findChange 100 = .ok (.getfield 21, 3) := by decide +kernel
theorem dX4_findChange_103 : decode cX4_findChange 103 = .ok (.iload 4, 2) := by decide +kernel
theorem dX4_findChange_105 : decode cX4_findChange 105 = .ok (.iload 5, 2) := by decide +kernel
theorem dX4_findChange_107 : decode cX4_findChange 107 = .ok (.invokevirtual 64, 3) := by decide +kernel
theorem dX4_findChange_110 : decode cX4_findChange 110 = .ok (.iload 6, 2) := by decide +kernel
theorem dX4_findChange_112 : decode cX4_findChange 112 = .ok (.iload_n 3, 1) := by decide +kernel
theorem dX4_findChange_113 : decode cX4_findChange 113 = .ok (.if_icmp .ge 24, 3) := by decide +kernel
theorem dX4_findChange_116 : decode cX4_findChange 116 = .ok (.iload 6, 2) := by decide +kernel
theorem dX4_findChange_118 : decode cX4_findChange 118 = .ok (.istore_n 3, 1) := by decide +kernel
theorem dX4_findChange_119 : decode cX4_findChange 119 = .ok (.aload_n 0, 1) := by decide +kernel
theorem dX4_findChange_120 : decode cX4_findChange 120 = .ok (.bipush 10, 2) := by decide +kernel
theorem dX4_findChange_122 : decode cX4_findChange 122 = .ok (.iload 4, 2) := by decide +kernel
theorem dX4_findChange_124 : decode cX4_findChange 124 = .ok (.imul, 1) := by decide +kernel
theorem dX4_findChange_125 : decode cX4_findChange 125 = .ok (.iload 5, 2) := by decide +kernel
theorem dX4_findChange_127 : decode cX4_findChange 127 = .ok (.iadd, 1) := by decide +kernel
theorem dX4_findChange_128 : decode cX4_findChange 128 = .ok (.putfield 48, 3) := by decide +kernel
theorem dX4_findChange_131 : decode cX4_findChange 131 = .ok (.aload_n 0, 1) := by decide +kernel
theorem dX4_findChange_132 : decode cX4_findChange 132 = .ok (.iload 6, 2) := by decide +kernel
theorem dX4_findChange_134 : decode cX4_findChange 134 = .ok (.putfield 41, 3) := by decide +kernel
theorem dX4_findChange_137 : decode cX4_findChange 137 = .ok (.iinc 5 1, 3) := by decide +kernel
theorem dX4_findChange_140 : decode cX4_findChange 140 = .ok (.goto (-80), 3) := by decide +kernel
theorem dX4_findChange_143 : decode cX4_findChange 143 = .ok (.iinc 4 1, 3) := by decide +kernel
theorem dX4_findChange_146 : decode cX4_findChange 146 = .ok (.goto (-101), 3) := by decide +kernel
theorem dX4_findChange_149 : decode cX4_findChange 149 = .ok (.return_, 1) := by decide +kernel
theorem dX4_findTuned_0 : decode cX4_findTuned 0 = .ok (.aload_n 1, 1) := by decide +kernel
theorem dX4_findTuned_1 : decode cX4_findTuned 1 = .ok (.iconst 0, 1) := by decide +kernel
theorem dX4_findTuned_2 : decode cX4_findTuned 2 = .ok (.invokevirtual 29, 3) := by decide +kernel
theorem dX4_findTuned_5 : decode cX4_findTuned 5 = .ok (.iconst 1, 1) := by decide +kernel
theorem dX4_findTuned_6 : decode cX4_findTuned 6 = .ok (.iload_n 2, 1) := by decide +kernel
theorem dX4_findTuned_7 : decode cX4_findTuned 7 = .ok (.ishl, 1) := by decide +kernel
theorem dX4_findTuned_8 : decode cX4_findTuned 8 = .ok (.ior, 1) := by decide +kernel
theorem dX4_findTuned_9 : decode cX4_findTuned 9 = .ok (.istore_n 3, 1) := by decide +kernel
theorem dX4_findTuned_10 : decode cX4_findTuned 10 = .ok (.aload_n 0, 1) := by decide +kernel
theorem dX4_findTuned_11 : decode cX4_findTuned 11 = .ok (.bipush 9, 2) := by decide +kernel
theorem dX4_findTuned_13 : decode cX4_findTuned 13 = .ok (.putfield 41, 3) := by decide +kernel
theorem dX4_findTuned_16 : decode cX4_findTuned 16 = .ok (.aload_n 0, 1) := by decide +kernel
theorem dX4_findTuned_17 : decode cX4_findTuned 17 = .ok (.getfield 21, 3) := by decide +kernel
theorem dX4_findTuned_20 : decode cX4_findTuned 20 = .ok (.aload_n 1, 1) := by decide +kernel
theorem dX4_findTuned_21 : decode cX4_findTuned 21 = .ok (.invokevirtual 60, 3) := by decide +kernel
theorem dX4_findTuned_24 : decode cX4_findTuned 24 = .ok (.iconst 0, 1) := by decide +kernel
theorem dX4_findTuned_25 : decode cX4_findTuned 25 = .ok (.istore 4, 2) := by decide +kernel
theorem dX4_findTuned_27 : decode cX4_findTuned 27 = .ok (.iload 4, 2) := by decide +kernel
theorem dX4_findTuned_29 : decode cX4_findTuned 29 = .ok (.bipush 12, 2) := by decide +kernel
theorem dX4_findTuned_31 : decode cX4_findTuned 31 = .ok (.if_icmp .ge 46, 3) := by decide +kernel
theorem dX4_findTuned_34 : decode cX4_findTuned 34 = .ok (.aload_n 0, 1) := by decide +kernel
theorem dX4_findTuned_35 : decode cX4_findTuned 35 = .ok (.getfield 21, 3) := by decide +kernel
theorem dX4_findTuned_38 : decode cX4_findTuned 38 = .ok (.getfield 68, 3) := by decide +kernel
theorem dX4_findTuned_41 : decode cX4_findTuned 41 = .ok (.iload_n 2, 1) := by decide +kernel
theorem dX4_findTuned_42 : decode cX4_findTuned 42 = .ok (.iload 4, 2) := by decide +kernel
theorem dX4_findTuned_44 : decode cX4_findTuned 44 = .ok (.iastore, 1) := by decide +kernel
theorem dX4_findTuned_45 : decode cX4_findTuned 45 = .ok (.aload_n 0, 1) := by decide +kernel
theorem dX4_findTuned_46 : decode cX4_findTuned 46 = .ok (.getfield 12, 3) := by decide +kernel
theorem dX4_findTuned_49 : decode cX4_findTuned 49 = .ok (.aload_n 0, 1) := by decide +kernel
theorem dX4_findTuned_50 : decode cX4_findTuned 50 = .ok (.getfield 21, 3) := by decide +kernel
theorem dX4_findTuned_53 : decode cX4_findTuned 53 = .ok (.invokevirtual 25, 3) := by decide +kernel
theorem dX4_findTuned_56 : decode cX4_findTuned 56 = .ok (.aload_n 0, 1) := by decide +kernel
theorem dX4_findTuned_57 : decode cX4_findTuned 57 = .ok (.iload 4, 2) := by decide +kernel
theorem dX4_findTuned_59 : decode cX4_findTuned 59 = .ok (.aload_n 0, 1) := by decide +kernel
theorem dX4_findTuned_60 : decode cX4_findTuned 60 = .ok (.iload_n 3, 1) := by decide +kernel
theorem dX4_findTuned_61 : decode cX4_findTuned 61 = .ok (.aload_n 0, 1) := by decide +kernel
theorem dX4_findTuned_62 : decode cX4_findTuned 62 = .ok (.getfield 41, 3) := by decide +kernel
theorem dX4_findTuned_65 : decode cX4_findTuned 65 = .ok (.invokevirtual 37, 3) := by decide +kernel
theorem dX4_findTuned_68 : decode cX4_findTuned 68 = .ok (.invokevirtual 72, 3) := by decide +kernel
theorem dX4_findTuned_71 : decode cX4_findTuned 71 = .ok (.iinc 4 1, 3) := by decide +kernel
theorem dX4_findTuned_74 : decode cX4_findTuned 74 = .ok (.goto (-47), 3) := by decide +kernel
theorem dX4_findTuned_77 : decode cX4_findTuned 77 = .ok (.return_, 1) := by decide +kernel
theorem dX4_findSpared_0 : decode cX4_findSpared 0 = .ok (.aload_n 1, 1) := by decide +kernel
theorem dX4_findSpared_1 : decode cX4_findSpared 1 = .ok (.iconst 0, 1) := by decide +kernel
theorem dX4_findSpared_2 : decode cX4_findSpared 2 = .ok (.invokevirtual 29, 3) := by decide +kernel
theorem dX4_findSpared_5 : decode cX4_findSpared 5 = .ok (.istore_n 2, 1) := by decide +kernel
theorem dX4_findSpared_6 : decode cX4_findSpared 6 = .ok (.iload_n 2, 1) := by decide +kernel
theorem dX4_findSpared_7 : decode cX4_findSpared 7 = .ok (.ifCond .ne 16, 3) := by decide +kernel
theorem dX4_findSpared_10 : decode cX4_findSpared 10 = .ok (.aload_n 0, 1) := by decide +kernel
theorem dX4_findSpared_11 : decode cX4_findSpared 11 = .ok (.ldc 59, 2) := by decide +kernel
theorem dX4_findSpared_13 : decode cX4_findSpared 13 = .ok (.putfield 48, 3) := by decide +kernel
theorem dX4_findSpared_16 : decode cX4_findSpared 16 = .ok (.aload_n 0, 1) := by decide +kernel
theorem dX4_findSpared_17 : decode cX4_findSpared 17 = .ok (.ldc 59, 2) := by decide +kernel
theorem dX4_findSpared_19 : decode cX4_findSpared 19 = .ok (.putfield 41, 3) := by decide +kernel
theorem dX4_findSpared_22 : decode cX4_findSpared 22 = .ok (.return_, 1) := by decide +kernel
theorem dX4_findSpared_23 : decode cX4_findSpared 23 = .ok (.aload_n 0, 1) := by decide +kernel
theorem dX4_findSpared_24 : decode cX4_findSpared 24 = .ok (.getfield 12, 3) := by decide +kernel
theorem dX4_findSpared_27 : decode cX4_findSpared 27 = .ok (.aload_n 1, 1) := by decide +kernel
theorem dX4_findSpared_28 : decode cX4_findSpared 28 = .ok (.invokevirtual 25, 3) := by decide +kernel
theorem dX4_findSpared_31 : decode cX4_findSpared 31 = .ok (.aload_n 0, 1) := by decide +kernel
theorem dX4_findSpared_32 : decode cX4_findSpared 32 = .ok (.bipush 9, 2) := by decide +kernel
theorem dX4_findSpared_34 : decode cX4_findSpared 34 = .ok (.putfield 41, 3) := by decide +kernel
theorem dX4_findSpared_37 : decode cX4_findSpared 37 = .ok (.iconst 0, 1) := by decide +kernel
theorem dX4_findSpared_38 : decode cX4_findSpared 38 = .ok (.istore_n 3, 1) := by decide +kernel
theorem dX4_findSpared_39 : decode cX4_findSpared 39 = .ok (.iload_n 3, 1) := by decide +kernel
theorem dX4_findSpared_40 : decode cX4_findSpared 40 = .ok (.aload_n 1, 1) := by decide +kernel
theorem dX4_findSpared_41 : decode cX4_findSpared 41 = .ok (.getfield 63, 3) := by decide +kernel
theorem dX4_findSpared_44 : decode cX4_findSpared 44 = .ok (.if_icmp .ge 37, 3) := by decide +kernel
theorem dX4_findSpared_47 : decode cX4_findSpared 47 = .ok (.iload_n 2, 1) := by decide +kernel
theorem dX4_findSpared_48 : decode cX4_findSpared 48 = .ok (.iload_n 3, 1) := by decide +kernel
theorem dX4_findSpared_49 : decode cX4_findSpared 49 = .ok (.invokestatic 75, 3) := by decide +kernel
theorem dX4_findSpared_52 : decode cX4_findSpared 52 = .ok (.ifCond .eq 23, 3) := by decide +kernel
theorem dX4_findSpared_55 : decode cX4_findSpared 55 = .ok (.aload_n 0, 1) := by decide +kernel
theorem dX4_findSpared_56 : decode cX4_findSpared 56 = .ok (.iload_n 3, 1) := by decide +kernel
theorem dX4_findSpared_57 : decode cX4_findSpared 57 = .ok (.aload_n 0, 1) := by decide +kernel
theorem dX4_findSpared_58 : decode cX4_findSpared 58 = .ok (.iload_n 2, 1) := by decide +kernel
theorem dX4_findSpared_59 : decode cX4_findSpared 59 = .ok (.iconst 1, 1) := by decide +kernel
theorem dX4_findSpared_60 : decode cX4_findSpared 60 = .ok (.iload_n 3, 1) := by decide +kernel
theorem dX4_findSpared_61 : decode cX4_findSpared 61 = .ok (.ishl, 1) := by decide +kernel
theorem dX4_findSpared_62 : decode cX4_findSpared 62 = .ok (.iconst (-1), 1) := by decide +kernel
theorem dX4_findSpared_63 : decode cX4_findSpared 63 = .ok (.ixor, 1) := by decide +kernel
theorem dX4_findSpared_64 : decode cX4_findSpared 64 = .ok (.iand, 1) := by decide +kernel
theorem dX4_findSpared_65 : decode cX4_findSpared 65 = .ok (.aload_n 0, 1) := by decide +kernel
theorem dX4_findSpared_66 : decode cX4_findSpared 66 = .ok (.getfield 41, 3) := by decide +kernel
theorem dX4_findSpared_69 : decode cX4_findSpared 69 = .ok (.invokevirtual 37, 3) := by decide +kernel
theorem dX4_findSpared_72 : decode cX4_findSpared 72 = .ok (.invokevirtual 72, 3) := by decide +kernel
theorem dX4_findSpared_75 : decode cX4_findSpared 75 = .ok (.iinc 3 1, 3) := by decide +kernel
theorem dX4_findSpared_78 : decode cX4_findSpared 78 = .ok (.goto (-39), 3) := by decide +kernel
theorem dX4_findSpared_81 : decode cX4_findSpared 81 = .ok (.return_, 1) := by decide +kernel
theorem dX4_keepFewest_0 : decode cX4_keepFewest 0 = .ok (.iload_n 2, 1) := by decide +kernel
theorem dX4_keepFewest_1 : decode cX4_keepFewest 1 = .ok (.aload_n 0, 1) := by decide +kernel
theorem dX4_keepFewest_2 : decode cX4_keepFewest 2 = .ok (.getfield 41, 3) := by decide +kernel
theorem dX4_keepFewest_5 : decode cX4_keepFewest 5 = .ok (.if_icmp .ge 13, 3) := by decide +kernel
theorem dX4_keepFewest_8 : decode cX4_keepFewest 8 = .ok (.aload_n 0, 1) := by decide +kernel
theorem dX4_keepFewest_9 : decode cX4_keepFewest 9 = .ok (.iload_n 1, 1) := by decide +kernel
theorem dX4_keepFewest_10 : decode cX4_keepFewest 10 = .ok (.putfield 48, 3) := by decide +kernel
theorem dX4_keepFewest_13 : decode cX4_keepFewest 13 = .ok (.aload_n 0, 1) := by decide +kernel
theorem dX4_keepFewest_14 : decode cX4_keepFewest 14 = .ok (.iload_n 2, 1) := by decide +kernel
theorem dX4_keepFewest_15 : decode cX4_keepFewest 15 = .ok (.putfield 41, 3) := by decide +kernel
theorem dX4_keepFewest_18 : decode cX4_keepFewest 18 = .ok (.return_, 1) := by decide +kernel
theorem dX4_findAlike_0 : decode cX4_findAlike 0 = .ok (.aload_n 0, 1) := by decide +kernel
theorem dX4_findAlike_1 : decode cX4_findAlike 1 = .ok (.getfield 12, 3) := by decide +kernel
theorem dX4_findAlike_4 : decode cX4_findAlike 4 = .ok (.aload_n 1, 1) := by decide +kernel
theorem dX4_findAlike_5 : decode cX4_findAlike 5 = .ok (.invokevirtual 25, 3) := by decide +kernel
theorem dX4_findAlike_8 : decode cX4_findAlike 8 = .ok (.aload_n 1, 1) := by decide +kernel
theorem dX4_findAlike_9 : decode cX4_findAlike 9 = .ok (.iconst 0, 1) := by decide +kernel
theorem dX4_findAlike_10 : decode cX4_findAlike 10 = .ok (.invokevirtual 29, 3) := by decide +kernel
theorem dX4_findAlike_13 : decode cX4_findAlike 13 = .ok (.istore_n 2, 1) := by decide +kernel
theorem dX4_findAlike_14 : decode cX4_findAlike 14 = .ok (.aload_n 0, 1) := by decide +kernel
theorem dX4_findAlike_15 : decode cX4_findAlike 15 = .ok (.iconst 0, 1) := by decide +kernel
theorem dX4_findAlike_16 : decode cX4_findAlike 16 = .ok (.putfield 41, 3) := by decide +kernel
theorem dX4_findAlike_19 : decode cX4_findAlike 19 = .ok (.aload_n 0, 1) := by decide +kernel
theorem dX4_findAlike_20 : decode cX4_findAlike 20 = .ok (.ldc 59, 2) := by decide +kernel
theorem dX4_findAlike_22 : decode cX4_findAlike 22 = .ok (.putfield 48, 3) := by decide +kernel
theorem dX4_findAlike_25 : decode cX4_findAlike 25 = .ok (.iconst 0, 1) := by decide +kernel
theorem dX4_findAlike_26 : decode cX4_findAlike 26 = .ok (.istore_n 3, 1) := by decide +kernel
theorem dX4_findAlike_27 : decode cX4_findAlike 27 = .ok (.iload_n 3, 1) := by decide +kernel
theorem dX4_findAlike_28 : decode cX4_findAlike 28 = .ok (.aload_n 1, 1) := by decide +kernel
theorem dX4_findAlike_29 : decode cX4_findAlike 29 = .ok (.getfield 63, 3) := by decide +kernel
theorem dX4_findAlike_32 : decode cX4_findAlike 32 = .ok (.if_icmp .ge 94, 3) := by decide +kernel
theorem dX4_findAlike_35 : decode cX4_findAlike 35 = .ok (.iload_n 3, 1) := by decide +kernel
theorem dX4_findAlike_36 : decode cX4_findAlike 36 = .ok (.iconst 1, 1) := by decide +kernel
theorem dX4_findAlike_37 : decode cX4_findAlike 37 = .ok (.iadd, 1) := by decide +kernel
theorem dX4_findAlike_38 : decode cX4_findAlike 38 = .ok (.istore 4, 2) := by decide +kernel
theorem dX4_findAlike_40 : decode cX4_findAlike 40 = .ok (.iload 4, 2) := by decide +kernel
theorem dX4_findAlike_42 : decode cX4_findAlike 42 = .ok (.aload_n 1, 1) := by decide +kernel
theorem dX4_findAlike_43 : decode cX4_findAlike 43 = .ok (.getfield 63, 3) := by decide +kernel
theorem dX4_findAlike_46 : decode cX4_findAlike 46 = .ok (.if_icmp .ge 74, 3) := by decide +kernel
theorem dX4_findAlike_49 : decode cX4_findAlike 49 = .ok (.iload_n 2, 1) := by decide +kernel
theorem dX4_findAlike_50 : decode cX4_findAlike 50 = .ok (.iload_n 3, 1) := by decide +kernel
theorem dX4_findAlike_51 : decode cX4_findAlike 51 = .ok (.invokestatic 75, 3) := by decide +kernel
theorem dX4_findAlike_54 : decode cX4_findAlike 54 = .ok (.ifCond .eq 60, 3) := by decide +kernel
theorem dX4_findAlike_57 : decode cX4_findAlike 57 = .ok (.iload_n 2, 1) := by decide +kernel
theorem dX4_findAlike_58 : decode cX4_findAlike 58 = .ok (.iload 4, 2) := by decide +kernel
theorem dX4_findAlike_60 : decode cX4_findAlike 60 = .ok (.invokestatic 75, 3) := by decide +kernel
theorem dX4_findAlike_63 : decode cX4_findAlike 63 = .ok (.ifCond .eq 51, 3) := by decide +kernel
theorem dX4_findAlike_66 : decode cX4_findAlike 66 = .ok (.aload_n 0, 1) := by decide +kernel
theorem dX4_findAlike_67 : decode cX4_findAlike 67 = .ok (.getfield 12, 3) := by decide +kernel
theorem dX4_findAlike_70 : decode cX4_findAlike 70 = .ok (.iload_n 3, 1) := by decide +kernel
theorem dX4_findAlike_71 : decode cX4_findAlike 71 = .ok (.iload 4, 2) := by decide +kernel
theorem dX4_findAlike_73 : decode cX4_findAlike 73 = .ok (.invokevirtual 79, 3) := by decide +kernel
theorem dX4_findAlike_76 : decode cX4_findAlike 76 = .ok (.ifCond .eq 38, 3) := by decide +kernel
theorem dX4_findAlike_79 : decode cX4_findAlike 79 = .ok (.aload_n 0, 1) := by decide +kernel
theorem dX4_findAlike_80 : decode cX4_findAlike 80 = .ok (.aload_n 0, 1) := by decide +kernel
theorem dX4_findAlike_81 : decode cX4_findAlike 81 = .ok (.getfield 41, 3) := by decide +kernel
theorem dX4_findAlike_84 : decode cX4_findAlike 84 = .ok (.ifCond .ne 13, 3) := by decide +kernel
theorem dX4_findAlike_87 : decode cX4_findAlike 87 = .ok (.bipush 10, 2) := by decide +kernel
theorem dX4_findAlike_89 : decode cX4_findAlike 89 = .ok (.iload_n 3, 1) := by decide +kernel
theorem dX4_findAlike_90 : decode cX4_findAlike 90 = .ok (.imul, 1) := by decide +kernel
theorem dX4_findAlike_91 : decode cX4_findAlike 91 = .ok (.iload 4, 2) := by decide +kernel
theorem dX4_findAlike_93 : decode cX4_findAlike 93 = .ok (.iadd, 1) := by decide +kernel
theorem dX4_findAlike_94 : decode cX4_findAlike 94 = .ok (.goto 7, 3) := by decide +kernel
theorem dX4_findAlike_97 : decode cX4_findAlike 97 = .ok (.aload_n 0, 1) := by decide +kernel
theorem dX4_findAlike_98 : decode cX4_findAlike 98 = .ok (.getfield 48, 3) := by decide +kernel
theorem dX4_findAlike_101 : decode cX4_findAlike 101 = .ok (.putfield 48, 3) := by decide +kernel
theorem dX4_findAlike_104 : decode cX4_findAlike 104 = .ok (.aload_n 0, 1) := by decide +kernel
theorem dX4_findAlike_105 : decode cX4_findAlike 105 = .ok (.dup, 1) := by decide +kernel
theorem dX4_findAlike_106 : decode cX4_findAlike 106 = .ok (.getfield 41, 3) := by decide +kernel
theorem dX4_findAlike_109 : decode cX4_findAlike 109 = .ok (.iconst 1, 1) := by decide +kernel
theorem dX4_findAlike_110 : decode cX4_findAlike 110 = .ok (.iadd, 1) := by decide +kernel
theorem dX4_findAlike_111 : decode cX4_findAlike 111 = .ok (.putfield 41, 3) := by decide +kernel
theorem dX4_findAlike_114 : decode cX4_findAlike 114 = .ok (.iinc 4 1, 3) := by decide +kernel
theorem dX4_findAlike_117 : decode cX4_findAlike 117 = .ok (.goto (-77), 3) := by decide +kernel
theorem dX4_findAlike_120 : decode cX4_findAlike 120 = .ok (.iinc 3 1, 3) := by decide +kernel
theorem dX4_findAlike_123 : decode cX4_findAlike 123 = .ok (.goto (-96), 3) := by decide +kernel
theorem dX4_findAlike_126 : decode cX4_findAlike 126 = .ok (.return_, 1) := by decide +kernel
theorem dX4_findSong_0 : decode cX4_findSong 0 = .ok (.aload_n 1, 1) := by decide +kernel
theorem dX4_findSong_1 : decode cX4_findSong 1 = .ok (.iconst 0, 1) := by decide +kernel
theorem dX4_findSong_2 : decode cX4_findSong 2 = .ok (.invokevirtual 29, 3) := by decide +kernel
theorem dX4_findSong_5 : decode cX4_findSong 5 = .ok (.istore 5, 2) := by decide +kernel
theorem dX4_findSong_7 : decode cX4_findSong 7 = .ok (.aload_n 0, 1) := by decide +kernel
theorem dX4_findSong_8 : decode cX4_findSong 8 = .ok (.iconst 0, 1) := by decide +kernel
theorem dX4_findSong_9 : decode cX4_findSong 9 = .ok (.putfield 48, 3) := by decide +kernel
theorem dX4_findSong_12 : decode cX4_findSong 12 = .ok (.aload_n 0, 1) := by decide +kernel
theorem dX4_findSong_13 : decode cX4_findSong 13 = .ok (.iconst 0, 1) := by decide +kernel
theorem dX4_findSong_14 : decode cX4_findSong 14 = .ok (.putfield 41, 3) := by decide +kernel
theorem dX4_findSong_17 : decode cX4_findSong 17 = .ok (.iconst 0, 1) := by decide +kernel
theorem dX4_findSong_18 : decode cX4_findSong 18 = .ok (.istore 6, 2) := by decide +kernel
theorem dX4_findSong_20 : decode cX4_findSong 20 = .ok (.iload 6, 2) := by decide +kernel
theorem dX4_findSong_22 : decode cX4_findSong 22 = .ok (.iload 4, 2) := by decide +kernel
theorem dX4_findSong_24 : decode cX4_findSong 24 = .ok (.if_icmp .ge 65, 3) := by decide +kernel
theorem dX4_findSong_27 : decode cX4_findSong 27 = .ok (.aload_n 1, 1) := by decide +kernel
theorem dX4_findSong_28 : decode cX4_findSong 28 = .ok (.iload 5, 2) := by decide +kernel
theorem dX4_findSong_30 : decode cX4_findSong 30 = .ok (.aload_n 2, 1) := by decide +kernel
theorem dX4_findSong_31 : decode cX4_findSong 31 = .ok (.iload_n 3, 1) := by decide +kernel
theorem dX4_findSong_32 : decode cX4_findSong 32 = .ok (.iload 6, 2) := by decide +kernel
theorem dX4_findSong_34 : decode cX4_findSong 34 = .ok (.iadd, 1) := by decide +kernel
theorem dX4_findSong_35 : decode cX4_findSong 35 = .ok (.iaload, 1) := by decide +kernel
theorem dX4_findSong_36 : decode cX4_findSong 36 = .ok (.invokestatic 82, 3) := by decide +kernel
theorem dX4_findSong_39 : decode cX4_findSong 39 = .ok (.istore 7, 2) := by decide +kernel
theorem dX4_findSong_41 : decode cX4_findSong 41 = .ok (.iload 7, 2) := by decide +kernel
theorem dX4_findSong_43 : decode cX4_findSong 43 = .ok (.ifCond .ge 16, 3) := by decide +kernel
theorem dX4_findSong_46 : decode cX4_findSong 46 = .ok (.aload_n 0, 1) := by decide +kernel
theorem dX4_findSong_47 : decode cX4_findSong 47 = .ok (.dup, 1) := by decide +kernel
theorem dX4_findSong_48 : decode cX4_findSong 48 = .ok (.getfield 41, 3) := by decide +kernel
theorem dX4_findSong_51 : decode cX4_findSong 51 = .ok (.iconst 1, 1) := by decide +kernel
theorem dX4_findSong_52 : decode cX4_findSong 52 = .ok (.iadd, 1) := by decide +kernel
theorem dX4_findSong_53 : decode cX4_findSong 53 = .ok (.putfield 41, 3) := by decide +kernel
theorem dX4_findSong_56 : decode cX4_findSong 56 = .ok (.goto 27, 3) := by decide +kernel
theorem dX4_findSong_59 : decode cX4_findSong 59 = .ok (.aload_n 0, 1) := by decide +kernel
theorem dX4_findSong_60 : decode cX4_findSong 60 = .ok (.dup, 1) := by decide +kernel
theorem dX4_findSong_61 : decode cX4_findSong 61 = .ok (.getfield 48, 3) := by decide +kernel
theorem dX4_findSong_64 : decode cX4_findSong 64 = .ok (.iconst 1, 1) := by decide +kernel
theorem dX4_findSong_65 : decode cX4_findSong 65 = .ok (.iload 7, 2) := by decide +kernel
theorem dX4_findSong_67 : decode cX4_findSong 67 = .ok (.ishl, 1) := by decide +kernel
theorem dX4_findSong_68 : decode cX4_findSong 68 = .ok (.ior, 1) := by decide +kernel
theorem dX4_findSong_69 : decode cX4_findSong 69 = .ok (.putfield 48, 3) := by decide +kernel
theorem dX4_findSong_72 : decode cX4_findSong 72 = .ok (.iload 5, 2) := by decide +kernel
theorem dX4_findSong_74 : decode cX4_findSong 74 = .ok (.iconst 1, 1) := by decide +kernel
theorem dX4_findSong_75 : decode cX4_findSong 75 = .ok (.iload 7, 2) := by decide +kernel
theorem dX4_findSong_77 : decode cX4_findSong 77 = .ok (.ishl, 1) := by decide +kernel
theorem dX4_findSong_78 : decode cX4_findSong 78 = .ok (.iconst (-1), 1) := by decide +kernel
theorem dX4_findSong_79 : decode cX4_findSong 79 = .ok (.ixor, 1) := by decide +kernel
theorem dX4_findSong_80 : decode cX4_findSong 80 = .ok (.iand, 1) := by decide +kernel
theorem dX4_findSong_81 : decode cX4_findSong 81 = .ok (.istore 5, 2) := by decide +kernel
theorem dX4_findSong_83 : decode cX4_findSong 83 = .ok (.iinc 6 1, 3) := by decide +kernel
theorem dX4_findSong_86 : decode cX4_findSong 86 = .ok (.goto (-66), 3) := by decide +kernel
theorem dX4_findSong_89 : decode cX4_findSong 89 = .ok (.return_, 1) := by decide +kernel
theorem dX4_leastOf_0 : decode cX4_leastOf 0 = .ok (.iconst 0, 1) := by decide +kernel
theorem dX4_leastOf_1 : decode cX4_leastOf 1 = .ok (.istore_n 3, 1) := by decide +kernel
theorem dX4_leastOf_2 : decode cX4_leastOf 2 = .ok (.iload_n 3, 1) := by decide +kernel
theorem dX4_leastOf_3 : decode cX4_leastOf 3 = .ok (.aload_n 0, 1) := by decide +kernel
theorem dX4_leastOf_4 : decode cX4_leastOf 4 = .ok (.getfield 63, 3) := by decide +kernel
theorem dX4_leastOf_7 : decode cX4_leastOf 7 = .ok (.if_icmp .ge 29, 3) := by decide +kernel
theorem dX4_leastOf_10 : decode cX4_leastOf 10 = .ok (.iload_n 1, 1) := by decide +kernel
theorem dX4_leastOf_11 : decode cX4_leastOf 11 = .ok (.iload_n 3, 1) := by decide +kernel
theorem dX4_leastOf_12 : decode cX4_leastOf 12 = .ok (.invokestatic 75, 3) := by decide +kernel
theorem dX4_leastOf_15 : decode cX4_leastOf 15 = .ok (.ifCond .eq 15, 3) := by decide +kernel
theorem dX4_leastOf_18 : decode cX4_leastOf 18 = .ok (.aload_n 0, 1) := by decide +kernel
theorem dX4_leastOf_19 : decode cX4_leastOf 19 = .ok (.getfield 68, 3) := by decide +kernel
theorem dX4_leastOf_22 : decode cX4_leastOf 22 = .ok (.iload_n 3, 1) := by decide +kernel
theorem dX4_leastOf_23 : decode cX4_leastOf 23 = .ok (.iaload, 1) := by decide +kernel
theorem dX4_leastOf_24 : decode cX4_leastOf 24 = .ok (.iload_n 2, 1) := by decide +kernel
theorem dX4_leastOf_25 : decode cX4_leastOf 25 = .ok (.if_icmp .ne 5, 3) := by decide +kernel
theorem dX4_leastOf_28 : decode cX4_leastOf 28 = .ok (.iload_n 3, 1) := by decide +kernel
theorem dX4_leastOf_29 : decode cX4_leastOf 29 = .ok (.ireturn, 1) := by decide +kernel
theorem dX4_leastOf_30 : decode cX4_leastOf 30 = .ok (.iinc 3 1, 3) := by decide +kernel
theorem dX4_leastOf_33 : decode cX4_leastOf 33 = .ok (.goto (-31), 3) := by decide +kernel
theorem dX4_leastOf_36 : decode cX4_leastOf 36 = .ok (.iconst (-1), 1) := by decide +kernel
theorem dX4_leastOf_37 : decode cX4_leastOf 37 = .ok (.ireturn, 1) := by decide +kernel
theorem dX4_fittingKinds_0 : decode cX4_fittingKinds 0 = .ok (.iconst 0, 1) := by decide +kernel
theorem dX4_fittingKinds_1 : decode cX4_fittingKinds 1 = .ok (.istore 7, 2) := by decide +kernel
theorem dX4_fittingKinds_3 : decode cX4_fittingKinds 3 = .ok (.aload_n 0, 1) := by decide +kernel
theorem dX4_fittingKinds_4 : decode cX4_fittingKinds 4 = .ok (.getfield 21, 3) := by decide +kernel
theorem dX4_fittingKinds_7 : decode cX4_fittingKinds 7 = .ok (.aload_n 1, 1) := by decide +kernel
theorem dX4_fittingKinds_8 : decode cX4_fittingKinds 8 = .ok (.invokevirtual 60, 3) := by decide +kernel
theorem dX4_fittingKinds_11 : decode cX4_fittingKinds 11 = .ok (.iconst 1, 1) := by decide +kernel
theorem dX4_fittingKinds_12 : decode cX4_fittingKinds 12 = .ok (.istore 8, 2) := by decide +kernel
theorem dX4_fittingKinds_14 : decode cX4_fittingKinds 14 = .ok (.iload 8, 2) := by decide +kernel
theorem dX4_fittingKinds_16 : decode cX4_fittingKinds 16 = .ok (.iconst 5, 1) := by decide +kernel
theorem dX4_fittingKinds_17 : decode cX4_fittingKinds 17 = .ok (.if_icmp .gt 43, 3) := by decide +kernel
theorem dX4_fittingKinds_20 : decode cX4_fittingKinds 20 = .ok (.aload_n 0, 1) := by decide +kernel
theorem dX4_fittingKinds_21 : decode cX4_fittingKinds 21 = .ok (.getfield 21, 3) := by decide +kernel
theorem dX4_fittingKinds_24 : decode cX4_fittingKinds 24 = .ok (.getfield 86, 3) := by decide +kernel
theorem dX4_fittingKinds_27 : decode cX4_fittingKinds 27 = .ok (.iload_n 2, 1) := by decide +kernel
theorem dX4_fittingKinds_28 : decode cX4_fittingKinds 28 = .ok (.iload 8, 2) := by decide +kernel
theorem dX4_fittingKinds_30 : decode cX4_fittingKinds 30 = .ok (.iastore, 1) := by decide +kernel
theorem dX4_fittingKinds_31 : decode cX4_fittingKinds 31 = .ok (.aload_n 0, 1) := by decide +kernel
theorem dX4_fittingKinds_32 : decode cX4_fittingKinds 32 = .ok (.iload_n 3, 1) := by decide +kernel
theorem dX4_fittingKinds_33 : decode cX4_fittingKinds 33 = .ok (.aload 4, 2) := by decide +kernel
theorem dX4_fittingKinds_35 : decode cX4_fittingKinds 35 = .ok (.iload 5, 2) := by decide +kernel
theorem dX4_fittingKinds_37 : decode cX4_fittingKinds 37 = .ok (.iload 6, 2) := by decide +kernel
theorem dX4_fittingKinds_39 : decode cX4_fittingKinds 39 = .ok (.invokevirtual 89, 3) := by decide +kernel
theorem dX4_fittingKinds_42 : decode cX4_fittingKinds 42 = .ok (.ifCond .eq 12, 3) := by decide +kernel
theorem dX4_fittingKinds_45 : decode cX4_fittingKinds 45 = .ok (.iload 7, 2) := by decide +kernel
theorem dX4_fittingKinds_47 : decode cX4_fittingKinds 47 = .ok (.iconst 1, 1) := by decide +kernel
theorem dX4_fittingKinds_48 : decode cX4_fittingKinds 48 = .ok (.iload 8, 2) := by decide +kernel
theorem dX4_fittingKinds_50 : decode cX4_fittingKinds 50 = .ok (.ishl, 1) := by decide +kernel
theorem dX4_fittingKinds_51 : decode cX4_fittingKinds 51 = .ok (.ior, 1) := by decide +kernel
theorem dX4_fittingKinds_52 : decode cX4_fittingKinds 52 = .ok (.istore 7, 2) := by decide +kernel
theorem dX4_fittingKinds_54 : decode cX4_fittingKinds 54 = .ok (.iinc 8 1, 3) := by decide +kernel
theorem dX4_fittingKinds_57 : decode cX4_fittingKinds 57 = .ok (.goto (-43), 3) := by decide +kernel
theorem dX4_fittingKinds_60 : decode cX4_fittingKinds 60 = .ok (.iload 7, 2) := by decide +kernel
theorem dX4_fittingKinds_62 : decode cX4_fittingKinds 62 = .ok (.ireturn, 1) := by decide +kernel
theorem dX4_fittingNotes_0 : decode cX4_fittingNotes 0 = .ok (.iconst 0, 1) := by decide +kernel
theorem dX4_fittingNotes_1 : decode cX4_fittingNotes 1 = .ok (.istore 7, 2) := by decide +kernel
theorem dX4_fittingNotes_3 : decode cX4_fittingNotes 3 = .ok (.aload_n 0, 1) := by decide +kernel
theorem dX4_fittingNotes_4 : decode cX4_fittingNotes 4 = .ok (.getfield 21, 3) := by decide +kernel
theorem dX4_fittingNotes_7 : decode cX4_fittingNotes 7 = .ok (.aload_n 1, 1) := by decide +kernel
theorem dX4_fittingNotes_8 : decode cX4_fittingNotes 8 = .ok (.invokevirtual 60, 3) := by decide +kernel
theorem dX4_fittingNotes_11 : decode cX4_fittingNotes 11 = .ok (.iconst 0, 1) := by decide +kernel
theorem dX4_fittingNotes_12 : decode cX4_fittingNotes 12 = .ok (.istore 8, 2) := by decide +kernel
theorem dX4_fittingNotes_14 : decode cX4_fittingNotes 14 = .ok (.iload 8, 2) := by decide +kernel
theorem dX4_fittingNotes_16 : decode cX4_fittingNotes 16 = .ok (.bipush 12, 2) := by decide +kernel
theorem dX4_fittingNotes_18 : decode cX4_fittingNotes 18 = .ok (.if_icmp .ge 43, 3) := by decide +kernel
theorem dX4_fittingNotes_21 : decode cX4_fittingNotes 21 = .ok (.aload_n 0, 1) := by decide +kernel
theorem dX4_fittingNotes_22 : decode cX4_fittingNotes 22 = .ok (.getfield 21, 3) := by decide +kernel
theorem dX4_fittingNotes_25 : decode cX4_fittingNotes 25 = .ok (.getfield 68, 3) := by decide +kernel
theorem dX4_fittingNotes_28 : decode cX4_fittingNotes 28 = .ok (.iload_n 2, 1) := by decide +kernel
theorem dX4_fittingNotes_29 : decode cX4_fittingNotes 29 = .ok (.iload 8, 2) := by decide +kernel
theorem dX4_fittingNotes_31 : decode cX4_fittingNotes 31 = .ok (.iastore, 1) := by decide +kernel
theorem dX4_fittingNotes_32 : decode cX4_fittingNotes 32 = .ok (.aload_n 0, 1) := by decide +kernel
theorem dX4_fittingNotes_33 : decode cX4_fittingNotes 33 = .ok (.iload_n 3, 1) := by decide +kernel
theorem dX4_fittingNotes_34 : decode cX4_fittingNotes 34 = .ok (.aload 4, 2) := by decide +kernel
theorem dX4_fittingNotes_36 : decode cX4_fittingNotes 36 = .ok (.iload 5, 2) := by decide +kernel
theorem dX4_fittingNotes_38 : decode cX4_fittingNotes 38 = .ok (.iload 6, 2) := by decide +kernel
theorem dX4_fittingNotes_40 : decode cX4_fittingNotes 40 = .ok (.invokevirtual 89, 3) := by decide +kernel
theorem dX4_fittingNotes_43 : decode cX4_fittingNotes 43 = .ok (.ifCond .eq 12, 3) := by decide +kernel
theorem dX4_fittingNotes_46 : decode cX4_fittingNotes 46 = .ok (.iload 7, 2) := by decide +kernel
theorem dX4_fittingNotes_48 : decode cX4_fittingNotes 48 = .ok (.iconst 1, 1) := by decide +kernel
theorem dX4_fittingNotes_49 : decode cX4_fittingNotes 49 = .ok (.iload 8, 2) := by decide +kernel
theorem dX4_fittingNotes_51 : decode cX4_fittingNotes 51 = .ok (.ishl, 1) := by decide +kernel
theorem dX4_fittingNotes_52 : decode cX4_fittingNotes 52 = .ok (.ior, 1) := by decide +kernel
theorem dX4_fittingNotes_53 : decode cX4_fittingNotes 53 = .ok (.istore 7, 2) := by decide +kernel
theorem dX4_fittingNotes_55 : decode cX4_fittingNotes 55 = .ok (.iinc 8 1, 3) := by decide +kernel
theorem dX4_fittingNotes_58 : decode cX4_fittingNotes 58 = .ok (.goto (-44), 3) := by decide +kernel
theorem dX4_fittingNotes_61 : decode cX4_fittingNotes 61 = .ok (.iload 7, 2) := by decide +kernel
theorem dX4_fittingNotes_63 : decode cX4_fittingNotes 63 = .ok (.ireturn, 1) := by decide +kernel
theorem dX4_fittingReaches_0 : decode cX4_fittingReaches 0 = .ok (.iconst 0, 1) := by decide +kernel
theorem dX4_fittingReaches_1 : decode cX4_fittingReaches 1 = .ok (.istore 6, 2) := by decide +kernel
theorem dX4_fittingReaches_3 : decode cX4_fittingReaches 3 = .ok (.aload_n 0, 1) := by decide +kernel
theorem dX4_fittingReaches_4 : decode cX4_fittingReaches 4 = .ok (.getfield 21, 3) := by decide +kernel
theorem dX4_fittingReaches_7 : decode cX4_fittingReaches 7 = .ok (.aload_n 1, 1) := by decide +kernel
theorem dX4_fittingReaches_8 : decode cX4_fittingReaches 8 = .ok (.invokevirtual 60, 3) := by decide +kernel
theorem dX4_fittingReaches_11 : decode cX4_fittingReaches 11 = .ok (.iconst 0, 1) := by decide +kernel
theorem dX4_fittingReaches_12 : decode cX4_fittingReaches 12 = .ok (.istore 7, 2) := by decide +kernel
theorem dX4_fittingReaches_14 : decode cX4_fittingReaches 14 = .ok (.iload 7, 2) := by decide +kernel
theorem dX4_fittingReaches_16 : decode cX4_fittingReaches 16 = .ok (.bipush 8, 2) := by decide +kernel
theorem dX4_fittingReaches_18 : decode cX4_fittingReaches 18 = .ok (.if_icmp .gt 40, 3) := by decide +kernel
theorem dX4_fittingReaches_21 : decode cX4_fittingReaches 21 = .ok (.aload_n 0, 1) := by decide +kernel
theorem dX4_fittingReaches_22 : decode cX4_fittingReaches 22 = .ok (.getfield 21, 3) := by decide +kernel
theorem dX4_fittingReaches_25 : decode cX4_fittingReaches 25 = .ok (.iload 7, 2) := by decide +kernel
theorem dX4_fittingReaches_27 : decode cX4_fittingReaches 27 = .ok (.putfield 93, 3) := by decide +kernel
theorem dX4_fittingReaches_30 : decode cX4_fittingReaches 30 = .ok (.aload_n 0, 1) := by decide +kernel
theorem dX4_fittingReaches_31 : decode cX4_fittingReaches 31 = .ok (.iload_n 2, 1) := by decide +kernel
theorem dX4_fittingReaches_32 : decode cX4_fittingReaches 32 = .ok (.aload_n 3, 1) := by decide +kernel
theorem dX4_fittingReaches_33 : decode cX4_fittingReaches 33 = .ok (.iload 4, 2) := by decide +kernel
theorem dX4_fittingReaches_35 : decode cX4_fittingReaches 35 = .ok (.iload 5, 2) := by decide +kernel
theorem dX4_fittingReaches_37 : decode cX4_fittingReaches 37 = .ok (.invokevirtual 89, 3) := by decide +kernel
theorem dX4_fittingReaches_40 : decode cX4_fittingReaches 40 = .ok (.ifCond .eq 12, 3) := by decide +kernel
theorem dX4_fittingReaches_43 : decode cX4_fittingReaches 43 = .ok (.iload 6, 2) := by decide +kernel
theorem dX4_fittingReaches_45 : decode cX4_fittingReaches 45 = .ok (.iconst 1, 1) := by decide +kernel
theorem dX4_fittingReaches_46 : decode cX4_fittingReaches 46 = .ok (.iload 7, 2) := by decide +kernel
theorem dX4_fittingReaches_48 : decode cX4_fittingReaches 48 = .ok (.ishl, 1) := by decide +kernel
theorem dX4_fittingReaches_49 : decode cX4_fittingReaches 49 = .ok (.ior, 1) := by decide +kernel
theorem dX4_fittingReaches_50 : decode cX4_fittingReaches 50 = .ok (.istore 6, 2) := by decide +kernel
theorem dX4_fittingReaches_52 : decode cX4_fittingReaches 52 = .ok (.iinc 7 1, 3) := by decide +kernel
theorem dX4_fittingReaches_55 : decode cX4_fittingReaches 55 = .ok (.goto (-41), 3) := by decide +kernel
theorem dX4_fittingReaches_58 : decode cX4_fittingReaches 58 = .ok (.iload 6, 2) := by decide +kernel
theorem dX4_fittingReaches_60 : decode cX4_fittingReaches 60 = .ok (.ireturn, 1) := by decide +kernel
theorem dX4_guessFits_0 : decode cX4_guessFits 0 = .ok (.aload_n 0, 1) := by decide +kernel
theorem dX4_guessFits_1 : decode cX4_guessFits 1 = .ok (.getfield 12, 3) := by decide +kernel
theorem dX4_guessFits_4 : decode cX4_guessFits 4 = .ok (.aload_n 0, 1) := by decide +kernel
theorem dX4_guessFits_5 : decode cX4_guessFits 5 = .ok (.getfield 21, 3) := by decide +kernel
theorem dX4_guessFits_8 : decode cX4_guessFits 8 = .ok (.invokevirtual 25, 3) := by decide +kernel
theorem dX4_guessFits_11 : decode cX4_guessFits 11 = .ok (.aload_n 0, 1) := by decide +kernel
theorem dX4_guessFits_12 : decode cX4_guessFits 12 = .ok (.getfield 21, 3) := by decide +kernel
theorem dX4_guessFits_15 : decode cX4_guessFits 15 = .ok (.iconst 0, 1) := by decide +kernel
theorem dX4_guessFits_16 : decode cX4_guessFits 16 = .ok (.invokevirtual 29, 3) := by decide +kernel
theorem dX4_guessFits_19 : decode cX4_guessFits 19 = .ok (.istore 5, 2) := by decide +kernel
theorem dX4_guessFits_21 : decode cX4_guessFits 21 = .ok (.iconst 0, 1) := by decide +kernel
theorem dX4_guessFits_22 : decode cX4_guessFits 22 = .ok (.istore 6, 2) := by decide +kernel
theorem dX4_guessFits_24 : decode cX4_guessFits 24 = .ok (.iload 6, 2) := by decide +kernel
theorem dX4_guessFits_26 : decode cX4_guessFits 26 = .ok (.iload 4, 2) := by decide +kernel
theorem dX4_guessFits_28 : decode cX4_guessFits 28 = .ok (.if_icmp .ge 35, 3) := by decide +kernel
theorem dX4_guessFits_31 : decode cX4_guessFits 31 = .ok (.aload_n 0, 1) := by decide +kernel
theorem dX4_guessFits_32 : decode cX4_guessFits 32 = .ok (.getfield 12, 3) := by decide +kernel
theorem dX4_guessFits_35 : decode cX4_guessFits 35 = .ok (.iload 6, 2) := by decide +kernel
theorem dX4_guessFits_37 : decode cX4_guessFits 37 = .ok (.iload_n 1, 1) := by decide +kernel
theorem dX4_guessFits_38 : decode cX4_guessFits 38 = .ok (.iload 5, 2) := by decide +kernel
theorem dX4_guessFits_40 : decode cX4_guessFits 40 = .ok (.invokevirtual 33, 3) := by decide +kernel
theorem dX4_guessFits_43 : decode cX4_guessFits 43 = .ok (.invokestatic 54, 3) := by decide +kernel
theorem dX4_guessFits_46 : decode cX4_guessFits 46 = .ok (.aload_n 2, 1) := by decide +kernel
theorem dX4_guessFits_47 : decode cX4_guessFits 47 = .ok (.iload_n 3, 1) := by decide +kernel
theorem dX4_guessFits_48 : decode cX4_guessFits 48 = .ok (.iload 6, 2) := by decide +kernel
theorem dX4_guessFits_50 : decode cX4_guessFits 50 = .ok (.iadd, 1) := by decide +kernel
theorem dX4_guessFits_51 : decode cX4_guessFits 51 = .ok (.iaload, 1) := by decide +kernel
theorem dX4_guessFits_52 : decode cX4_guessFits 52 = .ok (.if_icmp .eq 5, 3) := by decide +kernel
theorem dX4_guessFits_55 : decode cX4_guessFits 55 = .ok (.iconst 0, 1) := by decide +kernel
theorem dX4_guessFits_56 : decode cX4_guessFits 56 = .ok (.ireturn, 1) := by decide +kernel
theorem dX4_guessFits_57 : decode cX4_guessFits 57 = .ok (.iinc 6 1, 3) := by decide +kernel
theorem dX4_guessFits_60 : decode cX4_guessFits 60 = .ok (.goto (-36), 3) := by decide +kernel
theorem dX4_guessFits_63 : decode cX4_guessFits 63 = .ok (.iconst 1, 1) := by decide +kernel
theorem dX4_guessFits_64 : decode cX4_guessFits 64 = .ok (.ireturn, 1) := by decide +kernel
theorem dX4_findMould_0 : decode cX4_findMould 0 = .ok (.aload_n 0, 1) := by decide +kernel
theorem dX4_findMould_1 : decode cX4_findMould 1 = .ok (.getfield 12, 3) := by decide +kernel
theorem dX4_findMould_4 : decode cX4_findMould 4 = .ok (.aload_n 1, 1) := by decide +kernel
theorem dX4_findMould_5 : decode cX4_findMould 5 = .ok (.invokevirtual 25, 3) := by decide +kernel
theorem dX4_findMould_8 : decode cX4_findMould 8 = .ok (.aload_n 1, 1) := by decide +kernel
theorem dX4_findMould_9 : decode cX4_findMould 9 = .ok (.iconst 0, 1) := by decide +kernel
theorem dX4_findMould_10 : decode cX4_findMould 10 = .ok (.invokevirtual 29, 3) := by decide +kernel
theorem dX4_findMould_13 : decode cX4_findMould 13 = .ok (.istore 6, 2) := by decide +kernel
theorem dX4_findMould_15 : decode cX4_findMould 15 = .ok (.aload_n 0, 1) := by decide +kernel
theorem dX4_findMould_16 : decode cX4_findMould 16 = .ok (.lconst 0, 1) := by decide +kernel
theorem dX4_findMould_17 : decode cX4_findMould 17 = .ok (.putfield 96, 3) := by decide +kernel
theorem dX4_findMould_20 : decode cX4_findMould 20 = .ok (.aload_n 0, 1) := by decide +kernel
theorem dX4_findMould_21 : decode cX4_findMould 21 = .ok (.ldc2_w 100, 3) := by decide +kernel
theorem dX4_findMould_24 : decode cX4_findMould 24 = .ok (.iload 6, 2) := by decide +kernel
theorem dX4_findMould_26 : decode cX4_findMould 26 = .ok (.invokestatic 54, 3) := by decide +kernel
theorem dX4_findMould_29 : decode cX4_findMould 29 = .ok (.invokestatic 102, 3) := by decide +kernel
theorem dX4_findMould_32 : decode cX4_findMould 32 = .ok (.putfield 106, 3) := by decide +kernel
theorem dX4_findMould_35 : decode cX4_findMould 35 = .ok (.iconst 0, 1) := by decide +kernel
theorem dX4_findMould_36 : decode cX4_findMould 36 = .ok (.istore 7, 2) := by decide +kernel
theorem dX4_findMould_38 : decode cX4_findMould 38 = .ok (.iload 7, 2) := by decide +kernel
theorem dX4_findMould_40 : decode cX4_findMould 40 = .ok (.sipush 256, 3) := by decide +kernel
theorem dX4_findMould_43 : decode cX4_findMould 43 = .ok (.if_icmp .ge 87, 3) := by decide +kernel
theorem dX4_findMould_46 : decode cX4_findMould 46 = .ok (.iload 7, 2) := by decide +kernel
theorem dX4_findMould_48 : decode cX4_findMould 48 = .ok (.iload 6, 2) := by decide +kernel
theorem dX4_findMould_50 : decode cX4_findMould 50 = .ok (.iconst (-1), 1) := by decide +kernel
theorem dX4_findMould_51 : decode cX4_findMould 51 = .ok (.ixor, 1) := by decide +kernel
theorem dX4_findMould_52 : decode cX4_findMould 52 = .ok (.iand, 1) := by decide +kernel
theorem dX4_findMould_53 : decode cX4_findMould 53 = .ok (.ifCond .ne 71, 3) := by decide +kernel
theorem dX4_findMould_56 : decode cX4_findMould 56 = .ok (.iload 7, 2) := by decide +kernel
theorem dX4_findMould_58 : decode cX4_findMould 58 = .ok (.iload_n 2, 1) := by decide +kernel
theorem dX4_findMould_59 : decode cX4_findMould 59 = .ok (.invokestatic 75, 3) := by decide +kernel
theorem dX4_findMould_62 : decode cX4_findMould 62 = .ok (.ifCond .eq 62, 3) := by decide +kernel
theorem dX4_findMould_65 : decode cX4_findMould 65 = .ok (.aload_n 0, 1) := by decide +kernel
theorem dX4_findMould_66 : decode cX4_findMould 66 = .ok (.getfield 12, 3) := by decide +kernel
theorem dX4_findMould_69 : decode cX4_findMould 69 = .ok (.iload_n 3, 1) := by decide +kernel
theorem dX4_findMould_70 : decode cX4_findMould 70 = .ok (.iload 4, 2) := by decide +kernel
theorem dX4_findMould_72 : decode cX4_findMould 72 = .ok (.iload 7, 2) := by decide +kernel
theorem dX4_findMould_74 : decode cX4_findMould 74 = .ok (.invokevirtual 33, 3) := by decide +kernel
theorem dX4_findMould_77 : decode cX4_findMould 77 = .ok (.iload_n 2, 1) := by decide +kernel
theorem dX4_findMould_78 : decode cX4_findMould 78 = .ok (.invokestatic 75, 3) := by decide +kernel
theorem dX4_findMould_81 : decode cX4_findMould 81 = .ok (.ifCond .eq 43, 3) := by decide +kernel
theorem dX4_findMould_84 : decode cX4_findMould 84 = .ok (.aload_n 0, 1) := by decide +kernel
theorem dX4_findMould_85 : decode cX4_findMould 85 = .ok (.dup, 1) := by decide +kernel
theorem dX4_findMould_86 : decode cX4_findMould 86 = .ok (.getfield 96, 3) := by decide +kernel
theorem dX4_findMould_89 : decode cX4_findMould 89 = .ok (.bipush 10, 2) := by decide +kernel
theorem dX4_findMould_91 : decode cX4_findMould 91 = .ok (.iload 5, 2) := by decide +kernel
theorem dX4_findMould_93 : decode cX4_findMould 93 = .ok (.isub, 1) := by decide +kernel
theorem dX4_findMould_94 : decode cX4_findMould 94 = .ok (.i2l, 1) := by decide +kernel
theorem dX4_findMould_95 : decode cX4_findMould 95 = .ok (.iload 7, 2) := by decide +kernel
theorem dX4_findMould_97 : decode cX4_findMould 97 = .ok (.invokestatic 54, 3) := by decide +kernel
theorem dX4_findMould_100 : decode cX4_findMould 100 = .ok (.invokestatic 102, 3) := by decide +kernel
theorem dX4_findMould_103 : decode cX4_findMould 103 = .ok (.iload 5, 2) := by decide +kernel
theorem dX4_findMould_105 : decode cX4_findMould 105 = .ok (.i2l, 1) := by decide +kernel
theorem dX4_findMould_106 : decode cX4_findMould 106 = .ok (.iload 6, 2) := by decide +kernel
theorem dX4_findMould_108 : decode cX4_findMould 108 = .ok (.iload 7, 2) := by decide +kernel
theorem dX4_findMould_110 : decode cX4_findMould 110 = .ok (.iconst (-1), 1) := by decide +kernel
theorem dX4_findMould_111 : decode cX4_findMould 111 = .ok (.ixor, 1) := by decide +kernel
theorem dX4_findMould_112 : decode cX4_findMould 112 = .ok (.iand, 1) := by decide +kernel
theorem dX4_findMould_113 : decode cX4_findMould 113 = .ok (.invokestatic 54, 3) := by decide +kernel
theorem dX4_findMould_116 : decode cX4_findMould 116 = .ok (.invokestatic 102, 3) := by decide +kernel
theorem dX4_findMould_119 : decode cX4_findMould 119 = .ok (.lmul, 1) := by decide +kernel
theorem dX4_findMould_120 : decode cX4_findMould 120 = .ok (.ladd, 1) := by decide +kernel
theorem dX4_findMould_121 : decode cX4_findMould 121 = .ok (.putfield 96, 3) := by decide +kernel
theorem dX4_findMould_124 : decode cX4_findMould 124 = .ok (.iinc 7 1, 3) := by decide +kernel
theorem dX4_findMould_127 : decode cX4_findMould 127 = .ok (.goto (-89), 3) := by decide +kernel
theorem dX4_findMould_130 : decode cX4_findMould 130 = .ok (.aload_n 0, 1) := by decide +kernel
theorem dX4_findMould_131 : decode cX4_findMould 131 = .ok (.getfield 96, 3) := by decide +kernel
theorem dX4_findMould_134 : decode cX4_findMould 134 = .ok (.aload_n 0, 1) := by decide +kernel
theorem dX4_findMould_135 : decode cX4_findMould 135 = .ok (.getfield 106, 3) := by decide +kernel
theorem dX4_findMould_138 : decode cX4_findMould 138 = .ok (.invokestatic 109, 3) := by decide +kernel
theorem dX4_findMould_141 : decode cX4_findMould 141 = .ok (.lstore 7, 2) := by decide +kernel
theorem dX4_findMould_143 : decode cX4_findMould 143 = .ok (.lload 7, 2) := by decide +kernel
theorem dX4_findMould_145 : decode cX4_findMould 145 = .ok (.lconst 1, 1) := by decide +kernel
theorem dX4_findMould_146 : decode cX4_findMould 146 = .ok (.lcmp, 1) := by decide +kernel
theorem dX4_findMould_147 : decode cX4_findMould 147 = .ok (.ifCond .le 25, 3) := by decide +kernel
theorem dX4_findMould_150 : decode cX4_findMould 150 = .ok (.aload_n 0, 1) := by decide +kernel
theorem dX4_findMould_151 : decode cX4_findMould 151 = .ok (.dup, 1) := by decide +kernel
theorem dX4_findMould_152 : decode cX4_findMould 152 = .ok (.getfield 96, 3) := by decide +kernel
theorem dX4_findMould_155 : decode cX4_findMould 155 = .ok (.lload 7, 2) := by decide +kernel
theorem dX4_findMould_157 : decode cX4_findMould 157 = .ok (.ldiv, 1) := by decide +kernel
theorem dX4_findMould_158 : decode cX4_findMould 158 = .ok (.putfield 96, 3) := by decide +kernel
theorem dX4_findMould_161 : decode cX4_findMould 161 = .ok (.aload_n 0, 1) := by decide +kernel
theorem dX4_findMould_162 : decode cX4_findMould 162 = .ok (.dup, 1) := by decide +kernel
theorem dX4_findMould_163 : decode cX4_findMould 163 = .ok (.getfield 106, 3) := by decide +kernel
theorem dX4_findMould_166 : decode cX4_findMould 166 = .ok (.lload 7, 2) := by decide +kernel
theorem dX4_findMould_168 : decode cX4_findMould 168 = .ok (.ldiv, 1) := by decide +kernel
theorem dX4_findMould_169 : decode cX4_findMould 169 = .ok (.putfield 106, 3) := by decide +kernel
theorem dX4_findMould_172 : decode cX4_findMould 172 = .ok (.return_, 1) := by decide +kernel
theorem dX4_power_0 : decode cX4_power 0 = .ok (.lconst 1, 1) := by decide +kernel
theorem dX4_power_1 : decode cX4_power 1 = .ok (.lstore_n 3, 1) := by decide +kernel
theorem dX4_power_2 : decode cX4_power 2 = .ok (.iconst 0, 1) := by decide +kernel
theorem dX4_power_3 : decode cX4_power 3 = .ok (.istore 5, 2) := by decide +kernel
theorem dX4_power_5 : decode cX4_power 5 = .ok (.iload 5, 2) := by decide +kernel
theorem dX4_power_7 : decode cX4_power 7 = .ok (.iload_n 2, 1) := by decide +kernel
theorem dX4_power_8 : decode cX4_power 8 = .ok (.if_icmp .ge 13, 3) := by decide +kernel
theorem dX4_power_11 : decode cX4_power 11 = .ok (.lload_n 3, 1) := by decide +kernel
theorem dX4_power_12 : decode cX4_power 12 = .ok (.lload_n 0, 1) := by decide +kernel
theorem dX4_power_13 : decode cX4_power 13 = .ok (.lmul, 1) := by decide +kernel
theorem dX4_power_14 : decode cX4_power 14 = .ok (.lstore_n 3, 1) := by decide +kernel
theorem dX4_power_15 : decode cX4_power 15 = .ok (.iinc 5 1, 3) := by decide +kernel
theorem dX4_power_18 : decode cX4_power 18 = .ok (.goto (-13), 3) := by decide +kernel
theorem dX4_power_21 : decode cX4_power 21 = .ok (.lload_n 3, 1) := by decide +kernel
theorem dX4_power_22 : decode cX4_power 22 = .ok (.lreturn, 1) := by decide +kernel
theorem dX4_sharedDivisor_0 : decode cX4_sharedDivisor 0 = .ok (.lload_n 0, 1) := by decide +kernel
theorem dX4_sharedDivisor_1 : decode cX4_sharedDivisor 1 = .ok (.lstore 4, 2) := by decide +kernel
theorem dX4_sharedDivisor_3 : decode cX4_sharedDivisor 3 = .ok (.lload_n 2, 1) := by decide +kernel
theorem dX4_sharedDivisor_4 : decode cX4_sharedDivisor 4 = .ok (.lstore 6, 2) := by decide +kernel
theorem dX4_sharedDivisor_6 : decode cX4_sharedDivisor 6 = .ok (.iconst 0, 1) := by decide +kernel
theorem dX4_sharedDivisor_7 : decode cX4_sharedDivisor 7 = .ok (.istore 8, 2) := by decide +kernel
theorem dX4_sharedDivisor_9 : decode cX4_sharedDivisor 9 = .ok (.iload 8, 2) := by decide +kernel
theorem dX4_sharedDivisor_11 : decode cX4_sharedDivisor 11 = .ok (.bipush 100, 2) := by decide +kernel
theorem dX4_sharedDivisor_13 : decode cX4_sharedDivisor 13 = .ok (.if_icmp .ge 31, 3) := by decide +kernel
theorem dX4_sharedDivisor_16 : decode cX4_sharedDivisor 16 = .ok (.lload 6, 2) := by decide +kernel
theorem dX4_sharedDivisor_18 : decode cX4_sharedDivisor 18 = .ok (.lconst 0, 1) := by decide +kernel
theorem dX4_sharedDivisor_19 : decode cX4_sharedDivisor 19 = .ok (.lcmp, 1) := by decide +kernel
theorem dX4_sharedDivisor_20 : decode cX4_sharedDivisor 20 = .ok (.ifCond .eq 24, 3) := by decide +kernel
theorem dX4_sharedDivisor_23 : decode cX4_sharedDivisor 23 = .ok (.lload 4, 2) := by decide +kernel
theorem dX4_sharedDivisor_25 : decode cX4_sharedDivisor 25 = .ok (.lload 6, 2) := by decide +kernel
theorem dX4_sharedDivisor_27 : decode cX4_sharedDivisor 27 = .ok (.lrem, 1) := by decide +kernel
theorem dX4_sharedDivisor_28 : decode cX4_sharedDivisor 28 = .ok (.lstore 9, 2) := by decide +kernel
theorem dX4_sharedDivisor_30 : decode cX4_sharedDivisor 30 = .ok (.lload 6, 2) := by decide +kernel
theorem dX4_sharedDivisor_32 : decode cX4_sharedDivisor 32 = .ok (.lstore 4, 2) := by decide +kernel
theorem dX4_sharedDivisor_34 : decode cX4_sharedDivisor 34 = .ok (.lload 9, 2) := by decide +kernel
theorem dX4_sharedDivisor_36 : decode cX4_sharedDivisor 36 = .ok (.lstore 6, 2) := by decide +kernel
theorem dX4_sharedDivisor_38 : decode cX4_sharedDivisor 38 = .ok (.iinc 8 1, 3) := by decide +kernel
theorem dX4_sharedDivisor_41 : decode cX4_sharedDivisor 41 = .ok (.goto (-32), 3) := by decide +kernel
theorem dX4_sharedDivisor_44 : decode cX4_sharedDivisor 44 = .ok (.lload 4, 2) := by decide +kernel
theorem dX4_sharedDivisor_46 : decode cX4_sharedDivisor 46 = .ok (.lreturn, 1) := by decide +kernel
theorem dX4_findVintage_0 : decode cX4_findVintage 0 = .ok (.aload_n 0, 1) := by decide +kernel
theorem dX4_findVintage_1 : decode cX4_findVintage 1 = .ok (.getfield 21, 3) := by decide +kernel
theorem dX4_findVintage_4 : decode cX4_findVintage 4 = .ok (.aload_n 1, 1) := by decide +kernel
theorem dX4_findVintage_5 : decode cX4_findVintage 5 = .ok (.invokevirtual 60, 3) := by decide +kernel
theorem dX4_findVintage_8 : decode cX4_findVintage 8 = .ok (.aload_n 0, 1) := by decide +kernel
theorem dX4_findVintage_9 : decode cX4_findVintage 9 = .ok (.getfield 12, 3) := by decide +kernel
theorem dX4_findVintage_12 : decode cX4_findVintage 12 = .ok (.aload_n 0, 1) := by decide +kernel
theorem dX4_findVintage_13 : decode cX4_findVintage 13 = .ok (.getfield 21, 3) := by decide +kernel
theorem dX4_findVintage_16 : decode cX4_findVintage 16 = .ok (.invokevirtual 25, 3) := by decide +kernel
theorem dX4_findVintage_19 : decode cX4_findVintage 19 = .ok (.iload_n 3, 1) := by decide +kernel
theorem dX4_findVintage_20 : decode cX4_findVintage 20 = .ok (.i2l, 1) := by decide +kernel
theorem dX4_findVintage_21 : decode cX4_findVintage 21 = .ok (.lstore 4, 2) := by decide +kernel
theorem dX4_findVintage_23 : decode cX4_findVintage 23 = .ok (.iconst 0, 1) := by decide +kernel
theorem dX4_findVintage_24 : decode cX4_findVintage 24 = .ok (.istore 6, 2) := by decide +kernel
theorem dX4_findVintage_26 : decode cX4_findVintage 26 = .ok (.iload 6, 2) := by decide +kernel
theorem dX4_findVintage_28 : decode cX4_findVintage 28 = .ok (.iload_n 2, 1) := by decide +kernel
theorem dX4_findVintage_29 : decode cX4_findVintage 29 = .ok (.if_icmp .ge 94, 3) := by decide +kernel
theorem dX4_findVintage_32 : decode cX4_findVintage 32 = .ok (.lload 4, 2) := by decide +kernel
theorem dX4_findVintage_34 : decode cX4_findVintage 34 = .ok (.ldc2_w 113, 3) := by decide +kernel
theorem dX4_findVintage_37 : decode cX4_findVintage 37 = .ok (.lmul, 1) := by decide +kernel
theorem dX4_findVintage_38 : decode cX4_findVintage 38 = .ok (.ldc2_w 115, 3) := by decide +kernel
theorem dX4_findVintage_41 : decode cX4_findVintage 41 = .ok (.lrem, 1) := by decide +kernel
theorem dX4_findVintage_42 : decode cX4_findVintage 42 = .ok (.lstore 4, 2) := by decide +kernel
theorem dX4_findVintage_44 : decode cX4_findVintage 44 = .ok (.lload 4, 2) := by decide +kernel
theorem dX4_findVintage_46 : decode cX4_findVintage 46 = .ok (.ldc2_w 117, 3) := by decide +kernel
theorem dX4_findVintage_49 : decode cX4_findVintage 49 = .ok (.lrem, 1) := by decide +kernel
theorem dX4_findVintage_50 : decode cX4_findVintage 50 = .ok (.lconst 0, 1) := by decide +kernel
theorem dX4_findVintage_51 : decode cX4_findVintage 51 = .ok (.lcmp, 1) := by decide +kernel
theorem dX4_findVintage_52 : decode cX4_findVintage 52 = .ok (.ifCond .ne 58, 3) := by decide +kernel
theorem dX4_findVintage_55 : decode cX4_findVintage 55 = .ok (.aload_n 0, 1) := by decide +kernel
theorem dX4_findVintage_56 : decode cX4_findVintage 56 = .ok (.getfield 21, 3) := by decide +kernel
theorem dX4_findVintage_59 : decode cX4_findVintage 59 = .ok (.getfield 63, 3) := by decide +kernel
theorem dX4_findVintage_62 : decode cX4_findVintage 62 = .ok (.ifCond .le 48, 3) := by decide +kernel
theorem dX4_findVintage_65 : decode cX4_findVintage 65 = .ok (.lload 4, 2) := by decide +kernel
theorem dX4_findVintage_67 : decode cX4_findVintage 67 = .ok (.aload_n 0, 1) := by decide +kernel
theorem dX4_findVintage_68 : decode cX4_findVintage 68 = .ok (.getfield 21, 3) := by decide +kernel
theorem dX4_findVintage_71 : decode cX4_findVintage 71 = .ok (.getfield 63, 3) := by decide +kernel
theorem dX4_findVintage_74 : decode cX4_findVintage 74 = .ok (.i2l, 1) := by decide +kernel
theorem dX4_findVintage_75 : decode cX4_findVintage 75 = .ok (.lrem, 1) := by decide +kernel
theorem dX4_findVintage_76 : decode cX4_findVintage 76 = .ok (.l2i, 1) := by decide +kernel
theorem dX4_findVintage_77 : decode cX4_findVintage 77 = .ok (.istore 7, 2) := by decide +kernel
theorem dX4_findVintage_79 : decode cX4_findVintage 79 = .ok (.aload_n 0, 1) := by decide +kernel
theorem dX4_findVintage_80 : decode cX4_findVintage 80 = .ok (.getfield 21, 3) := by decide +kernel
theorem dX4_findVintage_83 : decode cX4_findVintage 83 = .ok (.aload_n 0, 1) := by decide +kernel
theorem dX4_findVintage_84 : decode cX4_findVintage 84 = .ok (.getfield 12, 3) := by decide +kernel
theorem dX4_findVintage_87 : decode cX4_findVintage 87 = .ok (.lload 4, 2) := by decide +kernel
theorem dX4_findVintage_89 : decode cX4_findVintage 89 = .ok (.ldc2_w 119, 3) := by decide +kernel
theorem dX4_findVintage_92 : decode cX4_findVintage 92 = .ok (.lrem, 1) := by decide +kernel
theorem dX4_findVintage_93 : decode cX4_findVintage 93 = .ok (.l2i, 1) := by decide +kernel
theorem dX4_findVintage_94 : decode cX4_findVintage 94 = .ok (.iload 7, 2) := by decide +kernel
theorem dX4_findVintage_96 : decode cX4_findVintage 96 = .ok (.aload_n 0, 1) := by decide +kernel
theorem dX4_findVintage_97 : decode cX4_findVintage 97 = .ok (.getfield 21, 3) := by decide +kernel
theorem dX4_findVintage_100 : decode cX4_findVintage 100 = .ok (.iconst 0, 1) := by decide +kernel
theorem dX4_findVintage_101 : decode cX4_findVintage 101 = .ok (.invokevirtual 29, 3) := by decide +kernel
theorem dX4_findVintage_104 : decode cX4_findVintage 104 = .ok (.invokevirtual 33, 3) := by decide +kernel
theorem dX4_findVintage_107 : decode cX4_findVintage 107 = .ok (.invokevirtual 121, 3) := by decide +kernel
theorem dX4_findVintage_110 : decode cX4_findVintage 110 = .ok (.aload_n 0, 1) := by decide +kernel
theorem dX4_findVintage_111 : decode cX4_findVintage 111 = .ok (.getfield 21, 3) := by decide +kernel
theorem dX4_findVintage_114 : decode cX4_findVintage 114 = .ok (.invokevirtual 125, 3) := by decide +kernel
theorem dX4_findVintage_117 : decode cX4_findVintage 117 = .ok (.iinc 6 1, 3) := by decide +kernel
theorem dX4_findVintage_120 : decode cX4_findVintage 120 = .ok (.goto (-94), 3) := by decide +kernel
theorem dX4_findVintage_123 : decode cX4_findVintage 123 = .ok (.aload_n 0, 1) := by decide +kernel
theorem dX4_findVintage_124 : decode cX4_findVintage 124 = .ok (.aload_n 0, 1) := by decide +kernel
theorem dX4_findVintage_125 : decode cX4_findVintage 125 = .ok (.getfield 21, 3) := by decide +kernel
theorem dX4_findVintage_128 : decode cX4_findVintage 128 = .ok (.iconst 0, 1) := by decide +kernel
theorem dX4_findVintage_129 : decode cX4_findVintage 129 = .ok (.invokevirtual 29, 3) := by decide +kernel
theorem dX4_findVintage_132 : decode cX4_findVintage 132 = .ok (.putfield 48, 3) := by decide +kernel
theorem dX4_findVintage_135 : decode cX4_findVintage 135 = .ok (.aload_n 0, 1) := by decide +kernel
theorem dX4_findVintage_136 : decode cX4_findVintage 136 = .ok (.aload_n 0, 1) := by decide +kernel
theorem dX4_findVintage_137 : decode cX4_findVintage 137 = .ok (.getfield 21, 3) := by decide +kernel
theorem dX4_findVintage_140 : decode cX4_findVintage 140 = .ok (.iconst 1, 1) := by decide +kernel
theorem dX4_findVintage_141 : decode cX4_findVintage 141 = .ok (.invokevirtual 29, 3) := by decide +kernel
theorem dX4_findVintage_144 : decode cX4_findVintage 144 = .ok (.invokestatic 54, 3) := by decide +kernel
theorem dX4_findVintage_147 : decode cX4_findVintage 147 = .ok (.putfield 41, 3) := by decide +kernel
theorem dX4_findVintage_150 : decode cX4_findVintage 150 = .ok (.return_, 1) := by decide +kernel
