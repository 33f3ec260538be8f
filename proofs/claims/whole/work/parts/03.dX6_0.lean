theorem dX6_init_0 : decode cX6_init 0 = .ok (.aload_n 0, 1) := by decide +kernel
theorem dX6_init_1 : decode cX6_init 1 = .ok (.invokespecial 3, 3) := by decide +kernel
theorem dX6_init_4 : decode cX6_init 4 = .ok (.aload_n 0, 1) := by decide +kernel
theorem dX6_init_5 : decode cX6_init 5 = .ok (.bipush 90, 2) := by decide +kernel
theorem dX6_init_7 : decode cX6_init 7 = .ok (.newarray .int, 2) := by decide +kernel
theorem dX6_init_9 : decode cX6_init 9 = .ok (.putfield 9, 3) := by decide +kernel
theorem dX6_init_12 : decode cX6_init 12 = .ok (.return_, 1) := by decide +kernel
theorem dX6_takes_0 : decode cX6_takes 0 = .ok (.aload_n 0, 1) := by decide +kernel
theorem dX6_takes_1 : decode cX6_takes 1 = .ok (.getfield 15, 3) := by decide +kernel
theorem dX6_takes_4 : decode cX6_takes 4 = .ok (.bipush 90, 2) := by decide +kernel
theorem dX6_takes_6 : decode cX6_takes 6 = .ok (.if_icmp .lt 5, 3) := by decide +kernel
theorem dX6_takes_9 : decode cX6_takes 9 = .ok (.iconst 0, 1) := by decide +kernel
theorem dX6_takes_10 : decode cX6_takes 10 = .ok (.ireturn, 1) := by decide +kernel
theorem dX6_takes_11 : decode cX6_takes 11 = .ok (.aload_n 0, 1) := by decide +kernel
theorem dX6_takes_12 : decode cX6_takes 12 = .ok (.getfield 9, 3) := by decide +kernel
theorem dX6_takes_15 : decode cX6_takes 15 = .ok (.aload_n 0, 1) := by decide +kernel
theorem dX6_takes_16 : decode cX6_takes 16 = .ok (.getfield 15, 3) := by decide +kernel
theorem dX6_takes_19 : decode cX6_takes 19 = .ok (.iload_n 1, 1) := by decide +kernel
theorem dX6_takes_20 : decode cX6_takes 20 = .ok (.iastore, 1) := by decide +kernel
theorem dX6_takes_21 : decode cX6_takes 21 = .ok (.aload_n 0, 1) := by decide +kernel
theorem dX6_takes_22 : decode cX6_takes 22 = .ok (.dup, 1) := by decide +kernel
theorem dX6_takes_23 : decode cX6_takes 23 = .ok (.getfield 15, 3) := by decide +kernel
theorem dX6_takes_26 : decode cX6_takes 26 = .ok (.iconst 1, 1) := by decide +kernel
theorem dX6_takes_27 : decode cX6_takes 27 = .ok (.iadd, 1) := by decide +kernel
theorem dX6_takes_28 : decode cX6_takes 28 = .ok (.putfield 15, 3) := by decide +kernel
theorem dX6_takes_31 : decode cX6_takes 31 = .ok (.iconst 1, 1) := by decide +kernel
theorem dX6_takes_32 : decode cX6_takes 32 = .ok (.ireturn, 1) := by decide +kernel
theorem dX6_tells_0 : decode cX6_tells 0 = .ok (.aload_n 0, 1) := by decide +kernel
theorem dX6_tells_1 : decode cX6_tells 1 = .ok (.iconst 0, 1) := by decide +kernel
theorem dX6_tells_2 : decode cX6_tells 2 = .ok (.putfield 19, 3) := by decide +kernel
theorem dX6_tells_5 : decode cX6_tells 5 = .ok (.aload_n 1, 1) := by decide +kernel
theorem dX6_tells_6 : decode cX6_tells 6 = .ok (.invokevirtual 22, 3) := by decide +kernel
theorem dX6_tells_9 : decode cX6_tells 9 = .ok (.aload_n 0, 1) := by decide +kernel
theorem dX6_tells_10 : decode cX6_tells 10 = .ok (.bipush 107, 2) := by decide +kernel
theorem dX6_tells_12 : decode cX6_tells 12 = .ok (.invokevirtual 27, 3) := by decide +kernel
theorem dX6_tells_15 : decode cX6_tells 15 = .ok (.ifCond .eq 13, 3) := by decide +kernel
theorem dX6_tells_18 : decode cX6_tells 18 = .ok (.aload_n 0, 1) := by decide +kernel
theorem dX6_tells_19 : decode cX6_tells 19 = .ok (.iconst 0, 1) := by decide +kernel
theorem dX6_tells_20 : decode cX6_tells 20 = .ok (.bipush 8, 2) := by decide +kernel
theorem dX6_tells_22 : decode cX6_tells 22 = .ok (.invokevirtual 31, 3) := by decide +kernel
theorem dX6_tells_25 : decode cX6_tells 25 = .ok (.ifCond .ne 5, 3) := by decide +kernel
theorem dX6_tells_28 : decode cX6_tells 28 = .ok (.iconst 0, 1) := by decide +kernel
theorem dX6_tells_29 : decode cX6_tells 29 = .ok (.ireturn, 1) := by decide +kernel
theorem dX6_tells_30 : decode cX6_tells 30 = .ok (.aload_n 1, 1) := by decide +kernel
theorem dX6_tells_31 : decode cX6_tells 31 = .ok (.aload_n 0, 1) := by decide +kernel
theorem dX6_tells_32 : decode cX6_tells 32 = .ok (.getfield 35, 3) := by decide +kernel
theorem dX6_tells_35 : decode cX6_tells 35 = .ok (.putfield 38, 3) := by decide +kernel
theorem dX6_tells_38 : decode cX6_tells 38 = .ok (.aload_n 0, 1) := by decide +kernel
theorem dX6_tells_39 : decode cX6_tells 39 = .ok (.bipush 59, 2) := by decide +kernel
theorem dX6_tells_41 : decode cX6_tells 41 = .ok (.invokevirtual 27, 3) := by decide +kernel
theorem dX6_tells_44 : decode cX6_tells 44 = .ok (.ifCond .ne 5, 3) := by decide +kernel
theorem dX6_tells_47 : decode cX6_tells 47 = .ok (.iconst 0, 1) := by decide +kernel
theorem dX6_tells_48 : decode cX6_tells 48 = .ok (.ireturn, 1) := by decide +kernel
theorem dX6_tells_49 : decode cX6_tells 49 = .ok (.iconst 0, 1) := by decide +kernel
theorem dX6_tells_50 : decode cX6_tells 50 = .ok (.istore_n 2, 1) := by decide +kernel
theorem dX6_tells_51 : decode cX6_tells 51 = .ok (.iload_n 2, 1) := by decide +kernel
theorem dX6_tells_52 : decode cX6_tells 52 = .ok (.bipush 8, 2) := by decide +kernel
theorem dX6_tells_54 : decode cX6_tells 54 = .ok (.if_icmp .gt 36, 3) := by decide +kernel
theorem dX6_tells_57 : decode cX6_tells 57 = .ok (.iload_n 2, 1) := by decide +kernel
theorem dX6_tells_58 : decode cX6_tells 58 = .ok (.ifCond .le 16, 3) := by decide +kernel
theorem dX6_tells_61 : decode cX6_tells 61 = .ok (.aload_n 0, 1) := by decide +kernel
theorem dX6_tells_62 : decode cX6_tells 62 = .ok (.getfield 19, 3) := by decide +kernel
theorem dX6_tells_65 : decode cX6_tells 65 = .ok (.aload_n 0, 1) := by decide +kernel
theorem dX6_tells_66 : decode cX6_tells 66 = .ok (.getfield 15, 3) := by decide +kernel
theorem dX6_tells_69 : decode cX6_tells 69 = .ok (.if_icmp .ne 5, 3) := by decide +kernel
theorem dX6_tells_72 : decode cX6_tells 72 = .ok (.iconst 1, 1) := by decide +kernel
theorem dX6_tells_73 : decode cX6_tells 73 = .ok (.ireturn, 1) := by decide +kernel
theorem dX6_tells_74 : decode cX6_tells 74 = .ok (.aload_n 0, 1) := by decide +kernel
theorem dX6_tells_75 : decode cX6_tells 75 = .ok (.aload_n 1, 1) := by decide +kernel
theorem dX6_tells_76 : decode cX6_tells 76 = .ok (.invokevirtual 41, 3) := by decide +kernel
theorem dX6_tells_79 : decode cX6_tells 79 = .ok (.ifCond .ne 5, 3) := by decide +kernel
theorem dX6_tells_82 : decode cX6_tells 82 = .ok (.iconst 0, 1) := by decide +kernel
theorem dX6_tells_83 : decode cX6_tells 83 = .ok (.ireturn, 1) := by decide +kernel
theorem dX6_tells_84 : decode cX6_tells 84 = .ok (.iinc 2 1, 3) := by decide +kernel
theorem dX6_tells_87 : decode cX6_tells 87 = .ok (.goto (-36), 3) := by decide +kernel
theorem dX6_tells_90 : decode cX6_tells 90 = .ok (.iconst 0, 1) := by decide +kernel
theorem dX6_tells_91 : decode cX6_tells 91 = .ok (.ireturn, 1) := by decide +kernel
theorem dX6_tellsJar_0 : decode cX6_tellsJar 0 = .ok (.aload_n 0, 1) := by decide +kernel
theorem dX6_tellsJar_1 : decode cX6_tellsJar 1 = .ok (.getfield 19, 3) := by decide +kernel
theorem dX6_tellsJar_4 : decode cX6_tellsJar 4 = .ok (.aload_n 0, 1) := by decide +kernel
theorem dX6_tellsJar_5 : decode cX6_tellsJar 5 = .ok (.getfield 15, 3) := by decide +kernel
theorem dX6_tellsJar_8 : decode cX6_tellsJar 8 = .ok (.if_icmp .ge 18, 3) := by decide +kernel
theorem dX6_tellsJar_11 : decode cX6_tellsJar 11 = .ok (.aload_n 0, 1) := by decide +kernel
theorem dX6_tellsJar_12 : decode cX6_tellsJar 12 = .ok (.getfield 9, 3) := by decide +kernel
theorem dX6_tellsJar_15 : decode cX6_tellsJar 15 = .ok (.aload_n 0, 1) := by decide +kernel
theorem dX6_tellsJar_16 : decode cX6_tellsJar 16 = .ok (.getfield 19, 3) := by decide +kernel
theorem dX6_tellsJar_19 : decode cX6_tellsJar 19 = .ok (.iaload, 1) := by decide +kernel
theorem dX6_tellsJar_20 : decode cX6_tellsJar 20 = .ok (.invokestatic 45, 3) := by decide +kernel
theorem dX6_tellsJar_23 : decode cX6_tellsJar 23 = .ok (.goto 4, 3) := by decide +kernel
theorem dX6_tellsJar_26 : decode cX6_tellsJar 26 = .ok (.iconst 0, 1) := by decide +kernel
theorem dX6_tellsJar_27 : decode cX6_tellsJar 27 = .ok (.istore_n 2, 1) := by decide +kernel
theorem dX6_tellsJar_28 : decode cX6_tellsJar 28 = .ok (.iload_n 2, 1) := by decide +kernel
theorem dX6_tellsJar_29 : decode cX6_tellsJar 29 = .ok (.ifCond .ne 9, 3) := by decide +kernel
theorem dX6_tellsJar_32 : decode cX6_tellsJar 32 = .ok (.aload_n 0, 1) := by decide +kernel
theorem dX6_tellsJar_33 : decode cX6_tellsJar 33 = .ok (.iconst 1, 1) := by decide +kernel
theorem dX6_tellsJar_34 : decode cX6_tellsJar 34 = .ok (.invokevirtual 49, 3) := by decide +kernel
theorem dX6_tellsJar_37 : decode cX6_tellsJar 37 = .ok (.ireturn, 1) := by decide +kernel
theorem dX6_tellsJar_38 : decode cX6_tellsJar 38 = .ok (.aload_n 1, 1) := by decide +kernel
theorem dX6_tellsJar_39 : decode cX6_tellsJar 39 = .ok (.getfield 52, 3) := by decide +kernel
theorem dX6_tellsJar_42 : decode cX6_tellsJar 42 = .ok (.bipush 8, 2) := by decide +kernel
theorem dX6_tellsJar_44 : decode cX6_tellsJar 44 = .ok (.if_icmp .lt 9, 3) := by decide +kernel
theorem dX6_tellsJar_47 : decode cX6_tellsJar 47 = .ok (.aload_n 0, 1) := by decide +kernel
theorem dX6_tellsJar_48 : decode cX6_tellsJar 48 = .ok (.iconst 3, 1) := by decide +kernel
theorem dX6_tellsJar_49 : decode cX6_tellsJar 49 = .ok (.invokevirtual 49, 3) := by decide +kernel
theorem dX6_tellsJar_52 : decode cX6_tellsJar 52 = .ok (.ireturn, 1) := by decide +kernel
theorem dX6_tellsJar_53 : decode cX6_tellsJar 53 = .ok (.aload_n 0, 1) := by decide +kernel
theorem dX6_tellsJar_54 : decode cX6_tellsJar 54 = .ok (.dup, 1) := by decide +kernel
theorem dX6_tellsJar_55 : decode cX6_tellsJar 55 = .ok (.getfield 19, 3) := by decide +kernel
theorem dX6_tellsJar_58 : decode cX6_tellsJar 58 = .ok (.iconst 1, 1) := by decide +kernel
theorem dX6_tellsJar_59 : decode cX6_tellsJar 59 = .ok (.iadd, 1) := by decide +kernel
theorem dX6_tellsJar_60 : decode cX6_tellsJar 60 = .ok (.putfield 19, 3) := by decide +kernel
theorem dX6_tellsJar_63 : decode cX6_tellsJar 63 = .ok (.aload_n 0, 1) := by decide +kernel
theorem dX6_tellsJar_64 : decode cX6_tellsJar 64 = .ok (.iconst 0, 1) := by decide +kernel
theorem dX6_tellsJar_65 : decode cX6_tellsJar 65 = .ok (.bipush 11, 2) := by decide +kernel
theorem dX6_tellsJar_67 : decode cX6_tellsJar 67 = .ok (.invokevirtual 31, 3) := by decide +kernel
theorem dX6_tellsJar_70 : decode cX6_tellsJar 70 = .ok (.ifCond .ne 5, 3) := by decide +kernel
theorem dX6_tellsJar_73 : decode cX6_tellsJar 73 = .ok (.iconst 0, 1) := by decide +kernel
theorem dX6_tellsJar_74 : decode cX6_tellsJar 74 = .ok (.ireturn, 1) := by decide +kernel
theorem dX6_tellsJar_75 : decode cX6_tellsJar 75 = .ok (.aload_n 0, 1) := by decide +kernel
theorem dX6_tellsJar_76 : decode cX6_tellsJar 76 = .ok (.getfield 35, 3) := by decide +kernel
theorem dX6_tellsJar_79 : decode cX6_tellsJar 79 = .ok (.istore_n 3, 1) := by decide +kernel
theorem dX6_tellsJar_80 : decode cX6_tellsJar 80 = .ok (.aload_n 0, 1) := by decide +kernel
theorem dX6_tellsJar_81 : decode cX6_tellsJar 81 = .ok (.bipush 44, 2) := by decide +kernel
theorem dX6_tellsJar_83 : decode cX6_tellsJar 83 = .ok (.invokevirtual 27, 3) := by decide +kernel
theorem dX6_tellsJar_86 : decode cX6_tellsJar 86 = .ok (.ifCond .eq 13, 3) := by decide +kernel
theorem dX6_tellsJar_89 : decode cX6_tellsJar 89 = .ok (.aload_n 0, 1) := by decide +kernel
theorem dX6_tellsJar_90 : decode cX6_tellsJar 90 = .ok (.iconst 1, 1) := by decide +kernel
theorem dX6_tellsJar_91 : decode cX6_tellsJar 91 = .ok (.bipush 60, 2) := by decide +kernel
theorem dX6_tellsJar_93 : decode cX6_tellsJar 93 = .ok (.invokevirtual 31, 3) := by decide +kernel
theorem dX6_tellsJar_96 : decode cX6_tellsJar 96 = .ok (.ifCond .ne 5, 3) := by decide +kernel
theorem dX6_tellsJar_99 : decode cX6_tellsJar 99 = .ok (.iconst 0, 1) := by decide +kernel
theorem dX6_tellsJar_100 : decode cX6_tellsJar 100 = .ok (.ireturn, 1) := by decide +kernel
theorem dX6_tellsJar_101 : decode cX6_tellsJar 101 = .ok (.aload_n 0, 1) := by decide +kernel
theorem dX6_tellsJar_102 : decode cX6_tellsJar 102 = .ok (.getfield 35, 3) := by decide +kernel
theorem dX6_tellsJar_105 : decode cX6_tellsJar 105 = .ok (.istore 4, 2) := by decide +kernel
theorem dX6_tellsJar_107 : decode cX6_tellsJar 107 = .ok (.aload_n 0, 1) := by decide +kernel
theorem dX6_tellsJar_108 : decode cX6_tellsJar 108 = .ok (.bipush 59, 2) := by decide +kernel
theorem dX6_tellsJar_110 : decode cX6_tellsJar 110 = .ok (.invokevirtual 27, 3) := by decide +kernel
theorem dX6_tellsJar_113 : decode cX6_tellsJar 113 = .ok (.ifCond .ne 5, 3) := by decide +kernel
theorem dX6_tellsJar_116 : decode cX6_tellsJar 116 = .ok (.iconst 0, 1) := by decide +kernel
theorem dX6_tellsJar_117 : decode cX6_tellsJar 117 = .ok (.ireturn, 1) := by decide +kernel
theorem dX6_tellsJar_118 : decode cX6_tellsJar 118 = .ok (.aload_n 1, 1) := by decide +kernel
theorem dX6_tellsJar_119 : decode cX6_tellsJar 119 = .ok (.iload_n 2, 1) := by decide +kernel
theorem dX6_tellsJar_120 : decode cX6_tellsJar 120 = .ok (.iload_n 3, 1) := by decide +kernel
theorem dX6_tellsJar_121 : decode cX6_tellsJar 121 = .ok (.iload 4, 2) := by decide +kernel
theorem dX6_tellsJar_123 : decode cX6_tellsJar 123 = .ok (.invokevirtual 55, 3) := by decide +kernel
theorem dX6_tellsJar_126 : decode cX6_tellsJar 126 = .ok (.iconst 1, 1) := by decide +kernel
theorem dX6_tellsJar_127 : decode cX6_tellsJar 127 = .ok (.ireturn, 1) := by decide +kernel
theorem dX6_kindOf_0 : decode cX6_kindOf 0 = .ok (.iload_n 0, 1) := by decide +kernel
theorem dX6_kindOf_1 : decode cX6_kindOf 1 = .ok (.lookupswitch 61 #[(99, 59), (103, 51), (104, 55), (115, 57), (116, 53)], 51) := by decide +kernel
theorem dX6_kindOf_52 : decode cX6_kindOf 52 = .ok (.iconst 1, 1) := by decide +kernel
theorem dX6_kindOf_53 : decode cX6_kindOf 53 = .ok (.ireturn, 1) := by decide +kernel
theorem dX6_kindOf_54 : decode cX6_kindOf 54 = .ok (.iconst 2, 1) := by decide +kernel
theorem dX6_kindOf_55 : decode cX6_kindOf 55 = .ok (.ireturn, 1) := by decide +kernel
theorem dX6_kindOf_56 : decode cX6_kindOf 56 = .ok (.iconst 3, 1) := by decide +kernel
theorem dX6_kindOf_57 : decode cX6_kindOf 57 = .ok (.ireturn, 1) := by decide +kernel
theorem dX6_kindOf_58 : decode cX6_kindOf 58 = .ok (.iconst 4, 1) := by decide +kernel
theorem dX6_kindOf_59 : decode cX6_kindOf 59 = .ok (.ireturn, 1) := by decide +kernel
theorem dX6_kindOf_60 : decode cX6_kindOf 60 = .ok (.iconst 5, 1) := by decide +kernel
theorem dX6_kindOf_61 : decode cX6_kindOf 61 = .ok (.ireturn, 1) := by decide +kernel
theorem dX6_kindOf_62 : decode cX6_kindOf 62 = .ok (.iconst 0, 1) := by decide +kernel
theorem dX6_kindOf_63 : decode cX6_kindOf 63 = .ok (.ireturn, 1) := by decide +kernel
theorem dX6_passes_0 : decode cX6_passes 0 = .ok (.aload_n 0, 1) := by decide +kernel
theorem dX6_passes_1 : decode cX6_passes 1 = .ok (.getfield 19, 3) := by decide +kernel
theorem dX6_passes_4 : decode cX6_passes 4 = .ok (.aload_n 0, 1) := by decide +kernel
theorem dX6_passes_5 : decode cX6_passes 5 = .ok (.getfield 15, 3) := by decide +kernel
theorem dX6_passes_8 : decode cX6_passes 8 = .ok (.if_icmp .ge 16, 3) := by decide +kernel
theorem dX6_passes_11 : decode cX6_passes 11 = .ok (.aload_n 0, 1) := by decide +kernel
theorem dX6_passes_12 : decode cX6_passes 12 = .ok (.getfield 9, 3) := by decide +kernel
theorem dX6_passes_15 : decode cX6_passes 15 = .ok (.aload_n 0, 1) := by decide +kernel
theorem dX6_passes_16 : decode cX6_passes 16 = .ok (.getfield 19, 3) := by decide +kernel
theorem dX6_passes_19 : decode cX6_passes 19 = .ok (.iaload, 1) := by decide +kernel
theorem dX6_passes_20 : decode cX6_passes 20 = .ok (.iload_n 1, 1) := by decide +kernel
theorem dX6_passes_21 : decode cX6_passes 21 = .ok (.if_icmp .eq 9, 3) := by decide +kernel
theorem dX6_passes_24 : decode cX6_passes 24 = .ok (.aload_n 0, 1) := by decide +kernel
theorem dX6_passes_25 : decode cX6_passes 25 = .ok (.iconst 1, 1) := by decide +kernel
theorem dX6_passes_26 : decode cX6_passes 26 = .ok (.invokevirtual 49, 3) := by decide +kernel
theorem dX6_passes_29 : decode cX6_passes 29 = .ok (.ireturn, 1) := by decide +kernel
theorem dX6_passes_30 : decode cX6_passes 30 = .ok (.aload_n 0, 1) := by decide +kernel
theorem dX6_passes_31 : decode cX6_passes 31 = .ok (.dup, 1) := by decide +kernel
theorem dX6_passes_32 : decode cX6_passes 32 = .ok (.getfield 19, 3) := by decide +kernel
theorem dX6_passes_35 : decode cX6_passes 35 = .ok (.iconst 1, 1) := by decide +kernel
theorem dX6_passes_36 : decode cX6_passes 36 = .ok (.iadd, 1) := by decide +kernel
theorem dX6_passes_37 : decode cX6_passes 37 = .ok (.putfield 19, 3) := by decide +kernel
theorem dX6_passes_40 : decode cX6_passes 40 = .ok (.iconst 1, 1) := by decide +kernel
theorem dX6_passes_41 : decode cX6_passes 41 = .ok (.ireturn, 1) := by decide +kernel
theorem dX6_numbers_0 : decode cX6_numbers 0 = .ok (.aload_n 0, 1) := by decide +kernel
theorem dX6_numbers_1 : decode cX6_numbers 1 = .ok (.invokevirtual 59, 3) := by decide +kernel
theorem dX6_numbers_4 : decode cX6_numbers 4 = .ok (.istore_n 3, 1) := by decide +kernel
theorem dX6_numbers_5 : decode cX6_numbers 5 = .ok (.iload_n 3, 1) := by decide +kernel
theorem dX6_numbers_6 : decode cX6_numbers 6 = .ok (.iconst 1, 1) := by decide +kernel
theorem dX6_numbers_7 : decode cX6_numbers 7 = .ok (.iconst 2, 1) := by decide +kernel
theorem dX6_numbers_8 : decode cX6_numbers 8 = .ok (.invokestatic 63, 3) := by decide +kernel
theorem dX6_numbers_11 : decode cX6_numbers 11 = .ok (.ifCond .ne 9, 3) := by decide +kernel
theorem dX6_numbers_14 : decode cX6_numbers 14 = .ok (.aload_n 0, 1) := by decide +kernel
theorem dX6_numbers_15 : decode cX6_numbers 15 = .ok (.iconst 1, 1) := by decide +kernel
theorem dX6_numbers_16 : decode cX6_numbers 16 = .ok (.invokevirtual 49, 3) := by decide +kernel
theorem dX6_numbers_19 : decode cX6_numbers 19 = .ok (.ireturn, 1) := by decide +kernel
theorem dX6_numbers_20 : decode cX6_numbers 20 = .ok (.aload_n 0, 1) := by decide +kernel
theorem dX6_numbers_21 : decode cX6_numbers 21 = .ok (.iconst 0, 1) := by decide +kernel
theorem dX6_numbers_22 : decode cX6_numbers 22 = .ok (.putfield 35, 3) := by decide +kernel
theorem dX6_numbers_25 : decode cX6_numbers 25 = .ok (.iconst 0, 1) := by decide +kernel
theorem dX6_numbers_26 : decode cX6_numbers 26 = .ok (.istore 4, 2) := by decide +kernel
theorem dX6_numbers_28 : decode cX6_numbers 28 = .ok (.iload 4, 2) := by decide +kernel
theorem dX6_numbers_30 : decode cX6_numbers 30 = .ok (.iload_n 3, 1) := by decide +kernel
theorem dX6_numbers_31 : decode cX6_numbers 31 = .ok (.if_icmp .ge 36, 3) := by decide +kernel
theorem dX6_numbers_34 : decode cX6_numbers 34 = .ok (.aload_n 0, 1) := by decide +kernel
theorem dX6_numbers_35 : decode cX6_numbers 35 = .ok (.aload_n 0, 1) := by decide +kernel
theorem dX6_numbers_36 : decode cX6_numbers 36 = .ok (.getfield 35, 3) := by decide +kernel
theorem dX6_numbers_39 : decode cX6_numbers 39 = .ok (.bipush 10, 2) := by decide +kernel
theorem dX6_numbers_41 : decode cX6_numbers 41 = .ok (.imul, 1) := by decide +kernel
theorem dX6_numbers_42 : decode cX6_numbers 42 = .ok (.aload_n 0, 1) := by decide +kernel
theorem dX6_numbers_43 : decode cX6_numbers 43 = .ok (.getfield 9, 3) := by decide +kernel
theorem dX6_numbers_46 : decode cX6_numbers 46 = .ok (.aload_n 0, 1) := by decide +kernel
theorem dX6_numbers_47 : decode cX6_numbers 47 = .ok (.getfield 19, 3) := by decide +kernel
theorem dX6_numbers_50 : decode cX6_numbers 50 = .ok (.iload 4, 2) := by decide +kernel
theorem dX6_numbers_52 : decode cX6_numbers 52 = .ok (.iadd, 1) := by decide +kernel
theorem dX6_numbers_53 : decode cX6_numbers 53 = .ok (.iaload, 1) := by decide +kernel
theorem dX6_numbers_54 : decode cX6_numbers 54 = .ok (.iadd, 1) := by decide +kernel
theorem dX6_numbers_55 : decode cX6_numbers 55 = .ok (.bipush 48, 2) := by decide +kernel
theorem dX6_numbers_57 : decode cX6_numbers 57 = .ok (.isub, 1) := by decide +kernel
theorem dX6_numbers_58 : decode cX6_numbers 58 = .ok (.putfield 35, 3) := by decide +kernel
theorem dX6_numbers_61 : decode cX6_numbers 61 = .ok (.iinc 4 1, 3) := by decide +kernel
theorem dX6_numbers_64 : decode cX6_numbers 64 = .ok (.goto (-36), 3) := by decide +kernel
theorem dX6_numbers_67 : decode cX6_numbers 67 = .ok (.aload_n 0, 1) := by decide +kernel
theorem dX6_numbers_68 : decode cX6_numbers 68 = .ok (.getfield 35, 3) := by decide +kernel
theorem dX6_numbers_71 : decode cX6_numbers 71 = .ok (.iload_n 1, 1) := by decide +kernel
theorem dX6_numbers_72 : decode cX6_numbers 72 = .ok (.iload_n 2, 1) := by decide +kernel
theorem dX6_numbers_73 : decode cX6_numbers 73 = .ok (.invokestatic 63, 3) := by decide +kernel
theorem dX6_numbers_76 : decode cX6_numbers 76 = .ok (.ifCond .ne 9, 3) := by decide +kernel
theorem dX6_numbers_79 : decode cX6_numbers 79 = .ok (.aload_n 0, 1) := by decide +kernel
theorem dX6_numbers_80 : decode cX6_numbers 80 = .ok (.iconst 2, 1) := by decide +kernel
theorem dX6_numbers_81 : decode cX6_numbers 81 = .ok (.invokevirtual 49, 3) := by decide +kernel
theorem dX6_numbers_84 : decode cX6_numbers 84 = .ok (.ireturn, 1) := by decide +kernel
theorem dX6_numbers_85 : decode cX6_numbers 85 = .ok (.aload_n 0, 1) := by decide +kernel
theorem dX6_numbers_86 : decode cX6_numbers 86 = .ok (.dup, 1) := by decide +kernel
theorem dX6_numbers_87 : decode cX6_numbers 87 = .ok (.getfield 19, 3) := by decide +kernel
theorem dX6_numbers_90 : decode cX6_numbers 90 = .ok (.iload_n 3, 1) := by decide +kernel
theorem dX6_numbers_91 : decode cX6_numbers 91 = .ok (.iadd, 1) := by decide +kernel
theorem dX6_numbers_92 : decode cX6_numbers 92 = .ok (.putfield 19, 3) := by decide +kernel
theorem dX6_numbers_95 : decode cX6_numbers 95 = .ok (.iconst 1, 1) := by decide +kernel
theorem dX6_numbers_96 : decode cX6_numbers 96 = .ok (.ireturn, 1) := by decide +kernel
theorem dX6_figures_0 : decode cX6_figures 0 = .ok (.iconst 0, 1) := by decide +kernel
theorem dX6_figures_1 : decode cX6_figures 1 = .ok (.istore_n 1, 1) := by decide +kernel
theorem dX6_figures_2 : decode cX6_figures 2 = .ok (.aload_n 0, 1) := by decide +kernel
theorem dX6_figures_3 : decode cX6_figures 3 = .ok (.getfield 19, 3) := by decide +kernel
theorem dX6_figures_6 : decode cX6_figures 6 = .ok (.iload_n 1, 1) := by decide +kernel
theorem dX6_figures_7 : decode cX6_figures 7 = .ok (.iadd, 1) := by decide +kernel
theorem dX6_figures_8 : decode cX6_figures 8 = .ok (.aload_n 0, 1) := by decide +kernel
theorem dX6_figures_9 : decode cX6_figures 9 = .ok (.getfield 15, 3) := by decide +kernel
theorem dX6_figures_12 : decode cX6_figures 12 = .ok (.if_icmp .ge 30, 3) := by decide +kernel
theorem dX6_figures_15 : decode cX6_figures 15 = .ok (.aload_n 0, 1) := by decide +kernel
theorem dX6_figures_16 : decode cX6_figures 16 = .ok (.getfield 9, 3) := by decide +kernel
theorem dX6_figures_19 : decode cX6_figures 19 = .ok (.aload_n 0, 1) := by decide +kernel
theorem dX6_figures_20 : decode cX6_figures 20 = .ok (.getfield 19, 3) := by decide +kernel
theorem dX6_figures_23 : decode cX6_figures 23 = .ok (.iload_n 1, 1) := by decide +kernel
theorem dX6_figures_24 : decode cX6_figures 24 = .ok (.iadd, 1) := by decide +kernel
theorem dX6_figures_25 : decode cX6_figures 25 = .ok (.iaload, 1) := by decide +kernel
theorem dX6_figures_26 : decode cX6_figures 26 = .ok (.bipush 48, 2) := by decide +kernel
theorem dX6_figures_28 : decode cX6_figures 28 = .ok (.bipush 57, 2) := by decide +kernel
theorem dX6_figures_30 : decode cX6_figures 30 = .ok (.invokestatic 63, 3) := by decide +kernel
theorem dX6_figures_33 : decode cX6_figures 33 = .ok (.ifCond .eq 9, 3) := by decide +kernel
theorem dX6_figures_36 : decode cX6_figures 36 = .ok (.iinc 1 1, 3) := by decide +kernel
theorem dX6_figures_39 : decode cX6_figures 39 = .ok (.goto (-37), 3) := by decide +kernel
theorem dX6_figures_42 : decode cX6_figures 42 = .ok (.iload_n 1, 1) := by decide +kernel
theorem dX6_figures_43 : decode cX6_figures 43 = .ok (.ireturn, 1) := by decide +kernel
theorem dX6_fails_0 : decode cX6_fails 0 = .ok (.aload_n 0, 1) := by decide +kernel
theorem dX6_fails_1 : decode cX6_fails 1 = .ok (.iload_n 1, 1) := by decide +kernel
theorem dX6_fails_2 : decode cX6_fails 2 = .ok (.putfield 67, 3) := by decide +kernel
theorem dX6_fails_5 : decode cX6_fails 5 = .ok (.iconst 0, 1) := by decide +kernel
theorem dX6_fails_6 : decode cX6_fails 6 = .ok (.ireturn, 1) := by decide +kernel
