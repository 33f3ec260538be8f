theorem dX7_init_0 : decode cX7_init 0 = .ok (.aload_n 0, 1) := by decide +kernel
theorem dX7_init_1 : decode cX7_init 1 = .ok (.invokespecial 1, 3) := by decide +kernel
theorem dX7_init_4 : decode cX7_init 4 = .ok (.aload_n 0, 1) := by decide +kernel
theorem dX7_init_5 : decode cX7_init 5 = .ok (.new 7, 3) := by decide +kernel
theorem dX7_init_8 : decode cX7_init 8 = .ok (.dup, 1) := by decide +kernel
theorem dX7_init_9 : decode cX7_init 9 = .ok (.invokespecial 9, 3) := by decide +kernel
theorem dX7_init_12 : decode cX7_init 12 = .ok (.putfield 10, 3) := by decide +kernel
theorem dX7_init_15 : decode cX7_init 15 = .ok (.aload_n 0, 1) := by decide +kernel
theorem dX7_init_16 : decode cX7_init 16 = .ok (.new 16, 3) := by decide +kernel
theorem dX7_init_19 : decode cX7_init 19 = .ok (.dup, 1) := by decide +kernel
theorem dX7_init_20 : decode cX7_init 20 = .ok (.invokespecial 18, 3) := by decide +kernel
theorem dX7_init_23 : decode cX7_init 23 = .ok (.putfield 19, 3) := by decide +kernel
theorem dX7_init_26 : decode cX7_init 26 = .ok (.aload_n 0, 1) := by decide +kernel
theorem dX7_init_27 : decode cX7_init 27 = .ok (.new 23, 3) := by decide +kernel
theorem dX7_init_30 : decode cX7_init 30 = .ok (.dup, 1) := by decide +kernel
theorem dX7_init_31 : decode cX7_init 31 = .ok (.invokespecial 25, 3) := by decide +kernel
theorem dX7_init_34 : decode cX7_init 34 = .ok (.putfield 26, 3) := by decide +kernel
theorem dX7_init_37 : decode cX7_init 37 = .ok (.aload_n 0, 1) := by decide +kernel
theorem dX7_init_38 : decode cX7_init 38 = .ok (.new 23, 3) := by decide +kernel
theorem dX7_init_41 : decode cX7_init 41 = .ok (.dup, 1) := by decide +kernel
theorem dX7_init_42 : decode cX7_init 42 = .ok (.invokespecial 25, 3) := by decide +kernel
theorem dX7_init_45 : decode cX7_init 45 = .ok (.putfield 30, 3) := by decide +kernel
theorem dX7_init_48 : decode cX7_init 48 = .ok (.aload_n 0, 1) := by decide +kernel
theorem dX7_init_49 : decode cX7_init 49 = .ok (.new 33, 3) := by decide +kernel
theorem dX7_init_52 : decode cX7_init 52 = .ok (.dup, 1) := by decide +kernel
theorem dX7_init_53 : decode cX7_init 53 = .ok (.invokespecial 35, 3) := by decide +kernel
theorem dX7_init_56 : decode cX7_init 56 = .ok (.putfield 36, 3) := by decide +kernel
theorem dX7_init_59 : decode cX7_init 59 = .ok (.aload_n 0, 1) := by decide +kernel
theorem dX7_init_60 : decode cX7_init 60 = .ok (.new 40, 3) := by decide +kernel
theorem dX7_init_63 : decode cX7_init 63 = .ok (.dup, 1) := by decide +kernel
theorem dX7_init_64 : decode cX7_init 64 = .ok (.invokespecial 42, 3) := by decide +kernel
theorem dX7_init_67 : decode cX7_init 67 = .ok (.putfield 43, 3) := by decide +kernel
theorem dX7_init_70 : decode cX7_init 70 = .ok (.aload_n 0, 1) := by decide +kernel
theorem dX7_init_71 : decode cX7_init 71 = .ok (.new 47, 3) := by decide +kernel
theorem dX7_init_74 : decode cX7_init 74 = .ok (.dup, 1) := by decide +kernel
theorem dX7_init_75 : decode cX7_init 75 = .ok (.invokespecial 49, 3) := by decide +kernel
theorem dX7_init_78 : decode cX7_init 78 = .ok (.putfield 50, 3) := by decide +kernel
theorem dX7_init_81 : decode cX7_init 81 = .ok (.aload_n 0, 1) := by decide +kernel
theorem dX7_init_82 : decode cX7_init 82 = .ok (.iconst 2, 1) := by decide +kernel
theorem dX7_init_83 : decode cX7_init 83 = .ok (.anewarray 23, 3) := by decide +kernel
theorem dX7_init_86 : decode cX7_init 86 = .ok (.putfield 54, 3) := by decide +kernel
theorem dX7_init_89 : decode cX7_init 89 = .ok (.return_, 1) := by decide +kernel
theorem dX7_row_0 : decode cX7_row 0 = .ok (.iload_n 1, 1) := by decide +kernel
theorem dX7_row_1 : decode cX7_row 1 = .ok (.invokestatic 58, 3) := by decide +kernel
theorem dX7_row_4 : decode cX7_row 4 = .ok (.ifCond .eq 18, 3) := by decide +kernel
theorem dX7_row_7 : decode cX7_row 7 = .ok (.iload_n 2, 1) := by decide +kernel
theorem dX7_row_8 : decode cX7_row 8 = .ok (.iconst 0, 1) := by decide +kernel
theorem dX7_row_9 : decode cX7_row 9 = .ok (.iconst 2, 1) := by decide +kernel
theorem dX7_row_10 : decode cX7_row 10 = .ok (.invokestatic 62, 3) := by decide +kernel
theorem dX7_row_13 : decode cX7_row 13 = .ok (.ifCond .eq 9, 3) := by decide +kernel
theorem dX7_row_16 : decode cX7_row 16 = .ok (.iload_n 3, 1) := by decide +kernel
theorem dX7_row_17 : decode cX7_row 17 = .ok (.bipush 40, 2) := by decide +kernel
theorem dX7_row_19 : decode cX7_row 19 = .ok (.if_icmp .le 6, 3) := by decide +kernel
theorem dX7_row_22 : decode cX7_row 22 = .ok (.ldc 66, 2) := by decide +kernel
theorem dX7_row_24 : decode cX7_row 24 = .ok (.ireturn, 1) := by decide +kernel
theorem dX7_row_25 : decode cX7_row 25 = .ok (.iload_n 3, 1) := by decide +kernel
theorem dX7_row_26 : decode cX7_row 26 = .ok (.ifCond .ge 9, 3) := by decide +kernel
theorem dX7_row_29 : decode cX7_row 29 = .ok (.aload_n 0, 1) := by decide +kernel
theorem dX7_row_30 : decode cX7_row 30 = .ok (.iconst 4, 1) := by decide +kernel
theorem dX7_row_31 : decode cX7_row 31 = .ok (.invokevirtual 67, 3) := by decide +kernel
theorem dX7_row_34 : decode cX7_row 34 = .ok (.ireturn, 1) := by decide +kernel
theorem dX7_row_35 : decode cX7_row 35 = .ok (.aload_n 0, 1) := by decide +kernel
theorem dX7_row_36 : decode cX7_row 36 = .ok (.getfield 10, 3) := by decide +kernel
theorem dX7_row_39 : decode cX7_row 39 = .ok (.iload_n 1, 1) := by decide +kernel
theorem dX7_row_40 : decode cX7_row 40 = .ok (.iload_n 2, 1) := by decide +kernel
theorem dX7_row_41 : decode cX7_row 41 = .ok (.iload_n 3, 1) := by decide +kernel
theorem dX7_row_42 : decode cX7_row 42 = .ok (.invokevirtual 71, 3) := by decide +kernel
theorem dX7_row_45 : decode cX7_row 45 = .ok (.aload_n 0, 1) := by decide +kernel
theorem dX7_row_46 : decode cX7_row 46 = .ok (.iload_n 3, 1) := by decide +kernel
theorem dX7_row_47 : decode cX7_row 47 = .ok (.invokevirtual 75, 3) := by decide +kernel
theorem dX7_row_50 : decode cX7_row 50 = .ok (.ireturn, 1) := by decide +kernel
theorem dX7_set_0 : decode cX7_set 0 = .ok (.iload_n 1, 1) := by decide +kernel
theorem dX7_set_1 : decode cX7_set 1 = .ok (.invokestatic 58, 3) := by decide +kernel
theorem dX7_set_4 : decode cX7_set 4 = .ok (.ifCond .ne 6, 3) := by decide +kernel
theorem dX7_set_7 : decode cX7_set 7 = .ok (.ldc 66, 2) := by decide +kernel
theorem dX7_set_9 : decode cX7_set 9 = .ok (.ireturn, 1) := by decide +kernel
theorem dX7_set_10 : decode cX7_set 10 = .ok (.aload_n 0, 1) := by decide +kernel
theorem dX7_set_11 : decode cX7_set 11 = .ok (.getfield 10, 3) := by decide +kernel
theorem dX7_set_14 : decode cX7_set 14 = .ok (.iload_n 1, 1) := by decide +kernel
theorem dX7_set_15 : decode cX7_set 15 = .ok (.iload_n 2, 1) := by decide +kernel
theorem dX7_set_16 : decode cX7_set 16 = .ok (.iconst 1, 1) := by decide +kernel
theorem dX7_set_17 : decode cX7_set 17 = .ok (.invokevirtual 78, 3) := by decide +kernel
theorem dX7_set_20 : decode cX7_set 20 = .ok (.istore 4, 2) := by decide +kernel
theorem dX7_set_22 : decode cX7_set 22 = .ok (.iload 4, 2) := by decide +kernel
theorem dX7_set_24 : decode cX7_set 24 = .ok (.ifCond .eq 10, 3) := by decide +kernel
theorem dX7_set_27 : decode cX7_set 27 = .ok (.aload_n 0, 1) := by decide +kernel
theorem dX7_set_28 : decode cX7_set 28 = .ok (.iload 4, 2) := by decide +kernel
theorem dX7_set_30 : decode cX7_set 30 = .ok (.invokevirtual 67, 3) := by decide +kernel
theorem dX7_set_33 : decode cX7_set 33 = .ok (.ireturn, 1) := by decide +kernel
theorem dX7_set_34 : decode cX7_set 34 = .ok (.aload_n 0, 1) := by decide +kernel
theorem dX7_set_35 : decode cX7_set 35 = .ok (.aload_n 0, 1) := by decide +kernel
theorem dX7_set_36 : decode cX7_set 36 = .ok (.getfield 10, 3) := by decide +kernel
theorem dX7_set_39 : decode cX7_set 39 = .ok (.iload_n 1, 1) := by decide +kernel
theorem dX7_set_40 : decode cX7_set 40 = .ok (.iload_n 2, 1) := by decide +kernel
theorem dX7_set_41 : decode cX7_set 41 = .ok (.iload_n 3, 1) := by decide +kernel
theorem dX7_set_42 : decode cX7_set 42 = .ok (.invokevirtual 82, 3) := by decide +kernel
theorem dX7_set_45 : decode cX7_set 45 = .ok (.invokevirtual 75, 3) := by decide +kernel
theorem dX7_set_48 : decode cX7_set 48 = .ok (.ireturn, 1) := by decide +kernel
theorem dX7_copy_0 : decode cX7_copy 0 = .ok (.iload_n 1, 1) := by decide +kernel
theorem dX7_copy_1 : decode cX7_copy 1 = .ok (.invokestatic 58, 3) := by decide +kernel
theorem dX7_copy_4 : decode cX7_copy 4 = .ok (.ifCond .eq 10, 3) := by decide +kernel
theorem dX7_copy_7 : decode cX7_copy 7 = .ok (.iload_n 3, 1) := by decide +kernel
theorem dX7_copy_8 : decode cX7_copy 8 = .ok (.invokestatic 58, 3) := by decide +kernel
theorem dX7_copy_11 : decode cX7_copy 11 = .ok (.ifCond .ne 6, 3) := by decide +kernel
theorem dX7_copy_14 : decode cX7_copy 14 = .ok (.ldc 66, 2) := by decide +kernel
theorem dX7_copy_16 : decode cX7_copy 16 = .ok (.ireturn, 1) := by decide +kernel
theorem dX7_copy_17 : decode cX7_copy 17 = .ok (.aload_n 0, 1) := by decide +kernel
theorem dX7_copy_18 : decode cX7_copy 18 = .ok (.getfield 10, 3) := by decide +kernel
theorem dX7_copy_21 : decode cX7_copy 21 = .ok (.getfield 85, 3) := by decide +kernel
theorem dX7_copy_24 : decode cX7_copy 24 = .ok (.iload_n 1, 1) := by decide +kernel
theorem dX7_copy_25 : decode cX7_copy 25 = .ok (.baload, 1) := by decide +kernel
theorem dX7_copy_26 : decode cX7_copy 26 = .ok (.ifCond .eq 15, 3) := by decide +kernel
theorem dX7_copy_29 : decode cX7_copy 29 = .ok (.aload_n 0, 1) := by decide +kernel
theorem dX7_copy_30 : decode cX7_copy 30 = .ok (.getfield 10, 3) := by decide +kernel
theorem dX7_copy_33 : decode cX7_copy 33 = .ok (.getfield 85, 3) := by decide +kernel
theorem dX7_copy_36 : decode cX7_copy 36 = .ok (.iload_n 3, 1) := by decide +kernel
theorem dX7_copy_37 : decode cX7_copy 37 = .ok (.baload, 1) := by decide +kernel
theorem dX7_copy_38 : decode cX7_copy 38 = .ok (.ifCond .ne 9, 3) := by decide +kernel
theorem dX7_copy_41 : decode cX7_copy 41 = .ok (.aload_n 0, 1) := by decide +kernel
theorem dX7_copy_42 : decode cX7_copy 42 = .ok (.iconst 1, 1) := by decide +kernel
theorem dX7_copy_43 : decode cX7_copy 43 = .ok (.invokevirtual 67, 3) := by decide +kernel
theorem dX7_copy_46 : decode cX7_copy 46 = .ok (.ireturn, 1) := by decide +kernel
theorem dX7_copy_47 : decode cX7_copy 47 = .ok (.aload_n 0, 1) := by decide +kernel
theorem dX7_copy_48 : decode cX7_copy 48 = .ok (.getfield 10, 3) := by decide +kernel
theorem dX7_copy_51 : decode cX7_copy 51 = .ok (.getfield 89, 3) := by decide +kernel
theorem dX7_copy_54 : decode cX7_copy 54 = .ok (.iload_n 1, 1) := by decide +kernel
theorem dX7_copy_55 : decode cX7_copy 55 = .ok (.iaload, 1) := by decide +kernel
theorem dX7_copy_56 : decode cX7_copy 56 = .ok (.aload_n 0, 1) := by decide +kernel
theorem dX7_copy_57 : decode cX7_copy 57 = .ok (.getfield 10, 3) := by decide +kernel
theorem dX7_copy_60 : decode cX7_copy 60 = .ok (.getfield 89, 3) := by decide +kernel
theorem dX7_copy_63 : decode cX7_copy 63 = .ok (.iload_n 3, 1) := by decide +kernel
theorem dX7_copy_64 : decode cX7_copy 64 = .ok (.iaload, 1) := by decide +kernel
theorem dX7_copy_65 : decode cX7_copy 65 = .ok (.if_icmp .eq 9, 3) := by decide +kernel
theorem dX7_copy_68 : decode cX7_copy 68 = .ok (.aload_n 0, 1) := by decide +kernel
theorem dX7_copy_69 : decode cX7_copy 69 = .ok (.iconst 5, 1) := by decide +kernel
theorem dX7_copy_70 : decode cX7_copy 70 = .ok (.invokevirtual 67, 3) := by decide +kernel
theorem dX7_copy_73 : decode cX7_copy 73 = .ok (.ireturn, 1) := by decide +kernel
theorem dX7_copy_74 : decode cX7_copy 74 = .ok (.aload_n 0, 1) := by decide +kernel
theorem dX7_copy_75 : decode cX7_copy 75 = .ok (.getfield 10, 3) := by decide +kernel
theorem dX7_copy_78 : decode cX7_copy 78 = .ok (.iload_n 1, 1) := by decide +kernel
theorem dX7_copy_79 : decode cX7_copy 79 = .ok (.iload_n 2, 1) := by decide +kernel
theorem dX7_copy_80 : decode cX7_copy 80 = .ok (.iload 5, 2) := by decide +kernel
theorem dX7_copy_82 : decode cX7_copy 82 = .ok (.invokevirtual 93, 3) := by decide +kernel
theorem dX7_copy_85 : decode cX7_copy 85 = .ok (.ifCond .eq 18, 3) := by decide +kernel
theorem dX7_copy_88 : decode cX7_copy 88 = .ok (.aload_n 0, 1) := by decide +kernel
theorem dX7_copy_89 : decode cX7_copy 89 = .ok (.getfield 10, 3) := by decide +kernel
theorem dX7_copy_92 : decode cX7_copy 92 = .ok (.iload_n 3, 1) := by decide +kernel
theorem dX7_copy_93 : decode cX7_copy 93 = .ok (.iload 4, 2) := by decide +kernel
theorem dX7_copy_95 : decode cX7_copy 95 = .ok (.iload 5, 2) := by decide +kernel
theorem dX7_copy_97 : decode cX7_copy 97 = .ok (.invokevirtual 93, 3) := by decide +kernel
theorem dX7_copy_100 : decode cX7_copy 100 = .ok (.ifCond .ne 9, 3) := by decide +kernel
theorem dX7_copy_103 : decode cX7_copy 103 = .ok (.aload_n 0, 1) := by decide +kernel
theorem dX7_copy_104 : decode cX7_copy 104 = .ok (.iconst 2, 1) := by decide +kernel
theorem dX7_copy_105 : decode cX7_copy 105 = .ok (.invokevirtual 67, 3) := by decide +kernel
theorem dX7_copy_108 : decode cX7_copy 108 = .ok (.ireturn, 1) := by decide +kernel
theorem dX7_copy_109 : decode cX7_copy 109 = .ok (.aload_n 0, 1) := by decide +kernel
theorem dX7_copy_110 : decode cX7_copy 110 = .ok (.getfield 10, 3) := by decide +kernel
theorem dX7_copy_113 : decode cX7_copy 113 = .ok (.getfield 96, 3) := by decide +kernel
theorem dX7_copy_116 : decode cX7_copy 116 = .ok (.iload_n 1, 1) := by decide +kernel
theorem dX7_copy_117 : decode cX7_copy 117 = .ok (.aaload, 1) := by decide +kernel
theorem dX7_copy_118 : decode cX7_copy 118 = .ok (.iload_n 2, 1) := by decide +kernel
theorem dX7_copy_119 : decode cX7_copy 119 = .ok (.aload_n 0, 1) := by decide +kernel
theorem dX7_copy_120 : decode cX7_copy 120 = .ok (.getfield 10, 3) := by decide +kernel
theorem dX7_copy_123 : decode cX7_copy 123 = .ok (.getfield 96, 3) := by decide +kernel
theorem dX7_copy_126 : decode cX7_copy 126 = .ok (.iload_n 3, 1) := by decide +kernel
theorem dX7_copy_127 : decode cX7_copy 127 = .ok (.aaload, 1) := by decide +kernel
theorem dX7_copy_128 : decode cX7_copy 128 = .ok (.iload 4, 2) := by decide +kernel
theorem dX7_copy_130 : decode cX7_copy 130 = .ok (.iload 5, 2) := by decide +kernel
theorem dX7_copy_132 : decode cX7_copy 132 = .ok (.invokestatic 100, 3) := by decide +kernel
theorem dX7_copy_135 : decode cX7_copy 135 = .ok (.aload_n 0, 1) := by decide +kernel
theorem dX7_copy_136 : decode cX7_copy 136 = .ok (.iload 5, 2) := by decide +kernel
theorem dX7_copy_138 : decode cX7_copy 138 = .ok (.invokevirtual 75, 3) := by decide +kernel
theorem dX7_copy_141 : decode cX7_copy 141 = .ok (.ireturn, 1) := by decide +kernel
theorem dX7_drop_0 : decode cX7_drop 0 = .ok (.iload_n 1, 1) := by decide +kernel
theorem dX7_drop_1 : decode cX7_drop 1 = .ok (.invokestatic 58, 3) := by decide +kernel
theorem dX7_drop_4 : decode cX7_drop 4 = .ok (.ifCond .ne 6, 3) := by decide +kernel
theorem dX7_drop_7 : decode cX7_drop 7 = .ok (.ldc 66, 2) := by decide +kernel
theorem dX7_drop_9 : decode cX7_drop 9 = .ok (.ireturn, 1) := by decide +kernel
theorem dX7_drop_10 : decode cX7_drop 10 = .ok (.aload_n 0, 1) := by decide +kernel
theorem dX7_drop_11 : decode cX7_drop 11 = .ok (.getfield 10, 3) := by decide +kernel
theorem dX7_drop_14 : decode cX7_drop 14 = .ok (.getfield 85, 3) := by decide +kernel
theorem dX7_drop_17 : decode cX7_drop 17 = .ok (.iload_n 1, 1) := by decide +kernel
theorem dX7_drop_18 : decode cX7_drop 18 = .ok (.baload, 1) := by decide +kernel
theorem dX7_drop_19 : decode cX7_drop 19 = .ok (.ifCond .ne 9, 3) := by decide +kernel
theorem dX7_drop_22 : decode cX7_drop 22 = .ok (.aload_n 0, 1) := by decide +kernel
theorem dX7_drop_23 : decode cX7_drop 23 = .ok (.iconst 1, 1) := by decide +kernel
theorem dX7_drop_24 : decode cX7_drop 24 = .ok (.invokevirtual 67, 3) := by decide +kernel
theorem dX7_drop_27 : decode cX7_drop 27 = .ok (.ireturn, 1) := by decide +kernel
theorem dX7_drop_28 : decode cX7_drop 28 = .ok (.aload_n 0, 1) := by decide +kernel
theorem dX7_drop_29 : decode cX7_drop 29 = .ok (.getfield 10, 3) := by decide +kernel
theorem dX7_drop_32 : decode cX7_drop 32 = .ok (.getfield 85, 3) := by decide +kernel
theorem dX7_drop_35 : decode cX7_drop 35 = .ok (.iload_n 1, 1) := by decide +kernel
theorem dX7_drop_36 : decode cX7_drop 36 = .ok (.iconst 0, 1) := by decide +kernel
theorem dX7_drop_37 : decode cX7_drop 37 = .ok (.bastore, 1) := by decide +kernel
theorem dX7_drop_38 : decode cX7_drop 38 = .ok (.aload_n 0, 1) := by decide +kernel
theorem dX7_drop_39 : decode cX7_drop 39 = .ok (.aload_n 0, 1) := by decide +kernel
theorem dX7_drop_40 : decode cX7_drop 40 = .ok (.getfield 10, 3) := by decide +kernel
theorem dX7_drop_43 : decode cX7_drop 43 = .ok (.getfield 106, 3) := by decide +kernel
theorem dX7_drop_46 : decode cX7_drop 46 = .ok (.iload_n 1, 1) := by decide +kernel
theorem dX7_drop_47 : decode cX7_drop 47 = .ok (.iaload, 1) := by decide +kernel
theorem dX7_drop_48 : decode cX7_drop 48 = .ok (.invokevirtual 75, 3) := by decide +kernel
theorem dX7_drop_51 : decode cX7_drop 51 = .ok (.ireturn, 1) := by decide +kernel
theorem dX7_feed_0 : decode cX7_feed 0 = .ok (.iload_n 1, 1) := by decide +kernel
theorem dX7_feed_1 : decode cX7_feed 1 = .ok (.iconst 0, 1) := by decide +kernel
theorem dX7_feed_2 : decode cX7_feed 2 = .ok (.sipush 255, 3) := by decide +kernel
theorem dX7_feed_5 : decode cX7_feed 5 = .ok (.invokestatic 62, 3) := by decide +kernel
theorem dX7_feed_8 : decode cX7_feed 8 = .ok (.ifCond .ne 6, 3) := by decide +kernel
theorem dX7_feed_11 : decode cX7_feed 11 = .ok (.ldc 66, 2) := by decide +kernel
theorem dX7_feed_13 : decode cX7_feed 13 = .ok (.ireturn, 1) := by decide +kernel
theorem dX7_feed_14 : decode cX7_feed 14 = .ok (.aload_n 0, 1) := by decide +kernel
theorem dX7_feed_15 : decode cX7_feed 15 = .ok (.getfield 19, 3) := by decide +kernel
theorem dX7_feed_18 : decode cX7_feed 18 = .ok (.iload_n 1, 1) := by decide +kernel
theorem dX7_feed_19 : decode cX7_feed 19 = .ok (.invokevirtual 109, 3) := by decide +kernel
theorem dX7_feed_22 : decode cX7_feed 22 = .ok (.ifCond .eq 13, 3) := by decide +kernel
theorem dX7_feed_25 : decode cX7_feed 25 = .ok (.aload_n 0, 1) := by decide +kernel
theorem dX7_feed_26 : decode cX7_feed 26 = .ok (.getfield 19, 3) := by decide +kernel
theorem dX7_feed_29 : decode cX7_feed 29 = .ok (.getfield 112, 3) := by decide +kernel
theorem dX7_feed_32 : decode cX7_feed 32 = .ok (.goto 5, 3) := by decide +kernel
theorem dX7_feed_35 : decode cX7_feed 35 = .ok (.ldc 116, 2) := by decide +kernel
theorem dX7_feed_37 : decode cX7_feed 37 = .ok (.ireturn, 1) := by decide +kernel
theorem dX7_cellar_0 : decode cX7_cellar 0 = .ok (.aload_n 0, 1) := by decide +kernel
theorem dX7_cellar_1 : decode cX7_cellar 1 = .ok (.getfield 19, 3) := by decide +kernel
theorem dX7_cellar_4 : decode cX7_cellar 4 = .ok (.aload_n 0, 1) := by decide +kernel
theorem dX7_cellar_5 : decode cX7_cellar 5 = .ok (.getfield 30, 3) := by decide +kernel
theorem dX7_cellar_8 : decode cX7_cellar 8 = .ok (.invokevirtual 117, 3) := by decide +kernel
theorem dX7_cellar_11 : decode cX7_cellar 11 = .ok (.istore_n 1, 1) := by decide +kernel
theorem dX7_cellar_12 : decode cX7_cellar 12 = .ok (.aload_n 0, 1) := by decide +kernel
theorem dX7_cellar_13 : decode cX7_cellar 13 = .ok (.getfield 19, 3) := by decide +kernel
theorem dX7_cellar_16 : decode cX7_cellar 16 = .ok (.iconst 0, 1) := by decide +kernel
theorem dX7_cellar_17 : decode cX7_cellar 17 = .ok (.putfield 112, 3) := by decide +kernel
theorem dX7_cellar_20 : decode cX7_cellar 20 = .ok (.iload_n 1, 1) := by decide +kernel
theorem dX7_cellar_21 : decode cX7_cellar 21 = .ok (.ifCond .ne 25, 3) := by decide +kernel
theorem dX7_cellar_24 : decode cX7_cellar 24 = .ok (.aload_n 0, 1) := by decide +kernel
theorem dX7_cellar_25 : decode cX7_cellar 25 = .ok (.aload_n 0, 1) := by decide +kernel
theorem dX7_cellar_26 : decode cX7_cellar 26 = .ok (.getfield 19, 3) := by decide +kernel
theorem dX7_cellar_29 : decode cX7_cellar 29 = .ok (.getfield 121, 3) := by decide +kernel
theorem dX7_cellar_32 : decode cX7_cellar 32 = .ok (.putfield 124, 3) := by decide +kernel
theorem dX7_cellar_35 : decode cX7_cellar 35 = .ok (.ldc 127, 2) := by decide +kernel
theorem dX7_cellar_37 : decode cX7_cellar 37 = .ok (.aload_n 0, 1) := by decide +kernel
theorem dX7_cellar_38 : decode cX7_cellar 38 = .ok (.getfield 19, 3) := by decide +kernel
theorem dX7_cellar_41 : decode cX7_cellar 41 = .ok (.getfield 128, 3) := by decide +kernel
theorem dX7_cellar_44 : decode cX7_cellar 44 = .ok (.isub, 1) := by decide +kernel
theorem dX7_cellar_45 : decode cX7_cellar 45 = .ok (.ireturn, 1) := by decide +kernel
theorem dX7_cellar_46 : decode cX7_cellar 46 = .ok (.aload_n 0, 1) := by decide +kernel
theorem dX7_cellar_47 : decode cX7_cellar 47 = .ok (.getfield 26, 3) := by decide +kernel
theorem dX7_cellar_50 : decode cX7_cellar 50 = .ok (.aload_n 0, 1) := by decide +kernel
theorem dX7_cellar_51 : decode cX7_cellar 51 = .ok (.getfield 30, 3) := by decide +kernel
theorem dX7_cellar_54 : decode cX7_cellar 54 = .ok (.invokevirtual 131, 3) := by decide +kernel
theorem dX7_cellar_57 : decode cX7_cellar 57 = .ok (.aload_n 0, 1) := by decide +kernel
theorem dX7_cellar_58 : decode cX7_cellar 58 = .ok (.getfield 36, 3) := by decide +kernel
theorem dX7_cellar_61 : decode cX7_cellar 61 = .ok (.invokevirtual 135, 3) := by decide +kernel
theorem dX7_cellar_64 : decode cX7_cellar 64 = .ok (.aload_n 0, 1) := by decide +kernel
theorem dX7_cellar_65 : decode cX7_cellar 65 = .ok (.getfield 26, 3) := by decide +kernel
theorem dX7_cellar_68 : decode cX7_cellar 68 = .ok (.getfield 138, 3) := by decide +kernel
theorem dX7_cellar_71 : decode cX7_cellar 71 = .ok (.ireturn, 1) := by decide +kernel
theorem dX7_fault_0 : decode cX7_fault 0 = .ok (.aload_n 0, 1) := by decide +kernel
theorem dX7_fault_1 : decode cX7_fault 1 = .ok (.getfield 124, 3) := by decide +kernel
theorem dX7_fault_4 : decode cX7_fault 4 = .ok (.ireturn, 1) := by decide +kernel
theorem dX7_undo_0 : decode cX7_undo 0 = .ok (.aload_n 0, 1) := by decide +kernel
theorem dX7_undo_1 : decode cX7_undo 1 = .ok (.getfield 36, 3) := by decide +kernel
theorem dX7_undo_4 : decode cX7_undo 4 = .ok (.aload_n 0, 1) := by decide +kernel
theorem dX7_undo_5 : decode cX7_undo 5 = .ok (.getfield 26, 3) := by decide +kernel
theorem dX7_undo_8 : decode cX7_undo 8 = .ok (.invokevirtual 141, 3) := by decide +kernel
theorem dX7_undo_11 : decode cX7_undo 11 = .ok (.ifCond .eq 13, 3) := by decide +kernel
theorem dX7_undo_14 : decode cX7_undo 14 = .ok (.aload_n 0, 1) := by decide +kernel
theorem dX7_undo_15 : decode cX7_undo 15 = .ok (.getfield 36, 3) := by decide +kernel
theorem dX7_undo_18 : decode cX7_undo 18 = .ok (.getfield 144, 3) := by decide +kernel
theorem dX7_undo_21 : decode cX7_undo 21 = .ok (.goto 5, 3) := by decide +kernel
theorem dX7_undo_24 : decode cX7_undo 24 = .ok (.ldc 145, 2) := by decide +kernel
theorem dX7_undo_26 : decode cX7_undo 26 = .ok (.ireturn, 1) := by decide +kernel
theorem dX7_years_0 : decode cX7_years 0 = .ok (.aload_n 0, 1) := by decide +kernel
theorem dX7_years_1 : decode cX7_years 1 = .ok (.invokevirtual 146, 3) := by decide +kernel
theorem dX7_years_4 : decode cX7_years 4 = .ok (.ifCond .eq 6, 3) := by decide +kernel
theorem dX7_years_7 : decode cX7_years 7 = .ok (.ldc 145, 2) := by decide +kernel
theorem dX7_years_9 : decode cX7_years 9 = .ok (.ireturn, 1) := by decide +kernel
theorem dX7_years_10 : decode cX7_years 10 = .ok (.iload_n 1, 1) := by decide +kernel
theorem dX7_years_11 : decode cX7_years 11 = .ok (.iconst 1, 1) := by decide +kernel
theorem dX7_years_12 : decode cX7_years 12 = .ok (.bipush 24, 2) := by decide +kernel
theorem dX7_years_14 : decode cX7_years 14 = .ok (.invokestatic 62, 3) := by decide +kernel
theorem dX7_years_17 : decode cX7_years 17 = .ok (.ifCond .ne 6, 3) := by decide +kernel
theorem dX7_years_20 : decode cX7_years 20 = .ok (.ldc 66, 2) := by decide +kernel
theorem dX7_years_22 : decode cX7_years 22 = .ok (.ireturn, 1) := by decide +kernel
theorem dX7_years_23 : decode cX7_years 23 = .ok (.aload_n 0, 1) := by decide +kernel
theorem dX7_years_24 : decode cX7_years 24 = .ok (.getfield 26, 3) := by decide +kernel
theorem dX7_years_27 : decode cX7_years 27 = .ok (.getfield 150, 3) := by decide +kernel
theorem dX7_years_30 : decode cX7_years 30 = .ok (.iload_n 1, 1) := by decide +kernel
theorem dX7_years_31 : decode cX7_years 31 = .ok (.iadd, 1) := by decide +kernel
theorem dX7_years_32 : decode cX7_years 32 = .ok (.sipush 999, 3) := by decide +kernel
theorem dX7_years_35 : decode cX7_years 35 = .ok (.if_icmp .le 6, 3) := by decide +kernel
theorem dX7_years_38 : decode cX7_years 38 = .ok (.ldc 116, 2) := by decide +kernel
theorem dX7_years_40 : decode cX7_years 40 = .ok (.ireturn, 1) := by decide +kernel
theorem dX7_years_41 : decode cX7_years 41 = .ok (.iconst 0, 1) := by decide +kernel
theorem dX7_years_42 : decode cX7_years 42 = .ok (.istore_n 2, 1) := by decide +kernel
theorem dX7_years_43 : decode cX7_years 43 = .ok (.iload_n 2, 1) := by decide +kernel
theorem dX7_years_44 : decode cX7_years 44 = .ok (.iload_n 1, 1) := by decide +kernel
theorem dX7_years_45 : decode cX7_years 45 = .ok (.if_icmp .ge 27, 3) := by decide +kernel
theorem dX7_years_48 : decode cX7_years 48 = .ok (.aload_n 0, 1) := by decide +kernel
theorem dX7_years_49 : decode cX7_years 49 = .ok (.getfield 36, 3) := by decide +kernel
theorem dX7_years_52 : decode cX7_years 52 = .ok (.aload_n 0, 1) := by decide +kernel
theorem dX7_years_53 : decode cX7_years 53 = .ok (.getfield 26, 3) := by decide +kernel
theorem dX7_years_56 : decode cX7_years 56 = .ok (.invokevirtual 153, 3) := by decide +kernel
theorem dX7_years_59 : decode cX7_years 59 = .ok (.aload_n 0, 1) := by decide +kernel
theorem dX7_years_60 : decode cX7_years 60 = .ok (.getfield 26, 3) := by decide +kernel
theorem dX7_years_63 : decode cX7_years 63 = .ok (.invokevirtual 156, 3) := by decide +kernel
theorem dX7_years_66 : decode cX7_years 66 = .ok (.iinc 2 1, 3) := by decide +kernel
theorem dX7_years_69 : decode cX7_years 69 = .ok (.goto (-26), 3) := by decide +kernel
theorem dX7_years_72 : decode cX7_years 72 = .ok (.aload_n 0, 1) := by decide +kernel
theorem dX7_years_73 : decode cX7_years 73 = .ok (.getfield 26, 3) := by decide +kernel
theorem dX7_years_76 : decode cX7_years 76 = .ok (.iconst 0, 1) := by decide +kernel
theorem dX7_years_77 : decode cX7_years 77 = .ok (.invokevirtual 159, 3) := by decide +kernel
theorem dX7_years_80 : decode cX7_years 80 = .ok (.ireturn, 1) := by decide +kernel
theorem dX7_sneeze_0 : decode cX7_sneeze 0 = .ok (.aload_n 0, 1) := by decide +kernel
theorem dX7_sneeze_1 : decode cX7_sneeze 1 = .ok (.iload_n 1, 1) := by decide +kernel
theorem dX7_sneeze_2 : decode cX7_sneeze 2 = .ok (.iload_n 2, 1) := by decide +kernel
theorem dX7_sneeze_3 : decode cX7_sneeze 3 = .ok (.invokevirtual 162, 3) := by decide +kernel
theorem dX7_sneeze_6 : decode cX7_sneeze 6 = .ok (.ifCond .ne 6, 3) := by decide +kernel
theorem dX7_sneeze_9 : decode cX7_sneeze 9 = .ok (.ldc 66, 2) := by decide +kernel
theorem dX7_sneeze_11 : decode cX7_sneeze 11 = .ok (.ireturn, 1) := by decide +kernel
theorem dX7_sneeze_12 : decode cX7_sneeze 12 = .ok (.aload_n 0, 1) := by decide +kernel
theorem dX7_sneeze_13 : decode cX7_sneeze 13 = .ok (.getfield 43, 3) := by decide +kernel
theorem dX7_sneeze_16 : decode cX7_sneeze 16 = .ok (.aload_n 0, 1) := by decide +kernel
theorem dX7_sneeze_17 : decode cX7_sneeze 17 = .ok (.getfield 26, 3) := by decide +kernel
theorem dX7_sneeze_20 : decode cX7_sneeze 20 = .ok (.iload_n 1, 1) := by decide +kernel
theorem dX7_sneeze_21 : decode cX7_sneeze 21 = .ok (.iload_n 2, 1) := by decide +kernel
theorem dX7_sneeze_22 : decode cX7_sneeze 22 = .ok (.invokevirtual 166, 3) := by decide +kernel
theorem dX7_sneeze_25 : decode cX7_sneeze 25 = .ok (.istore_n 3, 1) := by decide +kernel
theorem dX7_sneeze_26 : decode cX7_sneeze 26 = .ok (.aload_n 0, 1) := by decide +kernel
theorem dX7_sneeze_27 : decode cX7_sneeze 27 = .ok (.getfield 36, 3) := by decide +kernel
theorem dX7_sneeze_30 : decode cX7_sneeze 30 = .ok (.aload_n 0, 1) := by decide +kernel
theorem dX7_sneeze_31 : decode cX7_sneeze 31 = .ok (.getfield 26, 3) := by decide +kernel
theorem dX7_sneeze_34 : decode cX7_sneeze 34 = .ok (.invokevirtual 153, 3) := by decide +kernel
theorem dX7_sneeze_37 : decode cX7_sneeze 37 = .ok (.aload_n 0, 1) := by decide +kernel
theorem dX7_sneeze_38 : decode cX7_sneeze 38 = .ok (.getfield 26, 3) := by decide +kernel
theorem dX7_sneeze_41 : decode cX7_sneeze 41 = .ok (.iload_n 3, 1) := by decide +kernel
theorem dX7_sneeze_42 : decode cX7_sneeze 42 = .ok (.invokevirtual 170, 3) := by decide +kernel
theorem dX7_sneeze_45 : decode cX7_sneeze 45 = .ok (.iload_n 3, 1) := by decide +kernel
theorem dX7_sneeze_46 : decode cX7_sneeze 46 = .ok (.ireturn, 1) := by decide +kernel
theorem dX7_open_0 : decode cX7_open 0 = .ok (.aload_n 0, 1) := by decide +kernel
theorem dX7_open_1 : decode cX7_open 1 = .ok (.iload_n 1, 1) := by decide +kernel
theorem dX7_open_2 : decode cX7_open 2 = .ok (.invokevirtual 174, 3) := by decide +kernel
theorem dX7_open_5 : decode cX7_open 5 = .ok (.ifCond .ne 6, 3) := by decide +kernel
theorem dX7_open_8 : decode cX7_open 8 = .ok (.ldc 66, 2) := by decide +kernel
theorem dX7_open_10 : decode cX7_open 10 = .ok (.ireturn, 1) := by decide +kernel
theorem dX7_open_11 : decode cX7_open 11 = .ok (.aload_n 0, 1) := by decide +kernel
theorem dX7_open_12 : decode cX7_open 12 = .ok (.getfield 26, 3) := by decide +kernel
theorem dX7_open_15 : decode cX7_open 15 = .ok (.getfield 177, 3) := by decide +kernel
theorem dX7_open_18 : decode cX7_open 18 = .ok (.iload_n 1, 1) := by decide +kernel
theorem dX7_open_19 : decode cX7_open 19 = .ok (.iaload, 1) := by decide +kernel
theorem dX7_open_20 : decode cX7_open 20 = .ok (.ifCond .eq 6, 3) := by decide +kernel
theorem dX7_open_23 : decode cX7_open 23 = .ok (.ldc 145, 2) := by decide +kernel
theorem dX7_open_25 : decode cX7_open 25 = .ok (.ireturn, 1) := by decide +kernel
theorem dX7_open_26 : decode cX7_open 26 = .ok (.aload_n 0, 1) := by decide +kernel
theorem dX7_open_27 : decode cX7_open 27 = .ok (.getfield 36, 3) := by decide +kernel
theorem dX7_open_30 : decode cX7_open 30 = .ok (.aload_n 0, 1) := by decide +kernel
theorem dX7_open_31 : decode cX7_open 31 = .ok (.getfield 26, 3) := by decide +kernel
theorem dX7_open_34 : decode cX7_open 34 = .ok (.invokevirtual 153, 3) := by decide +kernel
theorem dX7_open_37 : decode cX7_open 37 = .ok (.aload_n 0, 1) := by decide +kernel
theorem dX7_open_38 : decode cX7_open 38 = .ok (.getfield 26, 3) := by decide +kernel
theorem dX7_open_41 : decode cX7_open 41 = .ok (.getfield 177, 3) := by decide +kernel
theorem dX7_open_44 : decode cX7_open 44 = .ok (.iload_n 1, 1) := by decide +kernel
theorem dX7_open_45 : decode cX7_open 45 = .ok (.iconst 3, 1) := by decide +kernel
theorem dX7_open_46 : decode cX7_open 46 = .ok (.iastore, 1) := by decide +kernel
theorem dX7_open_47 : decode cX7_open 47 = .ok (.aload_n 0, 1) := by decide +kernel
theorem dX7_open_48 : decode cX7_open 48 = .ok (.getfield 26, 3) := by decide +kernel
theorem dX7_open_51 : decode cX7_open 51 = .ok (.getfield 180, 3) := by decide +kernel
theorem dX7_open_54 : decode cX7_open 54 = .ok (.iload_n 1, 1) := by decide +kernel
theorem dX7_open_55 : decode cX7_open 55 = .ok (.iaload, 1) := by decide +kernel
theorem dX7_open_56 : decode cX7_open 56 = .ok (.ireturn, 1) := by decide +kernel
theorem dX7_change_0 : decode cX7_change 0 = .ok (.aload_n 0, 1) := by decide +kernel
theorem dX7_change_1 : decode cX7_change 1 = .ok (.iload_n 1, 1) := by decide +kernel
theorem dX7_change_2 : decode cX7_change 2 = .ok (.invokevirtual 174, 3) := by decide +kernel
theorem dX7_change_5 : decode cX7_change 5 = .ok (.ifCond .eq 16, 3) := by decide +kernel
theorem dX7_change_8 : decode cX7_change 8 = .ok (.aload_n 0, 1) := by decide +kernel
theorem dX7_change_9 : decode cX7_change 9 = .ok (.iload_n 2, 1) := by decide +kernel
theorem dX7_change_10 : decode cX7_change 10 = .ok (.invokevirtual 174, 3) := by decide +kernel
theorem dX7_change_13 : decode cX7_change 13 = .ok (.ifCond .eq 8, 3) := by decide +kernel
theorem dX7_change_16 : decode cX7_change 16 = .ok (.iload_n 1, 1) := by decide +kernel
theorem dX7_change_17 : decode cX7_change 17 = .ok (.iload_n 2, 1) := by decide +kernel
theorem dX7_change_18 : decode cX7_change 18 = .ok (.if_icmp .ne 6, 3) := by decide +kernel
theorem dX7_change_21 : decode cX7_change 21 = .ok (.ldc 66, 2) := by decide +kernel
theorem dX7_change_23 : decode cX7_change 23 = .ok (.ireturn, 1) := by decide +kernel
theorem dX7_change_24 : decode cX7_change 24 = .ok (.aload_n 0, 1) := by decide +kernel
theorem dX7_change_25 : decode cX7_change 25 = .ok (.getfield 36, 3) := by decide +kernel
theorem dX7_change_28 : decode cX7_change 28 = .ok (.aload_n 0, 1) := by decide +kernel
theorem dX7_change_29 : decode cX7_change 29 = .ok (.getfield 26, 3) := by decide +kernel
theorem dX7_change_32 : decode cX7_change 32 = .ok (.invokevirtual 153, 3) := by decide +kernel
theorem dX7_change_35 : decode cX7_change 35 = .ok (.aload_n 0, 1) := by decide +kernel
theorem dX7_change_36 : decode cX7_change 36 = .ok (.getfield 26, 3) := by decide +kernel
theorem dX7_change_39 : decode cX7_change 39 = .ok (.iload_n 1, 1) := by decide +kernel
theorem dX7_change_40 : decode cX7_change 40 = .ok (.iload_n 2, 1) := by decide +kernel
theorem dX7_change_41 : decode cX7_change 41 = .ok (.invokevirtual 183, 3) := by decide +kernel
theorem dX7_change_44 : decode cX7_change 44 = .ok (.aload_n 0, 1) := by decide +kernel
theorem dX7_change_45 : decode cX7_change 45 = .ok (.getfield 26, 3) := by decide +kernel
theorem dX7_change_48 : decode cX7_change 48 = .ok (.getfield 187, 3) := by decide +kernel
theorem dX7_change_51 : decode cX7_change 51 = .ok (.iload_n 1, 1) := by decide +kernel
theorem dX7_change_52 : decode cX7_change 52 = .ok (.iaload, 1) := by decide +kernel
theorem dX7_change_53 : decode cX7_change 53 = .ok (.ireturn, 1) := by decide +kernel
theorem dX7_seal_0 : decode cX7_seal 0 = .ok (.aload_n 0, 1) := by decide +kernel
theorem dX7_seal_1 : decode cX7_seal 1 = .ok (.iload_n 1, 1) := by decide +kernel
theorem dX7_seal_2 : decode cX7_seal 2 = .ok (.invokevirtual 174, 3) := by decide +kernel
theorem dX7_seal_5 : decode cX7_seal 5 = .ok (.ifCond .eq 20, 3) := by decide +kernel
theorem dX7_seal_8 : decode cX7_seal 8 = .ok (.iload_n 2, 1) := by decide +kernel
theorem dX7_seal_9 : decode cX7_seal 9 = .ok (.invokestatic 190, 3) := by decide +kernel
theorem dX7_seal_12 : decode cX7_seal 12 = .ok (.ifCond .eq 13, 3) := by decide +kernel
theorem dX7_seal_15 : decode cX7_seal 15 = .ok (.iload_n 3, 1) := by decide +kernel
theorem dX7_seal_16 : decode cX7_seal 16 = .ok (.iconst 1, 1) := by decide +kernel
theorem dX7_seal_17 : decode cX7_seal 17 = .ok (.bipush 60, 2) := by decide +kernel
theorem dX7_seal_19 : decode cX7_seal 19 = .ok (.invokestatic 62, 3) := by decide +kernel
theorem dX7_seal_22 : decode cX7_seal 22 = .ok (.ifCond .ne 6, 3) := by decide +kernel
theorem dX7_seal_25 : decode cX7_seal 25 = .ok (.ldc 66, 2) := by decide +kernel
theorem dX7_seal_27 : decode cX7_seal 27 = .ok (.ireturn, 1) := by decide +kernel
theorem dX7_seal_28 : decode cX7_seal 28 = .ok (.aload_n 0, 1) := by decide +kernel
theorem dX7_seal_29 : decode cX7_seal 29 = .ok (.getfield 26, 3) := by decide +kernel
theorem dX7_seal_32 : decode cX7_seal 32 = .ok (.getfield 177, 3) := by decide +kernel
theorem dX7_seal_35 : decode cX7_seal 35 = .ok (.iload_n 1, 1) := by decide +kernel
theorem dX7_seal_36 : decode cX7_seal 36 = .ok (.iaload, 1) := by decide +kernel
theorem dX7_seal_37 : decode cX7_seal 37 = .ok (.ifCond .ne 6, 3) := by decide +kernel
theorem dX7_seal_40 : decode cX7_seal 40 = .ok (.ldc 145, 2) := by decide +kernel
theorem dX7_seal_42 : decode cX7_seal 42 = .ok (.ireturn, 1) := by decide +kernel
theorem dX7_seal_43 : decode cX7_seal 43 = .ok (.aload_n 0, 1) := by decide +kernel
theorem dX7_seal_44 : decode cX7_seal 44 = .ok (.getfield 36, 3) := by decide +kernel
theorem dX7_seal_47 : decode cX7_seal 47 = .ok (.aload_n 0, 1) := by decide +kernel
theorem dX7_seal_48 : decode cX7_seal 48 = .ok (.getfield 26, 3) := by decide +kernel
theorem dX7_seal_51 : decode cX7_seal 51 = .ok (.invokevirtual 153, 3) := by decide +kernel
theorem dX7_seal_54 : decode cX7_seal 54 = .ok (.aload_n 0, 1) := by decide +kernel
theorem dX7_seal_55 : decode cX7_seal 55 = .ok (.getfield 26, 3) := by decide +kernel
theorem dX7_seal_58 : decode cX7_seal 58 = .ok (.getfield 177, 3) := by decide +kernel
theorem dX7_seal_61 : decode cX7_seal 61 = .ok (.iload_n 1, 1) := by decide +kernel
theorem dX7_seal_62 : decode cX7_seal 62 = .ok (.iconst 0, 1) := by decide +kernel
theorem dX7_seal_63 : decode cX7_seal 63 = .ok (.iastore, 1) := by decide +kernel
theorem dX7_seal_64 : decode cX7_seal 64 = .ok (.aload_n 0, 1) := by decide +kernel
theorem dX7_seal_65 : decode cX7_seal 65 = .ok (.getfield 26, 3) := by decide +kernel
theorem dX7_seal_68 : decode cX7_seal 68 = .ok (.getfield 180, 3) := by decide +kernel
theorem dX7_seal_71 : decode cX7_seal 71 = .ok (.iload_n 1, 1) := by decide +kernel
theorem dX7_seal_72 : decode cX7_seal 72 = .ok (.iload_n 2, 1) := by decide +kernel
theorem dX7_seal_73 : decode cX7_seal 73 = .ok (.iastore, 1) := by decide +kernel
theorem dX7_seal_74 : decode cX7_seal 74 = .ok (.aload_n 0, 1) := by decide +kernel
theorem dX7_seal_75 : decode cX7_seal 75 = .ok (.getfield 26, 3) := by decide +kernel
theorem dX7_seal_78 : decode cX7_seal 78 = .ok (.getfield 193, 3) := by decide +kernel
theorem dX7_seal_81 : decode cX7_seal 81 = .ok (.iload_n 1, 1) := by decide +kernel
theorem dX7_seal_82 : decode cX7_seal 82 = .ok (.iload_n 3, 1) := by decide +kernel
theorem dX7_seal_83 : decode cX7_seal 83 = .ok (.iastore, 1) := by decide +kernel
theorem dX7_seal_84 : decode cX7_seal 84 = .ok (.aload_n 0, 1) := by decide +kernel
theorem dX7_seal_85 : decode cX7_seal 85 = .ok (.getfield 26, 3) := by decide +kernel
theorem dX7_seal_88 : decode cX7_seal 88 = .ok (.iconst 0, 1) := by decide +kernel
theorem dX7_seal_89 : decode cX7_seal 89 = .ok (.invokevirtual 159, 3) := by decide +kernel
theorem dX7_seal_92 : decode cX7_seal 92 = .ok (.ireturn, 1) := by decide +kernel
theorem dX7_reach_0 : decode cX7_reach 0 = .ok (.aload_n 0, 1) := by decide +kernel
theorem dX7_reach_1 : decode cX7_reach 1 = .ok (.invokevirtual 146, 3) := by decide +kernel
theorem dX7_reach_4 : decode cX7_reach 4 = .ok (.ifCond .eq 6, 3) := by decide +kernel
theorem dX7_reach_7 : decode cX7_reach 7 = .ok (.ldc 145, 2) := by decide +kernel
theorem dX7_reach_9 : decode cX7_reach 9 = .ok (.ireturn, 1) := by decide +kernel
theorem dX7_reach_10 : decode cX7_reach 10 = .ok (.iload_n 1, 1) := by decide +kernel
theorem dX7_reach_11 : decode cX7_reach 11 = .ok (.iconst 0, 1) := by decide +kernel
theorem dX7_reach_12 : decode cX7_reach 12 = .ok (.bipush 8, 2) := by decide +kernel
theorem dX7_reach_14 : decode cX7_reach 14 = .ok (.invokestatic 62, 3) := by decide +kernel
theorem dX7_reach_17 : decode cX7_reach 17 = .ok (.ifCond .ne 6, 3) := by decide +kernel
theorem dX7_reach_20 : decode cX7_reach 20 = .ok (.ldc 66, 2) := by decide +kernel
theorem dX7_reach_22 : decode cX7_reach 22 = .ok (.ireturn, 1) := by decide +kernel
theorem dX7_reach_23 : decode cX7_reach 23 = .ok (.aload_n 0, 1) := by decide +kernel
theorem dX7_reach_24 : decode cX7_reach 24 = .ok (.getfield 26, 3) := by decide +kernel
theorem dX7_reach_27 : decode cX7_reach 27 = .ok (.getfield 196, 3) := by decide +kernel
theorem dX7_reach_30 : decode cX7_reach 30 = .ok (.istore_n 2, 1) := by decide +kernel
theorem dX7_reach_31 : decode cX7_reach 31 = .ok (.aload_n 0, 1) := by decide +kernel
theorem dX7_reach_32 : decode cX7_reach 32 = .ok (.getfield 36, 3) := by decide +kernel
theorem dX7_reach_35 : decode cX7_reach 35 = .ok (.aload_n 0, 1) := by decide +kernel
theorem dX7_reach_36 : decode cX7_reach 36 = .ok (.getfield 26, 3) := by decide +kernel
theorem dX7_reach_39 : decode cX7_reach 39 = .ok (.invokevirtual 153, 3) := by decide +kernel
theorem dX7_reach_42 : decode cX7_reach 42 = .ok (.aload_n 0, 1) := by decide +kernel
theorem dX7_reach_43 : decode cX7_reach 43 = .ok (.getfield 26, 3) := by decide +kernel
theorem dX7_reach_46 : decode cX7_reach 46 = .ok (.iload_n 1, 1) := by decide +kernel
theorem dX7_reach_47 : decode cX7_reach 47 = .ok (.putfield 196, 3) := by decide +kernel
theorem dX7_reach_50 : decode cX7_reach 50 = .ok (.iload_n 2, 1) := by decide +kernel
theorem dX7_reach_51 : decode cX7_reach 51 = .ok (.ireturn, 1) := by decide +kernel
theorem dX7_jar_0 : decode cX7_jar 0 = .ok (.aload_n 0, 1) := by decide +kernel
theorem dX7_jar_1 : decode cX7_jar 1 = .ok (.iload_n 1, 1) := by decide +kernel
theorem dX7_jar_2 : decode cX7_jar 2 = .ok (.invokevirtual 174, 3) := by decide +kernel
theorem dX7_jar_5 : decode cX7_jar 5 = .ok (.ifCond .ne 6, 3) := by decide +kernel
theorem dX7_jar_8 : decode cX7_jar 8 = .ok (.ldc 66, 2) := by decide +kernel
theorem dX7_jar_10 : decode cX7_jar 10 = .ok (.ireturn, 1) := by decide +kernel
theorem dX7_jar_11 : decode cX7_jar 11 = .ok (.iload_n 2, 1) := by decide +kernel
theorem dX7_jar_12 : decode cX7_jar 12 = .ok (.tableswitch 72 0 3 #[32, 42, 52, 62], 32) := by decide +kernel
theorem dX7_jar_44 : decode cX7_jar 44 = .ok (.aload_n 0, 1) := by decide +kernel
theorem dX7_jar_45 : decode cX7_jar 45 = .ok (.getfield 26, 3) := by decide +kernel
theorem dX7_jar_48 : decode cX7_jar 48 = .ok (.getfield 180, 3) := by decide +kernel
theorem dX7_jar_51 : decode cX7_jar 51 = .ok (.iload_n 1, 1) := by decide +kernel
theorem dX7_jar_52 : decode cX7_jar 52 = .ok (.iaload, 1) := by decide +kernel
theorem dX7_jar_53 : decode cX7_jar 53 = .ok (.ireturn, 1) := by decide +kernel
theorem dX7_jar_54 : decode cX7_jar 54 = .ok (.aload_n 0, 1) := by decide +kernel
theorem dX7_jar_55 : decode cX7_jar 55 = .ok (.getfield 26, 3) := by decide +kernel
theorem dX7_jar_58 : decode cX7_jar 58 = .ok (.getfield 193, 3) := by decide +kernel
theorem dX7_jar_61 : decode cX7_jar 61 = .ok (.iload_n 1, 1) := by decide +kernel
theorem dX7_jar_62 : decode cX7_jar 62 = .ok (.iaload, 1) := by decide +kernel
theorem dX7_jar_63 : decode cX7_jar 63 = .ok (.ireturn, 1) := by decide +kernel
theorem dX7_jar_64 : decode cX7_jar 64 = .ok (.aload_n 0, 1) := by decide +kernel
theorem dX7_jar_65 : decode cX7_jar 65 = .ok (.getfield 26, 3) := by decide +kernel
theorem dX7_jar_68 : decode cX7_jar 68 = .ok (.getfield 187, 3) := by decide +kernel
theorem dX7_jar_71 : decode cX7_jar 71 = .ok (.iload_n 1, 1) := by decide +kernel
theorem dX7_jar_72 : decode cX7_jar 72 = .ok (.iaload, 1) := by decide +kernel
theorem dX7_jar_73 : decode cX7_jar 73 = .ok (.ireturn, 1) := by decide +kernel
theorem dX7_jar_74 : decode cX7_jar 74 = .ok (.aload_n 0, 1) := by decide +kernel
theorem dX7_jar_75 : decode cX7_jar 75 = .ok (.getfield 26, 3) := by decide +kernel
theorem dX7_jar_78 : decode cX7_jar 78 = .ok (.getfield 177, 3) := by decide +kernel
theorem dX7_jar_81 : decode cX7_jar 81 = .ok (.iload_n 1, 1) := by decide +kernel
theorem dX7_jar_82 : decode cX7_jar 82 = .ok (.iaload, 1) := by decide +kernel
theorem dX7_jar_83 : decode cX7_jar 83 = .ok (.ireturn, 1) := by decide +kernel
theorem dX7_jar_84 : decode cX7_jar 84 = .ok (.ldc 66, 2) := by decide +kernel
theorem dX7_jar_86 : decode cX7_jar 86 = .ok (.ireturn, 1) := by decide +kernel
theorem dX7_stand_0 : decode cX7_stand 0 = .ok (.aload_n 0, 1) := by decide +kernel
theorem dX7_stand_1 : decode cX7_stand 1 = .ok (.invokevirtual 146, 3) := by decide +kernel
theorem dX7_stand_4 : decode cX7_stand 4 = .ok (.ifCond .eq 6, 3) := by decide +kernel
theorem dX7_stand_7 : decode cX7_stand 7 = .ok (.ldc 145, 2) := by decide +kernel
theorem dX7_stand_9 : decode cX7_stand 9 = .ok (.ireturn, 1) := by decide +kernel
theorem dX7_stand_10 : decode cX7_stand 10 = .ok (.iload_n 1, 1) := by decide +kernel
theorem dX7_stand_11 : decode cX7_stand 11 = .ok (.iconst 0, 1) := by decide +kernel
theorem dX7_stand_12 : decode cX7_stand 12 = .ok (.iconst 3, 1) := by decide +kernel
theorem dX7_stand_13 : decode cX7_stand 13 = .ok (.invokestatic 62, 3) := by decide +kernel
theorem dX7_stand_16 : decode cX7_stand 16 = .ok (.ifCond .eq 14, 3) := by decide +kernel
theorem dX7_stand_19 : decode cX7_stand 19 = .ok (.aload_n 0, 1) := by decide +kernel
theorem dX7_stand_20 : decode cX7_stand 20 = .ok (.getfield 26, 3) := by decide +kernel
theorem dX7_stand_23 : decode cX7_stand 23 = .ok (.iload_n 1, 1) := by decide +kernel
theorem dX7_stand_24 : decode cX7_stand 24 = .ok (.invokevirtual 159, 3) := by decide +kernel
theorem dX7_stand_27 : decode cX7_stand 27 = .ok (.goto 5, 3) := by decide +kernel
theorem dX7_stand_30 : decode cX7_stand 30 = .ok (.ldc 66, 2) := by decide +kernel
theorem dX7_stand_32 : decode cX7_stand 32 = .ok (.ireturn, 1) := by decide +kernel
theorem dX7_chain_0 : decode cX7_chain 0 = .ok (.aload_n 0, 1) := by decide +kernel
theorem dX7_chain_1 : decode cX7_chain 1 = .ok (.iload_n 1, 1) := by decide +kernel
theorem dX7_chain_2 : decode cX7_chain 2 = .ok (.iload_n 2, 1) := by decide +kernel
theorem dX7_chain_3 : decode cX7_chain 3 = .ok (.invokevirtual 162, 3) := by decide +kernel
theorem dX7_chain_6 : decode cX7_chain 6 = .ok (.ifCond .eq 10, 3) := by decide +kernel
theorem dX7_chain_9 : decode cX7_chain 9 = .ok (.iload_n 3, 1) := by decide +kernel
theorem dX7_chain_10 : decode cX7_chain 10 = .ok (.invokestatic 199, 3) := by decide +kernel
theorem dX7_chain_13 : decode cX7_chain 13 = .ok (.ifCond .ne 6, 3) := by decide +kernel
theorem dX7_chain_16 : decode cX7_chain 16 = .ok (.ldc 66, 2) := by decide +kernel
theorem dX7_chain_18 : decode cX7_chain 18 = .ok (.ireturn, 1) := by decide +kernel
theorem dX7_chain_19 : decode cX7_chain 19 = .ok (.aload_n 0, 1) := by decide +kernel
theorem dX7_chain_20 : decode cX7_chain 20 = .ok (.getfield 43, 3) := by decide +kernel
theorem dX7_chain_23 : decode cX7_chain 23 = .ok (.aload_n 0, 1) := by decide +kernel
theorem dX7_chain_24 : decode cX7_chain 24 = .ok (.getfield 26, 3) := by decide +kernel
theorem dX7_chain_27 : decode cX7_chain 27 = .ok (.iload_n 1, 1) := by decide +kernel
theorem dX7_chain_28 : decode cX7_chain 28 = .ok (.iload_n 2, 1) := by decide +kernel
theorem dX7_chain_29 : decode cX7_chain 29 = .ok (.invokevirtual 166, 3) := by decide +kernel
theorem dX7_chain_32 : decode cX7_chain 32 = .ok (.istore 4, 2) := by decide +kernel
theorem dX7_chain_34 : decode cX7_chain 34 = .ok (.iload_n 3, 1) := by decide +kernel
theorem dX7_chain_35 : decode cX7_chain 35 = .ok (.ifCond .ne 8, 3) := by decide +kernel
theorem dX7_chain_38 : decode cX7_chain 38 = .ok (.iload 4, 2) := by decide +kernel
theorem dX7_chain_40 : decode cX7_chain 40 = .ok (.goto 13, 3) := by decide +kernel
theorem dX7_chain_43 : decode cX7_chain 43 = .ok (.aload_n 0, 1) := by decide +kernel
theorem dX7_chain_44 : decode cX7_chain 44 = .ok (.getfield 43, 3) := by decide +kernel
theorem dX7_chain_47 : decode cX7_chain 47 = .ok (.getfield 202, 3) := by decide +kernel
theorem dX7_chain_50 : decode cX7_chain 50 = .ok (.getfield 206, 3) := by decide +kernel
theorem dX7_chain_53 : decode cX7_chain 53 = .ok (.ireturn, 1) := by decide +kernel
theorem dX7_worst_0 : decode cX7_worst 0 = .ok (.aload_n 0, 1) := by decide +kernel
theorem dX7_worst_1 : decode cX7_worst 1 = .ok (.invokevirtual 146, 3) := by decide +kernel
theorem dX7_worst_4 : decode cX7_worst 4 = .ok (.ifCond .eq 6, 3) := by decide +kernel
theorem dX7_worst_7 : decode cX7_worst 7 = .ok (.ldc 145, 2) := by decide +kernel
theorem dX7_worst_9 : decode cX7_worst 9 = .ok (.ireturn, 1) := by decide +kernel
theorem dX7_worst_10 : decode cX7_worst 10 = .ok (.iload_n 1, 1) := by decide +kernel
theorem dX7_worst_11 : decode cX7_worst 11 = .ok (.invokestatic 199, 3) := by decide +kernel
theorem dX7_worst_14 : decode cX7_worst 14 = .ok (.ifCond .ne 6, 3) := by decide +kernel
theorem dX7_worst_17 : decode cX7_worst 17 = .ok (.ldc 66, 2) := by decide +kernel
theorem dX7_worst_19 : decode cX7_worst 19 = .ok (.ireturn, 1) := by decide +kernel
theorem dX7_worst_20 : decode cX7_worst 20 = .ok (.aload_n 0, 1) := by decide +kernel
theorem dX7_worst_21 : decode cX7_worst 21 = .ok (.getfield 43, 3) := by decide +kernel
theorem dX7_worst_24 : decode cX7_worst 24 = .ok (.aload_n 0, 1) := by decide +kernel
theorem dX7_worst_25 : decode cX7_worst 25 = .ok (.getfield 26, 3) := by decide +kernel
theorem dX7_worst_28 : decode cX7_worst 28 = .ok (.invokevirtual 211, 3) := by decide +kernel
theorem dX7_worst_31 : decode cX7_worst 31 = .ok (.iload_n 1, 1) := by decide +kernel
theorem dX7_worst_32 : decode cX7_worst 32 = .ok (.ifCond .ne 13, 3) := by decide +kernel
theorem dX7_worst_35 : decode cX7_worst 35 = .ok (.aload_n 0, 1) := by decide +kernel
theorem dX7_worst_36 : decode cX7_worst 36 = .ok (.getfield 43, 3) := by decide +kernel
theorem dX7_worst_39 : decode cX7_worst 39 = .ok (.getfield 214, 3) := by decide +kernel
theorem dX7_worst_42 : decode cX7_worst 42 = .ok (.goto 10, 3) := by decide +kernel
theorem dX7_worst_45 : decode cX7_worst 45 = .ok (.aload_n 0, 1) := by decide +kernel
theorem dX7_worst_46 : decode cX7_worst 46 = .ok (.getfield 43, 3) := by decide +kernel
theorem dX7_worst_49 : decode cX7_worst 49 = .ok (.getfield 217, 3) := by decide +kernel
theorem dX7_worst_52 : decode cX7_worst 52 = .ok (.ireturn, 1) := by decide +kernel
theorem dX7_when_0 : decode cX7_when 0 = .ok (.aload_n 0, 1) := by decide +kernel
theorem dX7_when_1 : decode cX7_when 1 = .ok (.iload_n 1, 1) := by decide +kernel
theorem dX7_when_2 : decode cX7_when 2 = .ok (.invokevirtual 174, 3) := by decide +kernel
theorem dX7_when_5 : decode cX7_when 5 = .ok (.ifCond .ne 6, 3) := by decide +kernel
theorem dX7_when_8 : decode cX7_when 8 = .ok (.ldc 66, 2) := by decide +kernel
theorem dX7_when_10 : decode cX7_when 10 = .ok (.ireturn, 1) := by decide +kernel
theorem dX7_when_11 : decode cX7_when 11 = .ok (.aload_n 0, 1) := by decide +kernel
theorem dX7_when_12 : decode cX7_when 12 = .ok (.getfield 26, 3) := by decide +kernel
theorem dX7_when_15 : decode cX7_when 15 = .ok (.getfield 177, 3) := by decide +kernel
theorem dX7_when_18 : decode cX7_when 18 = .ok (.iload_n 1, 1) := by decide +kernel
theorem dX7_when_19 : decode cX7_when 19 = .ok (.iaload, 1) := by decide +kernel
theorem dX7_when_20 : decode cX7_when 20 = .ok (.lookupswitch 40 #[(0, 28), (2, 38)], 28) := by decide +kernel
theorem dX7_when_48 : decode cX7_when 48 = .ok (.aload_n 0, 1) := by decide +kernel
theorem dX7_when_49 : decode cX7_when 49 = .ok (.getfield 26, 3) := by decide +kernel
theorem dX7_when_52 : decode cX7_when 52 = .ok (.getfield 193, 3) := by decide +kernel
theorem dX7_when_55 : decode cX7_when 55 = .ok (.iload_n 1, 1) := by decide +kernel
theorem dX7_when_56 : decode cX7_when 56 = .ok (.iaload, 1) := by decide +kernel
theorem dX7_when_57 : decode cX7_when 57 = .ok (.ireturn, 1) := by decide +kernel
theorem dX7_when_58 : decode cX7_when 58 = .ok (.iconst 0, 1) := by decide +kernel
theorem dX7_when_59 : decode cX7_when 59 = .ok (.ireturn, 1) := by decide +kernel
theorem dX7_when_60 : decode cX7_when 60 = .ok (.ldc 220, 2) := by decide +kernel
theorem dX7_when_62 : decode cX7_when 62 = .ok (.ireturn, 1) := by decide +kernel
theorem dX7_kept_0 : decode cX7_kept 0 = .ok (.aload_n 0, 1) := by decide +kernel
theorem dX7_kept_1 : decode cX7_kept 1 = .ok (.invokevirtual 146, 3) := by decide +kernel
theorem dX7_kept_4 : decode cX7_kept 4 = .ok (.ifCond .eq 6, 3) := by decide +kernel
theorem dX7_kept_7 : decode cX7_kept 7 = .ok (.ldc 145, 2) := by decide +kernel
theorem dX7_kept_9 : decode cX7_kept 9 = .ok (.ireturn, 1) := by decide +kernel
theorem dX7_kept_10 : decode cX7_kept 10 = .ok (.iload_n 1, 1) := by decide +kernel
theorem dX7_kept_11 : decode cX7_kept 11 = .ok (.iconst 0, 1) := by decide +kernel
theorem dX7_kept_12 : decode cX7_kept 12 = .ok (.bipush 60, 2) := by decide +kernel
theorem dX7_kept_14 : decode cX7_kept 14 = .ok (.invokestatic 62, 3) := by decide +kernel
theorem dX7_kept_17 : decode cX7_kept 17 = .ok (.ifCond .eq 14, 3) := by decide +kernel
theorem dX7_kept_20 : decode cX7_kept 20 = .ok (.aload_n 0, 1) := by decide +kernel
theorem dX7_kept_21 : decode cX7_kept 21 = .ok (.getfield 26, 3) := by decide +kernel
theorem dX7_kept_24 : decode cX7_kept 24 = .ok (.iload_n 1, 1) := by decide +kernel
theorem dX7_kept_25 : decode cX7_kept 25 = .ok (.invokevirtual 221, 3) := by decide +kernel
theorem dX7_kept_28 : decode cX7_kept 28 = .ok (.goto 5, 3) := by decide +kernel
theorem dX7_kept_31 : decode cX7_kept 31 = .ok (.ldc 66, 2) := by decide +kernel
theorem dX7_kept_33 : decode cX7_kept 33 = .ok (.ireturn, 1) := by decide +kernel
theorem dX7_guard_0 : decode cX7_guard 0 = .ok (.aload_n 0, 1) := by decide +kernel
theorem dX7_guard_1 : decode cX7_guard 1 = .ok (.iload_n 1, 1) := by decide +kernel
theorem dX7_guard_2 : decode cX7_guard 2 = .ok (.iload_n 2, 1) := by decide +kernel
theorem dX7_guard_3 : decode cX7_guard 3 = .ok (.invokevirtual 162, 3) := by decide +kernel
theorem dX7_guard_6 : decode cX7_guard 6 = .ok (.ifCond .eq 21, 3) := by decide +kernel
theorem dX7_guard_9 : decode cX7_guard 9 = .ok (.iload_n 3, 1) := by decide +kernel
theorem dX7_guard_10 : decode cX7_guard 10 = .ok (.iconst 0, 1) := by decide +kernel
theorem dX7_guard_11 : decode cX7_guard 11 = .ok (.bipush 8, 2) := by decide +kernel
theorem dX7_guard_13 : decode cX7_guard 13 = .ok (.invokestatic 62, 3) := by decide +kernel
theorem dX7_guard_16 : decode cX7_guard 16 = .ok (.ifCond .eq 11, 3) := by decide +kernel
theorem dX7_guard_19 : decode cX7_guard 19 = .ok (.iload 4, 2) := by decide +kernel
theorem dX7_guard_21 : decode cX7_guard 21 = .ok (.invokestatic 199, 3) := by decide +kernel
theorem dX7_guard_24 : decode cX7_guard 24 = .ok (.ifCond .ne 6, 3) := by decide +kernel
theorem dX7_guard_27 : decode cX7_guard 27 = .ok (.ldc 66, 2) := by decide +kernel
theorem dX7_guard_29 : decode cX7_guard 29 = .ok (.ireturn, 1) := by decide +kernel
theorem dX7_guard_30 : decode cX7_guard 30 = .ok (.aload_n 0, 1) := by decide +kernel
theorem dX7_guard_31 : decode cX7_guard 31 = .ok (.getfield 43, 3) := by decide +kernel
theorem dX7_guard_34 : decode cX7_guard 34 = .ok (.aload_n 0, 1) := by decide +kernel
theorem dX7_guard_35 : decode cX7_guard 35 = .ok (.getfield 26, 3) := by decide +kernel
theorem dX7_guard_38 : decode cX7_guard 38 = .ok (.iload_n 1, 1) := by decide +kernel
theorem dX7_guard_39 : decode cX7_guard 39 = .ok (.iload_n 2, 1) := by decide +kernel
theorem dX7_guard_40 : decode cX7_guard 40 = .ok (.iload_n 3, 1) := by decide +kernel
theorem dX7_guard_41 : decode cX7_guard 41 = .ok (.invokevirtual 224, 3) := by decide +kernel
theorem dX7_guard_44 : decode cX7_guard 44 = .ok (.iload 4, 2) := by decide +kernel
theorem dX7_guard_46 : decode cX7_guard 46 = .ok (.ifCond .ne 13, 3) := by decide +kernel
theorem dX7_guard_49 : decode cX7_guard 49 = .ok (.aload_n 0, 1) := by decide +kernel
theorem dX7_guard_50 : decode cX7_guard 50 = .ok (.getfield 43, 3) := by decide +kernel
theorem dX7_guard_53 : decode cX7_guard 53 = .ok (.getfield 217, 3) := by decide +kernel
theorem dX7_guard_56 : decode cX7_guard 56 = .ok (.goto 10, 3) := by decide +kernel
theorem dX7_guard_59 : decode cX7_guard 59 = .ok (.aload_n 0, 1) := by decide +kernel
theorem dX7_guard_60 : decode cX7_guard 60 = .ok (.getfield 43, 3) := by decide +kernel
theorem dX7_guard_63 : decode cX7_guard 63 = .ok (.getfield 214, 3) := by decide +kernel
theorem dX7_guard_66 : decode cX7_guard 66 = .ok (.ireturn, 1) := by decide +kernel
theorem dX7_changes_0 : decode cX7_changes 0 = .ok (.aload_n 0, 1) := by decide +kernel
theorem dX7_changes_1 : decode cX7_changes 1 = .ok (.invokevirtual 146, 3) := by decide +kernel
theorem dX7_changes_4 : decode cX7_changes 4 = .ok (.ifCond .eq 6, 3) := by decide +kernel
theorem dX7_changes_7 : decode cX7_changes 7 = .ok (.ldc 145, 2) := by decide +kernel
theorem dX7_changes_9 : decode cX7_changes 9 = .ok (.ireturn, 1) := by decide +kernel
theorem dX7_changes_10 : decode cX7_changes 10 = .ok (.iload_n 1, 1) := by decide +kernel
theorem dX7_changes_11 : decode cX7_changes 11 = .ok (.invokestatic 199, 3) := by decide +kernel
theorem dX7_changes_14 : decode cX7_changes 14 = .ok (.ifCond .ne 6, 3) := by decide +kernel
theorem dX7_changes_17 : decode cX7_changes 17 = .ok (.ldc 66, 2) := by decide +kernel
theorem dX7_changes_19 : decode cX7_changes 19 = .ok (.ireturn, 1) := by decide +kernel
theorem dX7_changes_20 : decode cX7_changes 20 = .ok (.aload_n 0, 1) := by decide +kernel
theorem dX7_changes_21 : decode cX7_changes 21 = .ok (.getfield 43, 3) := by decide +kernel
theorem dX7_changes_24 : decode cX7_changes 24 = .ok (.aload_n 0, 1) := by decide +kernel
theorem dX7_changes_25 : decode cX7_changes 25 = .ok (.getfield 26, 3) := by decide +kernel
theorem dX7_changes_28 : decode cX7_changes 28 = .ok (.invokevirtual 228, 3) := by decide +kernel
theorem dX7_changes_31 : decode cX7_changes 31 = .ok (.iload_n 1, 1) := by decide +kernel
theorem dX7_changes_32 : decode cX7_changes 32 = .ok (.ifCond .ne 13, 3) := by decide +kernel
theorem dX7_changes_35 : decode cX7_changes 35 = .ok (.aload_n 0, 1) := by decide +kernel
theorem dX7_changes_36 : decode cX7_changes 36 = .ok (.getfield 43, 3) := by decide +kernel
theorem dX7_changes_39 : decode cX7_changes 39 = .ok (.getfield 214, 3) := by decide +kernel
theorem dX7_changes_42 : decode cX7_changes 42 = .ok (.goto 10, 3) := by decide +kernel
theorem dX7_changes_45 : decode cX7_changes 45 = .ok (.aload_n 0, 1) := by decide +kernel
theorem dX7_changes_46 : decode cX7_changes 46 = .ok (.getfield 43, 3) := by decide +kernel
theorem dX7_changes_49 : decode cX7_changes 49 = .ok (.getfield 217, 3) := by decide +kernel
theorem dX7_changes_52 : decode cX7_changes 52 = .ok (.ireturn, 1) := by decide +kernel
theorem dX7_tuned_0 : decode cX7_tuned 0 = .ok (.aload_n 0, 1) := by decide +kernel
theorem dX7_tuned_1 : decode cX7_tuned 1 = .ok (.iload_n 1, 1) := by decide +kernel
theorem dX7_tuned_2 : decode cX7_tuned 2 = .ok (.invokevirtual 174, 3) := by decide +kernel
theorem dX7_tuned_5 : decode cX7_tuned 5 = .ok (.ifCond .eq 10, 3) := by decide +kernel
theorem dX7_tuned_8 : decode cX7_tuned 8 = .ok (.iload_n 2, 1) := by decide +kernel
theorem dX7_tuned_9 : decode cX7_tuned 9 = .ok (.invokestatic 199, 3) := by decide +kernel
theorem dX7_tuned_12 : decode cX7_tuned 12 = .ok (.ifCond .ne 6, 3) := by decide +kernel
theorem dX7_tuned_15 : decode cX7_tuned 15 = .ok (.ldc 66, 2) := by decide +kernel
theorem dX7_tuned_17 : decode cX7_tuned 17 = .ok (.ireturn, 1) := by decide +kernel
theorem dX7_tuned_18 : decode cX7_tuned 18 = .ok (.aload_n 0, 1) := by decide +kernel
theorem dX7_tuned_19 : decode cX7_tuned 19 = .ok (.getfield 43, 3) := by decide +kernel
theorem dX7_tuned_22 : decode cX7_tuned 22 = .ok (.aload_n 0, 1) := by decide +kernel
theorem dX7_tuned_23 : decode cX7_tuned 23 = .ok (.getfield 26, 3) := by decide +kernel
theorem dX7_tuned_26 : decode cX7_tuned 26 = .ok (.iload_n 1, 1) := by decide +kernel
theorem dX7_tuned_27 : decode cX7_tuned 27 = .ok (.invokevirtual 231, 3) := by decide +kernel
theorem dX7_tuned_30 : decode cX7_tuned 30 = .ok (.iload_n 2, 1) := by decide +kernel
theorem dX7_tuned_31 : decode cX7_tuned 31 = .ok (.ifCond .ne 13, 3) := by decide +kernel
theorem dX7_tuned_34 : decode cX7_tuned 34 = .ok (.aload_n 0, 1) := by decide +kernel
theorem dX7_tuned_35 : decode cX7_tuned 35 = .ok (.getfield 43, 3) := by decide +kernel
theorem dX7_tuned_38 : decode cX7_tuned 38 = .ok (.getfield 214, 3) := by decide +kernel
theorem dX7_tuned_41 : decode cX7_tuned 41 = .ok (.goto 10, 3) := by decide +kernel
theorem dX7_tuned_44 : decode cX7_tuned 44 = .ok (.aload_n 0, 1) := by decide +kernel
theorem dX7_tuned_45 : decode cX7_tuned 45 = .ok (.getfield 43, 3) := by decide +kernel
theorem dX7_tuned_48 : decode cX7_tuned 48 = .ok (.getfield 217, 3) := by decide +kernel
theorem dX7_tuned_51 : decode cX7_tuned 51 = .ok (.ireturn, 1) := by decide +kernel
theorem dX7_spared_0 : decode cX7_spared 0 = .ok (.aload_n 0, 1) := by decide +kernel
theorem dX7_spared_1 : decode cX7_spared 1 = .ok (.invokevirtual 146, 3) := by decide +kernel
theorem dX7_spared_4 : decode cX7_spared 4 = .ok (.ifCond .eq 6, 3) := by decide +kernel
theorem dX7_spared_7 : decode cX7_spared 7 = .ok (.ldc 145, 2) := by decide +kernel
theorem dX7_spared_9 : decode cX7_spared 9 = .ok (.ireturn, 1) := by decide +kernel
theorem dX7_spared_10 : decode cX7_spared 10 = .ok (.iload_n 1, 1) := by decide +kernel
theorem dX7_spared_11 : decode cX7_spared 11 = .ok (.invokestatic 199, 3) := by decide +kernel
theorem dX7_spared_14 : decode cX7_spared 14 = .ok (.ifCond .ne 6, 3) := by decide +kernel
theorem dX7_spared_17 : decode cX7_spared 17 = .ok (.ldc 66, 2) := by decide +kernel
theorem dX7_spared_19 : decode cX7_spared 19 = .ok (.ireturn, 1) := by decide +kernel
theorem dX7_spared_20 : decode cX7_spared 20 = .ok (.aload_n 0, 1) := by decide +kernel
theorem dX7_spared_21 : decode cX7_spared 21 = .ok (.getfield 43, 3) := by decide +kernel
theorem dX7_spared_24 : decode cX7_spared 24 = .ok (.aload_n 0, 1) := by decide +kernel
theorem dX7_spared_25 : decode cX7_spared 25 = .ok (.getfield 26, 3) := by decide +kernel
theorem dX7_spared_28 : decode cX7_spared 28 = .ok (.invokevirtual 235, 3) := by decide +kernel
theorem dX7_spared_31 : decode cX7_spared 31 = .ok (.iload_n 1, 1) := by decide +kernel
theorem dX7_spared_32 : decode cX7_spared 32 = .ok (.ifCond .ne 13, 3) := by decide +kernel
theorem dX7_spared_35 : decode cX7_spared 35 = .ok (.aload_n 0, 1) := by decide +kernel
theorem dX7_spared_36 : decode cX7_spared 36 = .ok (.getfield 43, 3) := by decide +kernel
theorem dX7_spared_39 : decode cX7_spared 39 = .ok (.getfield 214, 3) := by decide +kernel
theorem dX7_spared_42 : decode cX7_spared 42 = .ok (.goto 10, 3) := by decide +kernel
theorem dX7_spared_45 : decode cX7_spared 45 = .ok (.aload_n 0, 1) := by decide +kernel
theorem dX7_spared_46 : decode cX7_spared 46 = .ok (.getfield 43, 3) := by decide +kernel
theorem dX7_spared_49 : decode cX7_spared 49 = .ok (.getfield 217, 3) := by decide +kernel
theorem dX7_spared_52 : decode cX7_spared 52 = .ok (.ireturn, 1) := by decide +kernel
theorem dX7_alike_0 : decode cX7_alike 0 = .ok (.aload_n 0, 1) := by decide +kernel
theorem dX7_alike_1 : decode cX7_alike 1 = .ok (.invokevirtual 146, 3) := by decide +kernel
theorem dX7_alike_4 : decode cX7_alike 4 = .ok (.ifCond .eq 6, 3) := by decide +kernel
theorem dX7_alike_7 : decode cX7_alike 7 = .ok (.ldc 145, 2) := by decide +kernel
theorem dX7_alike_9 : decode cX7_alike 9 = .ok (.ireturn, 1) := by decide +kernel
theorem dX7_alike_10 : decode cX7_alike 10 = .ok (.iload_n 1, 1) := by decide +kernel
theorem dX7_alike_11 : decode cX7_alike 11 = .ok (.invokestatic 199, 3) := by decide +kernel
theorem dX7_alike_14 : decode cX7_alike 14 = .ok (.ifCond .ne 6, 3) := by decide +kernel
theorem dX7_alike_17 : decode cX7_alike 17 = .ok (.ldc 66, 2) := by decide +kernel
theorem dX7_alike_19 : decode cX7_alike 19 = .ok (.ireturn, 1) := by decide +kernel
theorem dX7_alike_20 : decode cX7_alike 20 = .ok (.aload_n 0, 1) := by decide +kernel
theorem dX7_alike_21 : decode cX7_alike 21 = .ok (.getfield 43, 3) := by decide +kernel
theorem dX7_alike_24 : decode cX7_alike 24 = .ok (.aload_n 0, 1) := by decide +kernel
theorem dX7_alike_25 : decode cX7_alike 25 = .ok (.getfield 26, 3) := by decide +kernel
theorem dX7_alike_28 : decode cX7_alike 28 = .ok (.invokevirtual 238, 3) := by decide +kernel
theorem dX7_alike_31 : decode cX7_alike 31 = .ok (.iload_n 1, 1) := by decide +kernel
theorem dX7_alike_32 : decode cX7_alike 32 = .ok (.ifCond .ne 13, 3) := by decide +kernel
theorem dX7_alike_35 : decode cX7_alike 35 = .ok (.aload_n 0, 1) := by decide +kernel
theorem dX7_alike_36 : decode cX7_alike 36 = .ok (.getfield 43, 3) := by decide +kernel
theorem dX7_alike_39 : decode cX7_alike 39 = .ok (.getfield 217, 3) := by decide +kernel
theorem dX7_alike_42 : decode cX7_alike 42 = .ok (.goto 10, 3) := by decide +kernel
theorem dX7_alike_45 : decode cX7_alike 45 = .ok (.aload_n 0, 1) := by decide +kernel
theorem dX7_alike_46 : decode cX7_alike 46 = .ok (.getfield 43, 3) := by decide +kernel
theorem dX7_alike_49 : decode cX7_alike 49 = .ok (.getfield 214, 3) := by decide +kernel
theorem dX7_alike_52 : decode cX7_alike 52 = .ok (.ireturn, 1) := by decide +kernel
theorem dX7_song_0 : decode cX7_song 0 = .ok (.aload_n 0, 1) := by decide +kernel
theorem dX7_song_1 : decode cX7_song 1 = .ok (.invokevirtual 146, 3) := by decide +kernel
theorem dX7_song_4 : decode cX7_song 4 = .ok (.ifCond .eq 6, 3) := by decide +kernel
theorem dX7_song_7 : decode cX7_song 7 = .ok (.ldc 145, 2) := by decide +kernel
theorem dX7_song_9 : decode cX7_song 9 = .ok (.ireturn, 1) := by decide +kernel
theorem dX7_song_10 : decode cX7_song 10 = .ok (.iload_n 1, 1) := by decide +kernel
theorem dX7_song_11 : decode cX7_song 11 = .ok (.invokestatic 199, 3) := by decide +kernel
theorem dX7_song_14 : decode cX7_song 14 = .ok (.ifCond .eq 21, 3) := by decide +kernel
theorem dX7_song_17 : decode cX7_song 17 = .ok (.iload_n 2, 1) := by decide +kernel
theorem dX7_song_18 : decode cX7_song 18 = .ok (.invokestatic 58, 3) := by decide +kernel
theorem dX7_song_21 : decode cX7_song 21 = .ok (.ifCond .eq 14, 3) := by decide +kernel
theorem dX7_song_24 : decode cX7_song 24 = .ok (.iload 4, 2) := by decide +kernel
theorem dX7_song_26 : decode cX7_song 26 = .ok (.iconst 1, 1) := by decide +kernel
theorem dX7_song_27 : decode cX7_song 27 = .ok (.bipush 12, 2) := by decide +kernel
theorem dX7_song_29 : decode cX7_song 29 = .ok (.invokestatic 62, 3) := by decide +kernel
theorem dX7_song_32 : decode cX7_song 32 = .ok (.ifCond .ne 6, 3) := by decide +kernel
theorem dX7_song_35 : decode cX7_song 35 = .ok (.ldc 66, 2) := by decide +kernel
theorem dX7_song_37 : decode cX7_song 37 = .ok (.ireturn, 1) := by decide +kernel
theorem dX7_song_38 : decode cX7_song 38 = .ok (.aload_n 0, 1) := by decide +kernel
theorem dX7_song_39 : decode cX7_song 39 = .ok (.getfield 10, 3) := by decide +kernel
theorem dX7_song_42 : decode cX7_song 42 = .ok (.iload_n 2, 1) := by decide +kernel
theorem dX7_song_43 : decode cX7_song 43 = .ok (.iload_n 3, 1) := by decide +kernel
theorem dX7_song_44 : decode cX7_song 44 = .ok (.iload 4, 2) := by decide +kernel
theorem dX7_song_46 : decode cX7_song 46 = .ok (.invokevirtual 78, 3) := by decide +kernel
theorem dX7_song_49 : decode cX7_song 49 = .ok (.istore 5, 2) := by decide +kernel
theorem dX7_song_51 : decode cX7_song 51 = .ok (.iload 5, 2) := by decide +kernel
theorem dX7_song_53 : decode cX7_song 53 = .ok (.ifCond .ne 20, 3) := by decide +kernel
theorem dX7_song_56 : decode cX7_song 56 = .ok (.aload_n 0, 1) := by decide +kernel
theorem dX7_song_57 : decode cX7_song 57 = .ok (.getfield 10, 3) := by decide +kernel
theorem dX7_song_60 : decode cX7_song 60 = .ok (.iload_n 2, 1) := by decide +kernel
theorem dX7_song_61 : decode cX7_song 61 = .ok (.iload_n 3, 1) := by decide +kernel
theorem dX7_song_62 : decode cX7_song 62 = .ok (.iload 4, 2) := by decide +kernel
theorem dX7_song_64 : decode cX7_song 64 = .ok (.invokevirtual 241, 3) := by decide +kernel
theorem dX7_song_67 : decode cX7_song 67 = .ok (.ifCond .ne 6, 3) := by decide +kernel
theorem dX7_song_70 : decode cX7_song 70 = .ok (.iconst 3, 1) := by decide +kernel
theorem dX7_song_71 : decode cX7_song 71 = .ok (.istore 5, 2) := by decide +kernel
theorem dX7_song_73 : decode cX7_song 73 = .ok (.iload 5, 2) := by decide +kernel
theorem dX7_song_75 : decode cX7_song 75 = .ok (.ifCond .eq 10, 3) := by decide +kernel
theorem dX7_song_78 : decode cX7_song 78 = .ok (.aload_n 0, 1) := by decide +kernel
theorem dX7_song_79 : decode cX7_song 79 = .ok (.iload 5, 2) := by decide +kernel
theorem dX7_song_81 : decode cX7_song 81 = .ok (.invokevirtual 67, 3) := by decide +kernel
theorem dX7_song_84 : decode cX7_song 84 = .ok (.ireturn, 1) := by decide +kernel
theorem dX7_song_85 : decode cX7_song 85 = .ok (.aload_n 0, 1) := by decide +kernel
theorem dX7_song_86 : decode cX7_song 86 = .ok (.getfield 43, 3) := by decide +kernel
theorem dX7_song_89 : decode cX7_song 89 = .ok (.aload_n 0, 1) := by decide +kernel
theorem dX7_song_90 : decode cX7_song 90 = .ok (.getfield 26, 3) := by decide +kernel
theorem dX7_song_93 : decode cX7_song 93 = .ok (.aload_n 0, 1) := by decide +kernel
theorem dX7_song_94 : decode cX7_song 94 = .ok (.getfield 10, 3) := by decide +kernel
theorem dX7_song_97 : decode cX7_song 97 = .ok (.getfield 96, 3) := by decide +kernel
theorem dX7_song_100 : decode cX7_song 100 = .ok (.iload_n 2, 1) := by decide +kernel
theorem dX7_song_101 : decode cX7_song 101 = .ok (.aaload, 1) := by decide +kernel
theorem dX7_song_102 : decode cX7_song 102 = .ok (.iload_n 3, 1) := by decide +kernel
theorem dX7_song_103 : decode cX7_song 103 = .ok (.iload 4, 2) := by decide +kernel
theorem dX7_song_105 : decode cX7_song 105 = .ok (.invokevirtual 244, 3) := by decide +kernel
theorem dX7_song_108 : decode cX7_song 108 = .ok (.aload_n 0, 1) := by decide +kernel
theorem dX7_song_109 : decode cX7_song 109 = .ok (.iload_n 1, 1) := by decide +kernel
theorem dX7_song_110 : decode cX7_song 110 = .ok (.ifCond .ne 13, 3) := by decide +kernel
theorem dX7_song_113 : decode cX7_song 113 = .ok (.aload_n 0, 1) := by decide +kernel
theorem dX7_song_114 : decode cX7_song 114 = .ok (.getfield 43, 3) := by decide +kernel
theorem dX7_song_117 : decode cX7_song 117 = .ok (.getfield 214, 3) := by decide +kernel
theorem dX7_song_120 : decode cX7_song 120 = .ok (.goto 10, 3) := by decide +kernel
theorem dX7_song_123 : decode cX7_song 123 = .ok (.aload_n 0, 1) := by decide +kernel
theorem dX7_song_124 : decode cX7_song 124 = .ok (.getfield 43, 3) := by decide +kernel
theorem dX7_song_127 : decode cX7_song 127 = .ok (.getfield 217, 3) := by decide +kernel
theorem dX7_song_130 : decode cX7_song 130 = .ok (.invokevirtual 75, 3) := by decide +kernel
theorem dX7_song_133 : decode cX7_song 133 = .ok (.ireturn, 1) := by decide +kernel
theorem dX7_who_0 : decode cX7_who 0 = .ok (.aload_n 0, 1) := by decide +kernel
theorem dX7_who_1 : decode cX7_who 1 = .ok (.iload_n 1, 1) := by decide +kernel
theorem dX7_who_2 : decode cX7_who 2 = .ok (.invokevirtual 174, 3) := by decide +kernel
theorem dX7_who_5 : decode cX7_who 5 = .ok (.ifCond .eq 37, 3) := by decide +kernel
theorem dX7_who_8 : decode cX7_who 8 = .ok (.iload_n 2, 1) := by decide +kernel
theorem dX7_who_9 : decode cX7_who 9 = .ok (.invokestatic 199, 3) := by decide +kernel
theorem dX7_who_12 : decode cX7_who 12 = .ok (.ifCond .eq 30, 3) := by decide +kernel
theorem dX7_who_15 : decode cX7_who 15 = .ok (.aload_n 0, 1) := by decide +kernel
theorem dX7_who_16 : decode cX7_who 16 = .ok (.iload_n 3, 1) := by decide +kernel
theorem dX7_who_17 : decode cX7_who 17 = .ok (.invokevirtual 248, 3) := by decide +kernel
theorem dX7_who_20 : decode cX7_who 20 = .ok (.ifCond .eq 22, 3) := by decide +kernel
theorem dX7_who_23 : decode cX7_who 23 = .ok (.iload 4, 2) := by decide +kernel
theorem dX7_who_25 : decode cX7_who 25 = .ok (.invokestatic 58, 3) := by decide +kernel
theorem dX7_who_28 : decode cX7_who 28 = .ok (.ifCond .eq 14, 3) := by decide +kernel
theorem dX7_who_31 : decode cX7_who 31 = .ok (.iload 6, 2) := by decide +kernel
theorem dX7_who_33 : decode cX7_who 33 = .ok (.iconst 1, 1) := by decide +kernel
theorem dX7_who_34 : decode cX7_who 34 = .ok (.bipush 12, 2) := by decide +kernel
theorem dX7_who_36 : decode cX7_who 36 = .ok (.invokestatic 62, 3) := by decide +kernel
theorem dX7_who_39 : decode cX7_who 39 = .ok (.ifCond .ne 6, 3) := by decide +kernel
theorem dX7_who_42 : decode cX7_who 42 = .ok (.ldc 66, 2) := by decide +kernel
theorem dX7_who_44 : decode cX7_who 44 = .ok (.ireturn, 1) := by decide +kernel
theorem dX7_who_45 : decode cX7_who 45 = .ok (.aload_n 0, 1) := by decide +kernel
theorem dX7_who_46 : decode cX7_who 46 = .ok (.getfield 10, 3) := by decide +kernel
theorem dX7_who_49 : decode cX7_who 49 = .ok (.iload 4, 2) := by decide +kernel
theorem dX7_who_51 : decode cX7_who 51 = .ok (.iload 5, 2) := by decide +kernel
theorem dX7_who_53 : decode cX7_who 53 = .ok (.iload 6, 2) := by decide +kernel
theorem dX7_who_55 : decode cX7_who 55 = .ok (.invokevirtual 78, 3) := by decide +kernel
theorem dX7_who_58 : decode cX7_who 58 = .ok (.istore 7, 2) := by decide +kernel
theorem dX7_who_60 : decode cX7_who 60 = .ok (.iload 7, 2) := by decide +kernel
theorem dX7_who_62 : decode cX7_who 62 = .ok (.ifCond .eq 10, 3) := by decide +kernel
theorem dX7_who_65 : decode cX7_who 65 = .ok (.aload_n 0, 1) := by decide +kernel
theorem dX7_who_66 : decode cX7_who 66 = .ok (.iload 7, 2) := by decide +kernel
theorem dX7_who_68 : decode cX7_who 68 = .ok (.invokevirtual 67, 3) := by decide +kernel
theorem dX7_who_71 : decode cX7_who 71 = .ok (.ireturn, 1) := by decide +kernel
theorem dX7_who_72 : decode cX7_who 72 = .ok (.iload_n 2, 1) := by decide +kernel
theorem dX7_who_73 : decode cX7_who 73 = .ok (.ifCond .ne 35, 3) := by decide +kernel
theorem dX7_who_76 : decode cX7_who 76 = .ok (.aload_n 0, 1) := by decide +kernel
theorem dX7_who_77 : decode cX7_who 77 = .ok (.aload_n 0, 1) := by decide +kernel
theorem dX7_who_78 : decode cX7_who 78 = .ok (.getfield 43, 3) := by decide +kernel
theorem dX7_who_81 : decode cX7_who 81 = .ok (.aload_n 0, 1) := by decide +kernel
theorem dX7_who_82 : decode cX7_who 82 = .ok (.getfield 26, 3) := by decide +kernel
theorem dX7_who_85 : decode cX7_who 85 = .ok (.iload_n 1, 1) := by decide +kernel
theorem dX7_who_86 : decode cX7_who 86 = .ok (.iload_n 3, 1) := by decide +kernel
theorem dX7_who_87 : decode cX7_who 87 = .ok (.aload_n 0, 1) := by decide +kernel
theorem dX7_who_88 : decode cX7_who 88 = .ok (.getfield 10, 3) := by decide +kernel
theorem dX7_who_91 : decode cX7_who 91 = .ok (.getfield 96, 3) := by decide +kernel
theorem dX7_who_94 : decode cX7_who 94 = .ok (.iload 4, 2) := by decide +kernel
theorem dX7_who_96 : decode cX7_who 96 = .ok (.aaload, 1) := by decide +kernel
theorem dX7_who_97 : decode cX7_who 97 = .ok (.iload 5, 2) := by decide +kernel
theorem dX7_who_99 : decode cX7_who 99 = .ok (.iload 6, 2) := by decide +kernel
theorem dX7_who_101 : decode cX7_who 101 = .ok (.invokevirtual 251, 3) := by decide +kernel
theorem dX7_who_104 : decode cX7_who 104 = .ok (.invokevirtual 75, 3) := by decide +kernel
theorem dX7_who_107 : decode cX7_who 107 = .ok (.ireturn, 1) := by decide +kernel
theorem dX7_who_108 : decode cX7_who 108 = .ok (.aload_n 0, 1) := by decide +kernel
theorem dX7_who_109 : decode cX7_who 109 = .ok (.aload_n 0, 1) := by decide +kernel
theorem dX7_who_110 : decode cX7_who 110 = .ok (.getfield 43, 3) := by decide +kernel
theorem dX7_who_113 : decode cX7_who 113 = .ok (.aload_n 0, 1) := by decide +kernel
theorem dX7_who_114 : decode cX7_who 114 = .ok (.getfield 26, 3) := by decide +kernel
theorem dX7_who_117 : decode cX7_who 117 = .ok (.iload_n 1, 1) := by decide +kernel
theorem dX7_who_118 : decode cX7_who 118 = .ok (.iload_n 3, 1) := by decide +kernel
theorem dX7_who_119 : decode cX7_who 119 = .ok (.aload_n 0, 1) := by decide +kernel
theorem dX7_who_120 : decode cX7_who 120 = .ok (.getfield 10, 3) := by decide +kernel
theorem dX7_who_123 : decode cX7_who 123 = .ok (.getfield 96, 3) := by decide +kernel
theorem dX7_who_126 : decode cX7_who 126 = .ok (.iload 4, 2) := by decide +kernel
theorem dX7_who_128 : decode cX7_who 128 = .ok (.aaload, 1) := by decide +kernel
theorem dX7_who_129 : decode cX7_who 129 = .ok (.iload 5, 2) := by decide +kernel
theorem dX7_who_131 : decode cX7_who 131 = .ok (.iload 6, 2) := by decide +kernel
theorem dX7_who_133 : decode cX7_who 133 = .ok (.invokevirtual 255, 3) := by decide +kernel
theorem dX7_who_136 : decode cX7_who 136 = .ok (.invokevirtual 75, 3) := by decide +kernel
theorem dX7_who_139 : decode cX7_who 139 = .ok (.ireturn, 1) := by decide +kernel
theorem dX7_reaches_0 : decode cX7_reaches 0 = .ok (.aload_n 0, 1) := by decide +kernel
theorem dX7_reaches_1 : decode cX7_reaches 1 = .ok (.iload_n 1, 1) := by decide +kernel
theorem dX7_reaches_2 : decode cX7_reaches 2 = .ok (.invokevirtual 248, 3) := by decide +kernel
theorem dX7_reaches_5 : decode cX7_reaches 5 = .ok (.ifCond .eq 21, 3) := by decide +kernel
theorem dX7_reaches_8 : decode cX7_reaches 8 = .ok (.iload_n 2, 1) := by decide +kernel
theorem dX7_reaches_9 : decode cX7_reaches 9 = .ok (.invokestatic 58, 3) := by decide +kernel
theorem dX7_reaches_12 : decode cX7_reaches 12 = .ok (.ifCond .eq 14, 3) := by decide +kernel
theorem dX7_reaches_15 : decode cX7_reaches 15 = .ok (.iload 4, 2) := by decide +kernel
theorem dX7_reaches_17 : decode cX7_reaches 17 = .ok (.iconst 1, 1) := by decide +kernel
theorem dX7_reaches_18 : decode cX7_reaches 18 = .ok (.bipush 12, 2) := by decide +kernel
theorem dX7_reaches_20 : decode cX7_reaches 20 = .ok (.invokestatic 62, 3) := by decide +kernel
theorem dX7_reaches_23 : decode cX7_reaches 23 = .ok (.ifCond .ne 6, 3) := by decide +kernel
theorem dX7_reaches_26 : decode cX7_reaches 26 = .ok (.ldc 66, 2) := by decide +kernel
theorem dX7_reaches_28 : decode cX7_reaches 28 = .ok (.ireturn, 1) := by decide +kernel
theorem dX7_reaches_29 : decode cX7_reaches 29 = .ok (.aload_n 0, 1) := by decide +kernel
