theorem dX7_reaches_30 : decode cX7_reaches 30 = .ok (.getfield 10, 3) := by decide +kernel
theorem dX7_reaches_33 : decode cX7_reaches 33 = .ok (.iload_n 2, 1) := by decide +kernel
theorem dX7_reaches_34 : decode cX7_reaches 34 = .ok (.iload_n 3, 1) := by decide +kernel
theorem dX7_reaches_35 : decode cX7_reaches 35 = .ok (.iload 4, 2) := by decide +kernel
theorem dX7_reaches_37 : decode cX7_reaches 37 = .ok (.invokevirtual 78, 3) := by decide +kernel
theorem dX7_reaches_40 : decode cX7_reaches 40 = .ok (.istore 5, 2) := by decide +kernel
theorem dX7_reaches_42 : decode cX7_reaches 42 = .ok (.iload 5, 2) := by decide +kernel
theorem dX7_reaches_44 : decode cX7_reaches 44 = .ok (.ifCond .eq 10, 3) := by decide +kernel
theorem dX7_reaches_47 : decode cX7_reaches 47 = .ok (.aload_n 0, 1) := by decide +kernel
theorem dX7_reaches_48 : decode cX7_reaches 48 = .ok (.iload 5, 2) := by decide +kernel
theorem dX7_reaches_50 : decode cX7_reaches 50 = .ok (.invokevirtual 67, 3) := by decide +kernel
theorem dX7_reaches_53 : decode cX7_reaches 53 = .ok (.ireturn, 1) := by decide +kernel
theorem dX7_reaches_54 : decode cX7_reaches 54 = .ok (.aload_n 0, 1) := by decide +kernel
theorem dX7_reaches_55 : decode cX7_reaches 55 = .ok (.aload_n 0, 1) := by decide +kernel
theorem dX7_reaches_56 : decode cX7_reaches 56 = .ok (.getfield 43, 3) := by decide +kernel
theorem dX7_reaches_59 : decode cX7_reaches 59 = .ok (.aload_n 0, 1) := by decide +kernel
theorem dX7_reaches_60 : decode cX7_reaches 60 = .ok (.getfield 26, 3) := by decide +kernel
theorem dX7_reaches_63 : decode cX7_reaches 63 = .ok (.iload_n 1, 1) := by decide +kernel
theorem dX7_reaches_64 : decode cX7_reaches 64 = .ok (.aload_n 0, 1) := by decide +kernel
theorem dX7_reaches_65 : decode cX7_reaches 65 = .ok (.getfield 10, 3) := by decide +kernel
theorem dX7_reaches_68 : decode cX7_reaches 68 = .ok (.getfield 96, 3) := by decide +kernel
theorem dX7_reaches_71 : decode cX7_reaches 71 = .ok (.iload_n 2, 1) := by decide +kernel
theorem dX7_reaches_72 : decode cX7_reaches 72 = .ok (.aaload, 1) := by decide +kernel
theorem dX7_reaches_73 : decode cX7_reaches 73 = .ok (.iload_n 3, 1) := by decide +kernel
theorem dX7_reaches_74 : decode cX7_reaches 74 = .ok (.iload 4, 2) := by decide +kernel
theorem dX7_reaches_76 : decode cX7_reaches 76 = .ok (.invokevirtual 258, 3) := by decide +kernel
theorem dX7_reaches_79 : decode cX7_reaches 79 = .ok (.invokevirtual 75, 3) := by decide +kernel
theorem dX7_reaches_82 : decode cX7_reaches 82 = .ok (.ireturn, 1) := by decide +kernel
theorem dX7_mould_0 : decode cX7_mould 0 = .ok (.aload_n 0, 1) := by decide +kernel
theorem dX7_mould_1 : decode cX7_mould 1 = .ok (.iload_n 1, 1) := by decide +kernel
theorem dX7_mould_2 : decode cX7_mould 2 = .ok (.invokevirtual 174, 3) := by decide +kernel
theorem dX7_mould_5 : decode cX7_mould 5 = .ok (.ifCond .eq 31, 3) := by decide +kernel
theorem dX7_mould_8 : decode cX7_mould 8 = .ok (.aload_n 0, 1) := by decide +kernel
theorem dX7_mould_9 : decode cX7_mould 9 = .ok (.iload_n 2, 1) := by decide +kernel
theorem dX7_mould_10 : decode cX7_mould 10 = .ok (.iload_n 3, 1) := by decide +kernel
theorem dX7_mould_11 : decode cX7_mould 11 = .ok (.invokevirtual 162, 3) := by decide +kernel
theorem dX7_mould_14 : decode cX7_mould 14 = .ok (.ifCond .eq 22, 3) := by decide +kernel
theorem dX7_mould_17 : decode cX7_mould 17 = .ok (.iload 4, 2) := by decide +kernel
theorem dX7_mould_19 : decode cX7_mould 19 = .ok (.iconst 0, 1) := by decide +kernel
theorem dX7_mould_20 : decode cX7_mould 20 = .ok (.bipush 10, 2) := by decide +kernel
theorem dX7_mould_22 : decode cX7_mould 22 = .ok (.invokestatic 62, 3) := by decide +kernel
theorem dX7_mould_25 : decode cX7_mould 25 = .ok (.ifCond .eq 11, 3) := by decide +kernel
theorem dX7_mould_28 : decode cX7_mould 28 = .ok (.iload 5, 2) := by decide +kernel
theorem dX7_mould_30 : decode cX7_mould 30 = .ok (.invokestatic 199, 3) := by decide +kernel
theorem dX7_mould_33 : decode cX7_mould 33 = .ok (.ifCond .ne 7, 3) := by decide +kernel
theorem dX7_mould_36 : decode cX7_mould 36 = .ok (.ldc2_w 262, 3) := by decide +kernel
theorem dX7_mould_39 : decode cX7_mould 39 = .ok (.lreturn, 1) := by decide +kernel
theorem dX7_mould_40 : decode cX7_mould 40 = .ok (.aload_n 0, 1) := by decide +kernel
theorem dX7_mould_41 : decode cX7_mould 41 = .ok (.getfield 43, 3) := by decide +kernel
theorem dX7_mould_44 : decode cX7_mould 44 = .ok (.aload_n 0, 1) := by decide +kernel
theorem dX7_mould_45 : decode cX7_mould 45 = .ok (.getfield 26, 3) := by decide +kernel
theorem dX7_mould_48 : decode cX7_mould 48 = .ok (.iload_n 1, 1) := by decide +kernel
theorem dX7_mould_49 : decode cX7_mould 49 = .ok (.iload_n 2, 1) := by decide +kernel
theorem dX7_mould_50 : decode cX7_mould 50 = .ok (.iload_n 3, 1) := by decide +kernel
theorem dX7_mould_51 : decode cX7_mould 51 = .ok (.iload 4, 2) := by decide +kernel
theorem dX7_mould_53 : decode cX7_mould 53 = .ok (.invokevirtual 264, 3) := by decide +kernel
theorem dX7_mould_56 : decode cX7_mould 56 = .ok (.iload 5, 2) := by decide +kernel
theorem dX7_mould_58 : decode cX7_mould 58 = .ok (.ifCond .ne 13, 3) := by decide +kernel
theorem dX7_mould_61 : decode cX7_mould 61 = .ok (.aload_n 0, 1) := by decide +kernel
theorem dX7_mould_62 : decode cX7_mould 62 = .ok (.getfield 43, 3) := by decide +kernel
theorem dX7_mould_65 : decode cX7_mould 65 = .ok (.getfield 268, 3) := by decide +kernel
theorem dX7_mould_68 : decode cX7_mould 68 = .ok (.goto 10, 3) := by decide +kernel
theorem dX7_mould_71 : decode cX7_mould 71 = .ok (.aload_n 0, 1) := by decide +kernel
theorem dX7_mould_72 : decode cX7_mould 72 = .ok (.getfield 43, 3) := by decide +kernel
theorem dX7_mould_75 : decode cX7_mould 75 = .ok (.getfield 272, 3) := by decide +kernel
theorem dX7_mould_78 : decode cX7_mould 78 = .ok (.lreturn, 1) := by decide +kernel
theorem dX7_drawn_0 : decode cX7_drawn 0 = .ok (.aload_n 0, 1) := by decide +kernel
theorem dX7_drawn_1 : decode cX7_drawn 1 = .ok (.invokevirtual 146, 3) := by decide +kernel
theorem dX7_drawn_4 : decode cX7_drawn 4 = .ok (.ifCond .eq 6, 3) := by decide +kernel
theorem dX7_drawn_7 : decode cX7_drawn 7 = .ok (.ldc 145, 2) := by decide +kernel
theorem dX7_drawn_9 : decode cX7_drawn 9 = .ok (.ireturn, 1) := by decide +kernel
theorem dX7_drawn_10 : decode cX7_drawn 10 = .ok (.iload_n 1, 1) := by decide +kernel
theorem dX7_drawn_11 : decode cX7_drawn 11 = .ok (.iconst 0, 1) := by decide +kernel
theorem dX7_drawn_12 : decode cX7_drawn 12 = .ok (.bipush 60, 2) := by decide +kernel
theorem dX7_drawn_14 : decode cX7_drawn 14 = .ok (.invokestatic 62, 3) := by decide +kernel
theorem dX7_drawn_17 : decode cX7_drawn 17 = .ok (.ifCond .eq 21, 3) := by decide +kernel
theorem dX7_drawn_20 : decode cX7_drawn 20 = .ok (.iload_n 2, 1) := by decide +kernel
theorem dX7_drawn_21 : decode cX7_drawn 21 = .ok (.iconst 1, 1) := by decide +kernel
theorem dX7_drawn_22 : decode cX7_drawn 22 = .ok (.ldc_w 275, 3) := by decide +kernel
theorem dX7_drawn_25 : decode cX7_drawn 25 = .ok (.invokestatic 62, 3) := by decide +kernel
theorem dX7_drawn_28 : decode cX7_drawn 28 = .ok (.ifCond .eq 10, 3) := by decide +kernel
theorem dX7_drawn_31 : decode cX7_drawn 31 = .ok (.iload_n 3, 1) := by decide +kernel
theorem dX7_drawn_32 : decode cX7_drawn 32 = .ok (.invokestatic 199, 3) := by decide +kernel
theorem dX7_drawn_35 : decode cX7_drawn 35 = .ok (.ifCond .ne 6, 3) := by decide +kernel
theorem dX7_drawn_38 : decode cX7_drawn 38 = .ok (.ldc 66, 2) := by decide +kernel
theorem dX7_drawn_40 : decode cX7_drawn 40 = .ok (.ireturn, 1) := by decide +kernel
theorem dX7_drawn_41 : decode cX7_drawn 41 = .ok (.aload_n 0, 1) := by decide +kernel
theorem dX7_drawn_42 : decode cX7_drawn 42 = .ok (.getfield 43, 3) := by decide +kernel
theorem dX7_drawn_45 : decode cX7_drawn 45 = .ok (.aload_n 0, 1) := by decide +kernel
theorem dX7_drawn_46 : decode cX7_drawn 46 = .ok (.getfield 26, 3) := by decide +kernel
theorem dX7_drawn_49 : decode cX7_drawn 49 = .ok (.iload_n 1, 1) := by decide +kernel
theorem dX7_drawn_50 : decode cX7_drawn 50 = .ok (.iload_n 2, 1) := by decide +kernel
theorem dX7_drawn_51 : decode cX7_drawn 51 = .ok (.invokevirtual 276, 3) := by decide +kernel
theorem dX7_drawn_54 : decode cX7_drawn 54 = .ok (.iload_n 3, 1) := by decide +kernel
theorem dX7_drawn_55 : decode cX7_drawn 55 = .ok (.ifCond .ne 13, 3) := by decide +kernel
theorem dX7_drawn_58 : decode cX7_drawn 58 = .ok (.aload_n 0, 1) := by decide +kernel
theorem dX7_drawn_59 : decode cX7_drawn 59 = .ok (.getfield 43, 3) := by decide +kernel
theorem dX7_drawn_62 : decode cX7_drawn 62 = .ok (.getfield 214, 3) := by decide +kernel
theorem dX7_drawn_65 : decode cX7_drawn 65 = .ok (.goto 10, 3) := by decide +kernel
theorem dX7_drawn_68 : decode cX7_drawn 68 = .ok (.aload_n 0, 1) := by decide +kernel
theorem dX7_drawn_69 : decode cX7_drawn 69 = .ok (.getfield 43, 3) := by decide +kernel
theorem dX7_drawn_72 : decode cX7_drawn 72 = .ok (.getfield 217, 3) := by decide +kernel
theorem dX7_drawn_75 : decode cX7_drawn 75 = .ok (.ireturn, 1) := by decide +kernel
theorem dX7_image_0 : decode cX7_image 0 = .ok (.iload_n 1, 1) := by decide +kernel
theorem dX7_image_1 : decode cX7_image 1 = .ok (.iconst 0, 1) := by decide +kernel
theorem dX7_image_2 : decode cX7_image 2 = .ok (.iconst 1, 1) := by decide +kernel
theorem dX7_image_3 : decode cX7_image 3 = .ok (.invokestatic 62, 3) := by decide +kernel
theorem dX7_image_6 : decode cX7_image 6 = .ok (.ifCond .ne 6, 3) := by decide +kernel
theorem dX7_image_9 : decode cX7_image 9 = .ok (.ldc 66, 2) := by decide +kernel
theorem dX7_image_11 : decode cX7_image 11 = .ok (.ireturn, 1) := by decide +kernel
theorem dX7_image_12 : decode cX7_image 12 = .ok (.aload_n 0, 1) := by decide +kernel
theorem dX7_image_13 : decode cX7_image 13 = .ok (.invokevirtual 146, 3) := by decide +kernel
theorem dX7_image_16 : decode cX7_image 16 = .ok (.ifCond .eq 6, 3) := by decide +kernel
theorem dX7_image_19 : decode cX7_image 19 = .ok (.ldc 145, 2) := by decide +kernel
theorem dX7_image_21 : decode cX7_image 21 = .ok (.ireturn, 1) := by decide +kernel
theorem dX7_image_22 : decode cX7_image 22 = .ok (.aload_n 0, 1) := by decide +kernel
theorem dX7_image_23 : decode cX7_image 23 = .ok (.getfield 54, 3) := by decide +kernel
theorem dX7_image_26 : decode cX7_image 26 = .ok (.iload_n 1, 1) := by decide +kernel
theorem dX7_image_27 : decode cX7_image 27 = .ok (.aaload, 1) := by decide +kernel
theorem dX7_image_28 : decode cX7_image 28 = .ok (.ifnonnull 16, 3) := by decide +kernel
theorem dX7_image_31 : decode cX7_image 31 = .ok (.aload_n 0, 1) := by decide +kernel
theorem dX7_image_32 : decode cX7_image 32 = .ok (.getfield 54, 3) := by decide +kernel
theorem dX7_image_35 : decode cX7_image 35 = .ok (.iload_n 1, 1) := by decide +kernel
theorem dX7_image_36 : decode cX7_image 36 = .ok (.new 23, 3) := by decide +kernel
theorem dX7_image_39 : decode cX7_image 39 = .ok (.dup, 1) := by decide +kernel
theorem dX7_image_40 : decode cX7_image 40 = .ok (.invokespecial 25, 3) := by decide +kernel
theorem dX7_image_43 : decode cX7_image 43 = .ok (.aastore, 1) := by decide +kernel
theorem dX7_image_44 : decode cX7_image 44 = .ok (.aload_n 0, 1) := by decide +kernel
theorem dX7_image_45 : decode cX7_image 45 = .ok (.getfield 54, 3) := by decide +kernel
theorem dX7_image_48 : decode cX7_image 48 = .ok (.iload_n 1, 1) := by decide +kernel
theorem dX7_image_49 : decode cX7_image 49 = .ok (.aaload, 1) := by decide +kernel
theorem dX7_image_50 : decode cX7_image 50 = .ok (.aload_n 0, 1) := by decide +kernel
theorem dX7_image_51 : decode cX7_image 51 = .ok (.getfield 26, 3) := by decide +kernel
theorem dX7_image_54 : decode cX7_image 54 = .ok (.invokevirtual 131, 3) := by decide +kernel
theorem dX7_image_57 : decode cX7_image 57 = .ok (.iconst 1, 1) := by decide +kernel
theorem dX7_image_58 : decode cX7_image 58 = .ok (.ireturn, 1) := by decide +kernel
theorem dX7_restore_0 : decode cX7_restore 0 = .ok (.iload_n 1, 1) := by decide +kernel
theorem dX7_restore_1 : decode cX7_restore 1 = .ok (.iconst 0, 1) := by decide +kernel
theorem dX7_restore_2 : decode cX7_restore 2 = .ok (.iconst 1, 1) := by decide +kernel
theorem dX7_restore_3 : decode cX7_restore 3 = .ok (.invokestatic 62, 3) := by decide +kernel
theorem dX7_restore_6 : decode cX7_restore 6 = .ok (.ifCond .ne 6, 3) := by decide +kernel
theorem dX7_restore_9 : decode cX7_restore 9 = .ok (.ldc 66, 2) := by decide +kernel
theorem dX7_restore_11 : decode cX7_restore 11 = .ok (.ireturn, 1) := by decide +kernel
theorem dX7_restore_12 : decode cX7_restore 12 = .ok (.aload_n 0, 1) := by decide +kernel
theorem dX7_restore_13 : decode cX7_restore 13 = .ok (.getfield 54, 3) := by decide +kernel
theorem dX7_restore_16 : decode cX7_restore 16 = .ok (.iload_n 1, 1) := by decide +kernel
theorem dX7_restore_17 : decode cX7_restore 17 = .ok (.aaload, 1) := by decide +kernel
theorem dX7_restore_18 : decode cX7_restore 18 = .ok (.ifnonnull 6, 3) := by decide +kernel
theorem dX7_restore_21 : decode cX7_restore 21 = .ok (.ldc 145, 2) := by decide +kernel
theorem dX7_restore_23 : decode cX7_restore 23 = .ok (.ireturn, 1) := by decide +kernel
theorem dX7_restore_24 : decode cX7_restore 24 = .ok (.aload_n 0, 1) := by decide +kernel
theorem dX7_restore_25 : decode cX7_restore 25 = .ok (.getfield 26, 3) := by decide +kernel
theorem dX7_restore_28 : decode cX7_restore 28 = .ok (.aload_n 0, 1) := by decide +kernel
theorem dX7_restore_29 : decode cX7_restore 29 = .ok (.getfield 54, 3) := by decide +kernel
theorem dX7_restore_32 : decode cX7_restore 32 = .ok (.iload_n 1, 1) := by decide +kernel
theorem dX7_restore_33 : decode cX7_restore 33 = .ok (.aaload, 1) := by decide +kernel
theorem dX7_restore_34 : decode cX7_restore 34 = .ok (.invokevirtual 131, 3) := by decide +kernel
theorem dX7_restore_37 : decode cX7_restore 37 = .ok (.aload_n 0, 1) := by decide +kernel
theorem dX7_restore_38 : decode cX7_restore 38 = .ok (.getfield 36, 3) := by decide +kernel
theorem dX7_restore_41 : decode cX7_restore 41 = .ok (.invokevirtual 135, 3) := by decide +kernel
theorem dX7_restore_44 : decode cX7_restore 44 = .ok (.iconst 1, 1) := by decide +kernel
theorem dX7_restore_45 : decode cX7_restore 45 = .ok (.ireturn, 1) := by decide +kernel
theorem dX7_kind_0 : decode cX7_kind 0 = .ok (.aload_n 0, 1) := by decide +kernel
theorem dX7_kind_1 : decode cX7_kind 1 = .ok (.iload_n 1, 1) := by decide +kernel
theorem dX7_kind_2 : decode cX7_kind 2 = .ok (.invokevirtual 174, 3) := by decide +kernel
theorem dX7_kind_5 : decode cX7_kind 5 = .ok (.ifCond .eq 15, 3) := by decide +kernel
theorem dX7_kind_8 : decode cX7_kind 8 = .ok (.aload_n 0, 1) := by decide +kernel
theorem dX7_kind_9 : decode cX7_kind 9 = .ok (.getfield 26, 3) := by decide +kernel
theorem dX7_kind_12 : decode cX7_kind 12 = .ok (.getfield 280, 3) := by decide +kernel
theorem dX7_kind_15 : decode cX7_kind 15 = .ok (.iload_n 1, 1) := by decide +kernel
theorem dX7_kind_16 : decode cX7_kind 16 = .ok (.iaload, 1) := by decide +kernel
theorem dX7_kind_17 : decode cX7_kind 17 = .ok (.goto 5, 3) := by decide +kernel
theorem dX7_kind_20 : decode cX7_kind 20 = .ok (.ldc 66, 2) := by decide +kernel
theorem dX7_kind_22 : decode cX7_kind 22 = .ok (.ireturn, 1) := by decide +kernel
theorem dX7_as_0 : decode cX7_as 0 = .ok (.aload_n 0, 1) := by decide +kernel
theorem dX7_as_1 : decode cX7_as 1 = .ok (.iload_n 1, 1) := by decide +kernel
theorem dX7_as_2 : decode cX7_as 2 = .ok (.invokevirtual 174, 3) := by decide +kernel
theorem dX7_as_5 : decode cX7_as 5 = .ok (.ifCond .eq 12, 3) := by decide +kernel
theorem dX7_as_8 : decode cX7_as 8 = .ok (.iload_n 2, 1) := by decide +kernel
theorem dX7_as_9 : decode cX7_as 9 = .ok (.iconst 0, 1) := by decide +kernel
theorem dX7_as_10 : decode cX7_as 10 = .ok (.iconst 5, 1) := by decide +kernel
theorem dX7_as_11 : decode cX7_as 11 = .ok (.invokestatic 62, 3) := by decide +kernel
theorem dX7_as_14 : decode cX7_as 14 = .ok (.ifCond .ne 6, 3) := by decide +kernel
theorem dX7_as_17 : decode cX7_as 17 = .ok (.ldc 66, 2) := by decide +kernel
theorem dX7_as_19 : decode cX7_as 19 = .ok (.ireturn, 1) := by decide +kernel
theorem dX7_as_20 : decode cX7_as 20 = .ok (.aload_n 0, 1) := by decide +kernel
theorem dX7_as_21 : decode cX7_as 21 = .ok (.getfield 26, 3) := by decide +kernel
theorem dX7_as_24 : decode cX7_as 24 = .ok (.getfield 280, 3) := by decide +kernel
theorem dX7_as_27 : decode cX7_as 27 = .ok (.iload_n 1, 1) := by decide +kernel
theorem dX7_as_28 : decode cX7_as 28 = .ok (.iaload, 1) := by decide +kernel
theorem dX7_as_29 : decode cX7_as 29 = .ok (.iload_n 2, 1) := by decide +kernel
theorem dX7_as_30 : decode cX7_as 30 = .ok (.invokestatic 283, 3) := by decide +kernel
theorem dX7_as_33 : decode cX7_as 33 = .ok (.ifCond .eq 11, 3) := by decide +kernel
theorem dX7_as_36 : decode cX7_as 36 = .ok (.aload_n 0, 1) := by decide +kernel
theorem dX7_as_37 : decode cX7_as 37 = .ok (.iload_n 1, 1) := by decide +kernel
theorem dX7_as_38 : decode cX7_as 38 = .ok (.invokevirtual 75, 3) := by decide +kernel
theorem dX7_as_41 : decode cX7_as 41 = .ok (.goto 8, 3) := by decide +kernel
theorem dX7_as_44 : decode cX7_as 44 = .ok (.aload_n 0, 1) := by decide +kernel
theorem dX7_as_45 : decode cX7_as 45 = .ok (.iconst 3, 1) := by decide +kernel
theorem dX7_as_46 : decode cX7_as 46 = .ok (.invokevirtual 67, 3) := by decide +kernel
theorem dX7_as_49 : decode cX7_as 49 = .ok (.ireturn, 1) := by decide +kernel
theorem dX7_ask_0 : decode cX7_ask 0 = .ok (.aload_n 0, 1) := by decide +kernel
theorem dX7_ask_1 : decode cX7_ask 1 = .ok (.iload_n 1, 1) := by decide +kernel
theorem dX7_ask_2 : decode cX7_ask 2 = .ok (.invokevirtual 174, 3) := by decide +kernel
theorem dX7_ask_5 : decode cX7_ask 5 = .ok (.ifCond .eq 10, 3) := by decide +kernel
theorem dX7_ask_8 : decode cX7_ask 8 = .ok (.iload_n 2, 1) := by decide +kernel
theorem dX7_ask_9 : decode cX7_ask 9 = .ok (.invokestatic 199, 3) := by decide +kernel
theorem dX7_ask_12 : decode cX7_ask 12 = .ok (.ifCond .ne 6, 3) := by decide +kernel
theorem dX7_ask_15 : decode cX7_ask 15 = .ok (.ldc 66, 2) := by decide +kernel
theorem dX7_ask_17 : decode cX7_ask 17 = .ok (.ireturn, 1) := by decide +kernel
theorem dX7_ask_18 : decode cX7_ask 18 = .ok (.aload_n 0, 1) := by decide +kernel
theorem dX7_ask_19 : decode cX7_ask 19 = .ok (.getfield 50, 3) := by decide +kernel
theorem dX7_ask_22 : decode cX7_ask 22 = .ok (.aload_n 0, 1) := by decide +kernel
theorem dX7_ask_23 : decode cX7_ask 23 = .ok (.getfield 26, 3) := by decide +kernel
theorem dX7_ask_26 : decode cX7_ask 26 = .ok (.iload_n 1, 1) := by decide +kernel
theorem dX7_ask_27 : decode cX7_ask 27 = .ok (.iload_n 2, 1) := by decide +kernel
theorem dX7_ask_28 : decode cX7_ask 28 = .ok (.invokevirtual 286, 3) := by decide +kernel
theorem dX7_ask_31 : decode cX7_ask 31 = .ok (.ireturn, 1) := by decide +kernel
theorem dX7_trace_0 : decode cX7_trace 0 = .ok (.iload_n 1, 1) := by decide +kernel
theorem dX7_trace_1 : decode cX7_trace 1 = .ok (.iconst 0, 1) := by decide +kernel
theorem dX7_trace_2 : decode cX7_trace 2 = .ok (.aload_n 0, 1) := by decide +kernel
theorem dX7_trace_3 : decode cX7_trace 3 = .ok (.getfield 50, 3) := by decide +kernel
theorem dX7_trace_6 : decode cX7_trace 6 = .ok (.getfield 289, 3) := by decide +kernel
theorem dX7_trace_9 : decode cX7_trace 9 = .ok (.iconst 1, 1) := by decide +kernel
theorem dX7_trace_10 : decode cX7_trace 10 = .ok (.isub, 1) := by decide +kernel
theorem dX7_trace_11 : decode cX7_trace 11 = .ok (.invokestatic 62, 3) := by decide +kernel
theorem dX7_trace_14 : decode cX7_trace 14 = .ok (.ifCond .eq 15, 3) := by decide +kernel
theorem dX7_trace_17 : decode cX7_trace 17 = .ok (.aload_n 0, 1) := by decide +kernel
theorem dX7_trace_18 : decode cX7_trace 18 = .ok (.getfield 50, 3) := by decide +kernel
theorem dX7_trace_21 : decode cX7_trace 21 = .ok (.getfield 290, 3) := by decide +kernel
theorem dX7_trace_24 : decode cX7_trace 24 = .ok (.iload_n 1, 1) := by decide +kernel
theorem dX7_trace_25 : decode cX7_trace 25 = .ok (.iaload, 1) := by decide +kernel
theorem dX7_trace_26 : decode cX7_trace 26 = .ok (.goto 5, 3) := by decide +kernel
theorem dX7_trace_29 : decode cX7_trace 29 = .ok (.ldc 220, 2) := by decide +kernel
theorem dX7_trace_31 : decode cX7_trace 31 = .ok (.ireturn, 1) := by decide +kernel
theorem dX7_count_0 : decode cX7_count 0 = .ok (.iload_n 1, 1) := by decide +kernel
theorem dX7_count_1 : decode cX7_count 1 = .ok (.tableswitch 119 0 7 #[47, 55, 63, 71, 79, 91, 103, 111], 47) := by decide +kernel
theorem dX7_count_48 : decode cX7_count 48 = .ok (.aload_n 0, 1) := by decide +kernel
theorem dX7_count_49 : decode cX7_count 49 = .ok (.getfield 10, 3) := by decide +kernel
theorem dX7_count_52 : decode cX7_count 52 = .ok (.invokevirtual 293, 3) := by decide +kernel
theorem dX7_count_55 : decode cX7_count 55 = .ok (.ireturn, 1) := by decide +kernel
theorem dX7_count_56 : decode cX7_count 56 = .ok (.aload_n 0, 1) := by decide +kernel
theorem dX7_count_57 : decode cX7_count 57 = .ok (.getfield 26, 3) := by decide +kernel
theorem dX7_count_60 : decode cX7_count 60 = .ok (.getfield 138, 3) := by decide +kernel
theorem dX7_count_63 : decode cX7_count 63 = .ok (.ireturn, 1) := by decide +kernel
theorem dX7_count_64 : decode cX7_count 64 = .ok (.aload_n 0, 1) := by decide +kernel
theorem dX7_count_65 : decode cX7_count 65 = .ok (.getfield 26, 3) := by decide +kernel
theorem dX7_count_68 : decode cX7_count 68 = .ok (.getfield 150, 3) := by decide +kernel
theorem dX7_count_71 : decode cX7_count 71 = .ok (.ireturn, 1) := by decide +kernel
theorem dX7_count_72 : decode cX7_count 72 = .ok (.aload_n 0, 1) := by decide +kernel
theorem dX7_count_73 : decode cX7_count 73 = .ok (.getfield 26, 3) := by decide +kernel
theorem dX7_count_76 : decode cX7_count 76 = .ok (.getfield 196, 3) := by decide +kernel
theorem dX7_count_79 : decode cX7_count 79 = .ok (.ireturn, 1) := by decide +kernel
theorem dX7_count_80 : decode cX7_count 80 = .ok (.aload_n 0, 1) := by decide +kernel
theorem dX7_count_81 : decode cX7_count 81 = .ok (.getfield 26, 3) := by decide +kernel
theorem dX7_count_84 : decode cX7_count 84 = .ok (.iconst 0, 1) := by decide +kernel
theorem dX7_count_85 : decode cX7_count 85 = .ok (.invokevirtual 159, 3) := by decide +kernel
theorem dX7_count_88 : decode cX7_count 88 = .ok (.invokestatic 296, 3) := by decide +kernel
theorem dX7_count_91 : decode cX7_count 91 = .ok (.ireturn, 1) := by decide +kernel
theorem dX7_count_92 : decode cX7_count 92 = .ok (.aload_n 0, 1) := by decide +kernel
theorem dX7_count_93 : decode cX7_count 93 = .ok (.getfield 26, 3) := by decide +kernel
theorem dX7_count_96 : decode cX7_count 96 = .ok (.iconst 1, 1) := by decide +kernel
theorem dX7_count_97 : decode cX7_count 97 = .ok (.invokevirtual 159, 3) := by decide +kernel
theorem dX7_count_100 : decode cX7_count 100 = .ok (.invokestatic 296, 3) := by decide +kernel
theorem dX7_count_103 : decode cX7_count 103 = .ok (.ireturn, 1) := by decide +kernel
theorem dX7_count_104 : decode cX7_count 104 = .ok (.aload_n 0, 1) := by decide +kernel
theorem dX7_count_105 : decode cX7_count 105 = .ok (.getfield 36, 3) := by decide +kernel
theorem dX7_count_108 : decode cX7_count 108 = .ok (.getfield 144, 3) := by decide +kernel
theorem dX7_count_111 : decode cX7_count 111 = .ok (.ireturn, 1) := by decide +kernel
theorem dX7_count_112 : decode cX7_count 112 = .ok (.aload_n 0, 1) := by decide +kernel
theorem dX7_count_113 : decode cX7_count 113 = .ok (.getfield 19, 3) := by decide +kernel
theorem dX7_count_116 : decode cX7_count 116 = .ok (.getfield 112, 3) := by decide +kernel
theorem dX7_count_119 : decode cX7_count 119 = .ok (.ireturn, 1) := by decide +kernel
theorem dX7_count_120 : decode cX7_count 120 = .ok (.ldc 66, 2) := by decide +kernel
theorem dX7_count_122 : decode cX7_count 122 = .ok (.ireturn, 1) := by decide +kernel
theorem dX7_status_0 : decode cX7_status 0 = .ok (.aload_n 0, 1) := by decide +kernel
theorem dX7_status_1 : decode cX7_status 1 = .ok (.getfield 301, 3) := by decide +kernel
theorem dX7_status_4 : decode cX7_status 4 = .ok (.ireturn, 1) := by decide +kernel
theorem dX7_found_0 : decode cX7_found 0 = .ok (.aload_n 0, 1) := by decide +kernel
theorem dX7_found_1 : decode cX7_found 1 = .ok (.iload_n 1, 1) := by decide +kernel
theorem dX7_found_2 : decode cX7_found 2 = .ok (.putfield 301, 3) := by decide +kernel
theorem dX7_found_5 : decode cX7_found 5 = .ok (.ldc_w 304, 3) := by decide +kernel
theorem dX7_found_8 : decode cX7_found 8 = .ok (.iload_n 1, 1) := by decide +kernel
theorem dX7_found_9 : decode cX7_found 9 = .ok (.isub, 1) := by decide +kernel
theorem dX7_found_10 : decode cX7_found 10 = .ok (.ireturn, 1) := by decide +kernel
theorem dX7_fine_0 : decode cX7_fine 0 = .ok (.aload_n 0, 1) := by decide +kernel
theorem dX7_fine_1 : decode cX7_fine 1 = .ok (.iconst 0, 1) := by decide +kernel
theorem dX7_fine_2 : decode cX7_fine 2 = .ok (.putfield 301, 3) := by decide +kernel
theorem dX7_fine_5 : decode cX7_fine 5 = .ok (.iload_n 1, 1) := by decide +kernel
theorem dX7_fine_6 : decode cX7_fine 6 = .ok (.ireturn, 1) := by decide +kernel
theorem dX7_noCellar_0 : decode cX7_noCellar 0 = .ok (.aload_n 0, 1) := by decide +kernel
theorem dX7_noCellar_1 : decode cX7_noCellar 1 = .ok (.getfield 26, 3) := by decide +kernel
theorem dX7_noCellar_4 : decode cX7_noCellar 4 = .ok (.getfield 138, 3) := by decide +kernel
theorem dX7_noCellar_7 : decode cX7_noCellar 7 = .ok (.ifCond .ne 7, 3) := by decide +kernel
theorem dX7_noCellar_10 : decode cX7_noCellar 10 = .ok (.iconst 1, 1) := by decide +kernel
theorem dX7_noCellar_11 : decode cX7_noCellar 11 = .ok (.goto 4, 3) := by decide +kernel
theorem dX7_noCellar_14 : decode cX7_noCellar 14 = .ok (.iconst 0, 1) := by decide +kernel
theorem dX7_noCellar_15 : decode cX7_noCellar 15 = .ok (.ireturn, 1) := by decide +kernel
theorem dX7_isJar_0 : decode cX7_isJar 0 = .ok (.iload_n 1, 1) := by decide +kernel
theorem dX7_isJar_1 : decode cX7_isJar 1 = .ok (.iconst 0, 1) := by decide +kernel
theorem dX7_isJar_2 : decode cX7_isJar 2 = .ok (.aload_n 0, 1) := by decide +kernel
theorem dX7_isJar_3 : decode cX7_isJar 3 = .ok (.getfield 26, 3) := by decide +kernel
theorem dX7_isJar_6 : decode cX7_isJar 6 = .ok (.getfield 138, 3) := by decide +kernel
theorem dX7_isJar_9 : decode cX7_isJar 9 = .ok (.iconst 1, 1) := by decide +kernel
theorem dX7_isJar_10 : decode cX7_isJar 10 = .ok (.isub, 1) := by decide +kernel
theorem dX7_isJar_11 : decode cX7_isJar 11 = .ok (.invokestatic 62, 3) := by decide +kernel
theorem dX7_isJar_14 : decode cX7_isJar 14 = .ok (.ireturn, 1) := by decide +kernel
theorem dX7_isPlace_0 : decode cX7_isPlace 0 = .ok (.iload_n 1, 1) := by decide +kernel
theorem dX7_isPlace_1 : decode cX7_isPlace 1 = .ok (.iconst 0, 1) := by decide +kernel
theorem dX7_isPlace_2 : decode cX7_isPlace 2 = .ok (.aload_n 0, 1) := by decide +kernel
theorem dX7_isPlace_3 : decode cX7_isPlace 3 = .ok (.getfield 26, 3) := by decide +kernel
theorem dX7_isPlace_6 : decode cX7_isPlace 6 = .ok (.getfield 138, 3) := by decide +kernel
theorem dX7_isPlace_9 : decode cX7_isPlace 9 = .ok (.iconst 1, 1) := by decide +kernel
theorem dX7_isPlace_10 : decode cX7_isPlace 10 = .ok (.isub, 1) := by decide +kernel
theorem dX7_isPlace_11 : decode cX7_isPlace 11 = .ok (.invokestatic 62, 3) := by decide +kernel
theorem dX7_isPlace_14 : decode cX7_isPlace 14 = .ok (.ireturn, 1) := by decide +kernel
theorem dX7_isSneeze_0 : decode cX7_isSneeze 0 = .ok (.iload_n 1, 1) := by decide +kernel
theorem dX7_isSneeze_1 : decode cX7_isSneeze 1 = .ok (.invokestatic 190, 3) := by decide +kernel
theorem dX7_isSneeze_4 : decode cX7_isSneeze 4 = .ok (.ifCond .eq 15, 3) := by decide +kernel
theorem dX7_isSneeze_7 : decode cX7_isSneeze 7 = .ok (.aload_n 0, 1) := by decide +kernel
theorem dX7_isSneeze_8 : decode cX7_isSneeze 8 = .ok (.iload_n 2, 1) := by decide +kernel
theorem dX7_isSneeze_9 : decode cX7_isSneeze 9 = .ok (.invokevirtual 248, 3) := by decide +kernel
theorem dX7_isSneeze_12 : decode cX7_isSneeze 12 = .ok (.ifCond .eq 7, 3) := by decide +kernel
theorem dX7_isSneeze_15 : decode cX7_isSneeze 15 = .ok (.iconst 1, 1) := by decide +kernel
theorem dX7_isSneeze_16 : decode cX7_isSneeze 16 = .ok (.goto 4, 3) := by decide +kernel
theorem dX7_isSneeze_19 : decode cX7_isSneeze 19 = .ok (.iconst 0, 1) := by decide +kernel
theorem dX7_isSneeze_20 : decode cX7_isSneeze 20 = .ok (.ireturn, 1) := by decide +kernel
theorem dX7_isNote_0 : decode cX7_isNote 0 = .ok (.iload_n 0, 1) := by decide +kernel
theorem dX7_isNote_1 : decode cX7_isNote 1 = .ok (.iconst 0, 1) := by decide +kernel
theorem dX7_isNote_2 : decode cX7_isNote 2 = .ok (.bipush 11, 2) := by decide +kernel
theorem dX7_isNote_4 : decode cX7_isNote 4 = .ok (.invokestatic 62, 3) := by decide +kernel
theorem dX7_isNote_7 : decode cX7_isNote 7 = .ok (.ireturn, 1) := by decide +kernel
theorem dX7_isRow_0 : decode cX7_isRow 0 = .ok (.iload_n 0, 1) := by decide +kernel
theorem dX7_isRow_1 : decode cX7_isRow 1 = .ok (.iconst 0, 1) := by decide +kernel
theorem dX7_isRow_2 : decode cX7_isRow 2 = .ok (.bipush 7, 2) := by decide +kernel
theorem dX7_isRow_4 : decode cX7_isRow 4 = .ok (.invokestatic 62, 3) := by decide +kernel
theorem dX7_isRow_7 : decode cX7_isRow 7 = .ok (.ireturn, 1) := by decide +kernel
theorem dX7_isHalf_0 : decode cX7_isHalf 0 = .ok (.iload_n 0, 1) := by decide +kernel
theorem dX7_isHalf_1 : decode cX7_isHalf 1 = .ok (.iconst 0, 1) := by decide +kernel
theorem dX7_isHalf_2 : decode cX7_isHalf 2 = .ok (.iconst 1, 1) := by decide +kernel
theorem dX7_isHalf_3 : decode cX7_isHalf 3 = .ok (.invokestatic 62, 3) := by decide +kernel
theorem dX7_isHalf_6 : decode cX7_isHalf 6 = .ok (.ireturn, 1) := by decide +kernel
theorem dX7_within_0 : decode cX7_within 0 = .ok (.iload_n 0, 1) := by decide +kernel
theorem dX7_within_1 : decode cX7_within 1 = .ok (.iload_n 1, 1) := by decide +kernel
theorem dX7_within_2 : decode cX7_within 2 = .ok (.if_icmp .lt 12, 3) := by decide +kernel
theorem dX7_within_5 : decode cX7_within 5 = .ok (.iload_n 0, 1) := by decide +kernel
theorem dX7_within_6 : decode cX7_within 6 = .ok (.iload_n 2, 1) := by decide +kernel
theorem dX7_within_7 : decode cX7_within 7 = .ok (.if_icmp .gt 7, 3) := by decide +kernel
theorem dX7_within_10 : decode cX7_within 10 = .ok (.iconst 1, 1) := by decide +kernel
theorem dX7_within_11 : decode cX7_within 11 = .ok (.goto 4, 3) := by decide +kernel
theorem dX7_within_14 : decode cX7_within 14 = .ok (.iconst 0, 1) := by decide +kernel
theorem dX7_within_15 : decode cX7_within 15 = .ok (.ireturn, 1) := by decide +kernel
theorem dX7_has_0 : decode cX7_has 0 = .ok (.iload_n 0, 1) := by decide +kernel
theorem dX7_has_1 : decode cX7_has 1 = .ok (.iload_n 1, 1) := by decide +kernel
theorem dX7_has_2 : decode cX7_has 2 = .ok (.ishr, 1) := by decide +kernel
theorem dX7_has_3 : decode cX7_has 3 = .ok (.iconst 1, 1) := by decide +kernel
theorem dX7_has_4 : decode cX7_has 4 = .ok (.iand, 1) := by decide +kernel
theorem dX7_has_5 : decode cX7_has 5 = .ok (.ifCond .eq 7, 3) := by decide +kernel
theorem dX7_has_8 : decode cX7_has 8 = .ok (.iconst 1, 1) := by decide +kernel
theorem dX7_has_9 : decode cX7_has 9 = .ok (.goto 4, 3) := by decide +kernel
theorem dX7_has_12 : decode cX7_has 12 = .ok (.iconst 0, 1) := by decide +kernel
theorem dX7_has_13 : decode cX7_has 13 = .ok (.ireturn, 1) := by decide +kernel
theorem dX7_isA_0 : decode cX7_isA 0 = .ok (.iload_n 0, 1) := by decide +kernel
theorem dX7_isA_1 : decode cX7_isA 1 = .ok (.istore_n 2, 1) := by decide +kernel
theorem dX7_isA_2 : decode cX7_isA 2 = .ok (.iconst 0, 1) := by decide +kernel
theorem dX7_isA_3 : decode cX7_isA 3 = .ok (.istore_n 3, 1) := by decide +kernel
theorem dX7_isA_4 : decode cX7_isA 4 = .ok (.iload_n 3, 1) := by decide +kernel
theorem dX7_isA_5 : decode cX7_isA 5 = .ok (.bipush 6, 2) := by decide +kernel
theorem dX7_isA_7 : decode cX7_isA 7 = .ok (.if_icmp .ge 31, 3) := by decide +kernel
theorem dX7_isA_10 : decode cX7_isA 10 = .ok (.iload_n 2, 1) := by decide +kernel
theorem dX7_isA_11 : decode cX7_isA 11 = .ok (.iconst 0, 1) := by decide +kernel
theorem dX7_isA_12 : decode cX7_isA 12 = .ok (.iconst 5, 1) := by decide +kernel
theorem dX7_isA_13 : decode cX7_isA 13 = .ok (.invokestatic 62, 3) := by decide +kernel
theorem dX7_isA_16 : decode cX7_isA 16 = .ok (.ifCond .eq 22, 3) := by decide +kernel
theorem dX7_isA_19 : decode cX7_isA 19 = .ok (.iload_n 2, 1) := by decide +kernel
theorem dX7_isA_20 : decode cX7_isA 20 = .ok (.iload_n 1, 1) := by decide +kernel
theorem dX7_isA_21 : decode cX7_isA 21 = .ok (.if_icmp .ne 5, 3) := by decide +kernel
theorem dX7_isA_24 : decode cX7_isA 24 = .ok (.iconst 1, 1) := by decide +kernel
theorem dX7_isA_25 : decode cX7_isA 25 = .ok (.ireturn, 1) := by decide +kernel
theorem dX7_isA_26 : decode cX7_isA 26 = .ok (.getstatic 305, 3) := by decide +kernel
theorem dX7_isA_29 : decode cX7_isA 29 = .ok (.iload_n 2, 1) := by decide +kernel
theorem dX7_isA_30 : decode cX7_isA 30 = .ok (.iaload, 1) := by decide +kernel
theorem dX7_isA_31 : decode cX7_isA 31 = .ok (.istore_n 2, 1) := by decide +kernel
theorem dX7_isA_32 : decode cX7_isA 32 = .ok (.iinc 3 1, 3) := by decide +kernel
theorem dX7_isA_35 : decode cX7_isA 35 = .ok (.goto (-31), 3) := by decide +kernel
theorem dX7_isA_38 : decode cX7_isA 38 = .ok (.iconst 0, 1) := by decide +kernel
theorem dX7_isA_39 : decode cX7_isA 39 = .ok (.ireturn, 1) := by decide +kernel
