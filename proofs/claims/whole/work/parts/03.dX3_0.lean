theorem dX3_init_0 : decode cX3_init 0 = .ok (.aload_n 0, 1) := by decide +kernel
theorem dX3_init_1 : decode cX3_init 1 = .ok (.invokespecial 3, 3) := by decide +kernel
theorem dX3_init_4 : decode cX3_init 4 = .ok (.aload_n 0, 1) := by decide +kernel
theorem dX3_init_5 : decode cX3_init 5 = .ok (.bipush 12, 2) := by decide +kernel
theorem dX3_init_7 : decode cX3_init 7 = .ok (.newarray .int, 2) := by decide +kernel
theorem dX3_init_9 : decode cX3_init 9 = .ok (.putfield 9, 3) := by decide +kernel
theorem dX3_init_12 : decode cX3_init 12 = .ok (.aload_n 0, 1) := by decide +kernel
theorem dX3_init_13 : decode cX3_init 13 = .ok (.bipush 8, 2) := by decide +kernel
theorem dX3_init_15 : decode cX3_init 15 = .ok (.newarray .int, 2) := by decide +kernel
theorem dX3_init_17 : decode cX3_init 17 = .ok (.putfield 15, 3) := by decide +kernel
theorem dX3_init_20 : decode cX3_init 20 = .ok (.aload_n 0, 1) := by decide +kernel
theorem dX3_init_21 : decode cX3_init 21 = .ok (.bipush 8, 2) := by decide +kernel
theorem dX3_init_23 : decode cX3_init 23 = .ok (.newarray .int, 2) := by decide +kernel
theorem dX3_init_25 : decode cX3_init 25 = .ok (.putfield 18, 3) := by decide +kernel
theorem dX3_init_28 : decode cX3_init 28 = .ok (.return_, 1) := by decide +kernel
theorem dX3_tune_0 : decode cX3_tune 0 = .ok (.aload_n 0, 1) := by decide +kernel
theorem dX3_tune_1 : decode cX3_tune 1 = .ok (.aload_n 1, 1) := by decide +kernel
theorem dX3_tune_2 : decode cX3_tune 2 = .ok (.getfield 21, 3) := by decide +kernel
theorem dX3_tune_5 : decode cX3_tune 5 = .ok (.putfield 27, 3) := by decide +kernel
theorem dX3_tune_8 : decode cX3_tune 8 = .ok (.aload_n 0, 1) := by decide +kernel
theorem dX3_tune_9 : decode cX3_tune 9 = .ok (.iconst 0, 1) := by decide +kernel
theorem dX3_tune_10 : decode cX3_tune 10 = .ok (.putfield 28, 3) := by decide +kernel
theorem dX3_tune_13 : decode cX3_tune 13 = .ok (.iconst 0, 1) := by decide +kernel
theorem dX3_tune_14 : decode cX3_tune 14 = .ok (.istore_n 2, 1) := by decide +kernel
theorem dX3_tune_15 : decode cX3_tune 15 = .ok (.iload_n 2, 1) := by decide +kernel
theorem dX3_tune_16 : decode cX3_tune 16 = .ok (.bipush 12, 2) := by decide +kernel
theorem dX3_tune_18 : decode cX3_tune 18 = .ok (.if_icmp .ge 20, 3) := by decide +kernel
theorem dX3_tune_21 : decode cX3_tune 21 = .ok (.aload_n 0, 1) := by decide +kernel
theorem dX3_tune_22 : decode cX3_tune 22 = .ok (.getfield 9, 3) := by decide +kernel
theorem dX3_tune_25 : decode cX3_tune 25 = .ok (.iload_n 2, 1) := by decide +kernel
theorem dX3_tune_26 : decode cX3_tune 26 = .ok (.aload_n 1, 1) := by decide +kernel
theorem dX3_tune_27 : decode cX3_tune 27 = .ok (.iload_n 2, 1) := by decide +kernel
theorem dX3_tune_28 : decode cX3_tune 28 = .ok (.invokestatic 31, 3) := by decide +kernel
theorem dX3_tune_31 : decode cX3_tune 31 = .ok (.iastore, 1) := by decide +kernel
theorem dX3_tune_32 : decode cX3_tune 32 = .ok (.iinc 2 1, 3) := by decide +kernel
theorem dX3_tune_35 : decode cX3_tune 35 = .ok (.goto (-20), 3) := by decide +kernel
theorem dX3_tune_38 : decode cX3_tune 38 = .ok (.iconst 0, 1) := by decide +kernel
theorem dX3_tune_39 : decode cX3_tune 39 = .ok (.istore_n 2, 1) := by decide +kernel
theorem dX3_tune_40 : decode cX3_tune 40 = .ok (.iload_n 2, 1) := by decide +kernel
theorem dX3_tune_41 : decode cX3_tune 41 = .ok (.aload_n 0, 1) := by decide +kernel
theorem dX3_tune_42 : decode cX3_tune 42 = .ok (.getfield 27, 3) := by decide +kernel
theorem dX3_tune_45 : decode cX3_tune 45 = .ok (.if_icmp .ge 20, 3) := by decide +kernel
theorem dX3_tune_48 : decode cX3_tune 48 = .ok (.aload_n 0, 1) := by decide +kernel
theorem dX3_tune_49 : decode cX3_tune 49 = .ok (.getfield 15, 3) := by decide +kernel
theorem dX3_tune_52 : decode cX3_tune 52 = .ok (.iload_n 2, 1) := by decide +kernel
theorem dX3_tune_53 : decode cX3_tune 53 = .ok (.aload_n 1, 1) := by decide +kernel
theorem dX3_tune_54 : decode cX3_tune 54 = .ok (.iload_n 2, 1) := by decide +kernel
theorem dX3_tune_55 : decode cX3_tune 55 = .ok (.invokestatic 35, 3) := by decide +kernel
theorem dX3_tune_58 : decode cX3_tune 58 = .ok (.iastore, 1) := by decide +kernel
theorem dX3_tune_59 : decode cX3_tune 59 = .ok (.iinc 2 1, 3) := by decide +kernel
theorem dX3_tune_62 : decode cX3_tune 62 = .ok (.goto (-22), 3) := by decide +kernel
theorem dX3_tune_65 : decode cX3_tune 65 = .ok (.iconst 0, 1) := by decide +kernel
theorem dX3_tune_66 : decode cX3_tune 66 = .ok (.istore_n 2, 1) := by decide +kernel
theorem dX3_tune_67 : decode cX3_tune 67 = .ok (.iload_n 2, 1) := by decide +kernel
theorem dX3_tune_68 : decode cX3_tune 68 = .ok (.aload_n 0, 1) := by decide +kernel
theorem dX3_tune_69 : decode cX3_tune 69 = .ok (.getfield 27, 3) := by decide +kernel
theorem dX3_tune_72 : decode cX3_tune 72 = .ok (.if_icmp .ge 53, 3) := by decide +kernel
theorem dX3_tune_75 : decode cX3_tune 75 = .ok (.aload_n 0, 1) := by decide +kernel
theorem dX3_tune_76 : decode cX3_tune 76 = .ok (.getfield 18, 3) := by decide +kernel
theorem dX3_tune_79 : decode cX3_tune 79 = .ok (.iload_n 2, 1) := by decide +kernel
theorem dX3_tune_80 : decode cX3_tune 80 = .ok (.aload_n 0, 1) := by decide +kernel
theorem dX3_tune_81 : decode cX3_tune 81 = .ok (.aload_n 1, 1) := by decide +kernel
theorem dX3_tune_82 : decode cX3_tune 82 = .ok (.getfield 38, 3) := by decide +kernel
theorem dX3_tune_85 : decode cX3_tune 85 = .ok (.iload_n 2, 1) := by decide +kernel
theorem dX3_tune_86 : decode cX3_tune 86 = .ok (.iaload, 1) := by decide +kernel
theorem dX3_tune_87 : decode cX3_tune 87 = .ok (.aload_n 1, 1) := by decide +kernel
theorem dX3_tune_88 : decode cX3_tune 88 = .ok (.getfield 41, 3) := by decide +kernel
theorem dX3_tune_91 : decode cX3_tune 91 = .ok (.iload_n 2, 1) := by decide +kernel
theorem dX3_tune_92 : decode cX3_tune 92 = .ok (.iaload, 1) := by decide +kernel
theorem dX3_tune_93 : decode cX3_tune 93 = .ok (.invokevirtual 44, 3) := by decide +kernel
theorem dX3_tune_96 : decode cX3_tune 96 = .ok (.iastore, 1) := by decide +kernel
theorem dX3_tune_97 : decode cX3_tune 97 = .ok (.aload_n 1, 1) := by decide +kernel
theorem dX3_tune_98 : decode cX3_tune 98 = .ok (.getfield 48, 3) := by decide +kernel
theorem dX3_tune_101 : decode cX3_tune 101 = .ok (.iload_n 2, 1) := by decide +kernel
theorem dX3_tune_102 : decode cX3_tune 102 = .ok (.iaload, 1) := by decide +kernel
theorem dX3_tune_103 : decode cX3_tune 103 = .ok (.iconst 3, 1) := by decide +kernel
theorem dX3_tune_104 : decode cX3_tune 104 = .ok (.if_icmp .ne 15, 3) := by decide +kernel
theorem dX3_tune_107 : decode cX3_tune 107 = .ok (.aload_n 0, 1) := by decide +kernel
theorem dX3_tune_108 : decode cX3_tune 108 = .ok (.dup, 1) := by decide +kernel
theorem dX3_tune_109 : decode cX3_tune 109 = .ok (.getfield 28, 3) := by decide +kernel
theorem dX3_tune_112 : decode cX3_tune 112 = .ok (.iconst 1, 1) := by decide +kernel
theorem dX3_tune_113 : decode cX3_tune 113 = .ok (.iload_n 2, 1) := by decide +kernel
theorem dX3_tune_114 : decode cX3_tune 114 = .ok (.ishl, 1) := by decide +kernel
theorem dX3_tune_115 : decode cX3_tune 115 = .ok (.ior, 1) := by decide +kernel
theorem dX3_tune_116 : decode cX3_tune 116 = .ok (.putfield 28, 3) := by decide +kernel
theorem dX3_tune_119 : decode cX3_tune 119 = .ok (.iinc 2 1, 3) := by decide +kernel
theorem dX3_tune_122 : decode cX3_tune 122 = .ok (.goto (-55), 3) := by decide +kernel
theorem dX3_tune_125 : decode cX3_tune 125 = .ok (.return_, 1) := by decide +kernel
theorem dX3_answeringTo_0 : decode cX3_answeringTo 0 = .ok (.iconst 0, 1) := by decide +kernel
theorem dX3_answeringTo_1 : decode cX3_answeringTo 1 = .ok (.istore_n 2, 1) := by decide +kernel
theorem dX3_answeringTo_2 : decode cX3_answeringTo 2 = .ok (.iconst 0, 1) := by decide +kernel
theorem dX3_answeringTo_3 : decode cX3_answeringTo 3 = .ok (.istore_n 3, 1) := by decide +kernel
theorem dX3_answeringTo_4 : decode cX3_answeringTo 4 = .ok (.iload_n 3, 1) := by decide +kernel
theorem dX3_answeringTo_5 : decode cX3_answeringTo 5 = .ok (.aload_n 0, 1) := by decide +kernel
theorem dX3_answeringTo_6 : decode cX3_answeringTo 6 = .ok (.getfield 21, 3) := by decide +kernel
theorem dX3_answeringTo_9 : decode cX3_answeringTo 9 = .ok (.if_icmp .ge 37, 3) := by decide +kernel
theorem dX3_answeringTo_12 : decode cX3_answeringTo 12 = .ok (.aload_n 0, 1) := by decide +kernel
theorem dX3_answeringTo_13 : decode cX3_answeringTo 13 = .ok (.getfield 48, 3) := by decide +kernel
theorem dX3_answeringTo_16 : decode cX3_answeringTo 16 = .ok (.iload_n 3, 1) := by decide +kernel
theorem dX3_answeringTo_17 : decode cX3_answeringTo 17 = .ok (.iaload, 1) := by decide +kernel
theorem dX3_answeringTo_18 : decode cX3_answeringTo 18 = .ok (.aload_n 0, 1) := by decide +kernel
theorem dX3_answeringTo_19 : decode cX3_answeringTo 19 = .ok (.getfield 38, 3) := by decide +kernel
theorem dX3_answeringTo_22 : decode cX3_answeringTo 22 = .ok (.iload_n 3, 1) := by decide +kernel
theorem dX3_answeringTo_23 : decode cX3_answeringTo 23 = .ok (.iaload, 1) := by decide +kernel
theorem dX3_answeringTo_24 : decode cX3_answeringTo 24 = .ok (.iload_n 1, 1) := by decide +kernel
theorem dX3_answeringTo_25 : decode cX3_answeringTo 25 = .ok (.invokestatic 51, 3) := by decide +kernel
theorem dX3_answeringTo_28 : decode cX3_answeringTo 28 = .ok (.invokestatic 54, 3) := by decide +kernel
theorem dX3_answeringTo_31 : decode cX3_answeringTo 31 = .ok (.ifCond .eq 9, 3) := by decide +kernel
theorem dX3_answeringTo_34 : decode cX3_answeringTo 34 = .ok (.iload_n 2, 1) := by decide +kernel
theorem dX3_answeringTo_35 : decode cX3_answeringTo 35 = .ok (.iconst 1, 1) := by decide +kernel
theorem dX3_answeringTo_36 : decode cX3_answeringTo 36 = .ok (.iload_n 3, 1) := by decide +kernel
theorem dX3_answeringTo_37 : decode cX3_answeringTo 37 = .ok (.ishl, 1) := by decide +kernel
theorem dX3_answeringTo_38 : decode cX3_answeringTo 38 = .ok (.ior, 1) := by decide +kernel
theorem dX3_answeringTo_39 : decode cX3_answeringTo 39 = .ok (.istore_n 2, 1) := by decide +kernel
theorem dX3_answeringTo_40 : decode cX3_answeringTo 40 = .ok (.iinc 3 1, 3) := by decide +kernel
theorem dX3_answeringTo_43 : decode cX3_answeringTo 43 = .ok (.goto (-39), 3) := by decide +kernel
theorem dX3_answeringTo_46 : decode cX3_answeringTo 46 = .ok (.iload_n 2, 1) := by decide +kernel
theorem dX3_answeringTo_47 : decode cX3_answeringTo 47 = .ok (.ireturn, 1) := by decide +kernel
theorem dX3_nearTo_0 : decode cX3_nearTo 0 = .ok (.iconst 0, 1) := by decide +kernel
theorem dX3_nearTo_1 : decode cX3_nearTo 1 = .ok (.istore_n 2, 1) := by decide +kernel
theorem dX3_nearTo_2 : decode cX3_nearTo 2 = .ok (.iconst 0, 1) := by decide +kernel
theorem dX3_nearTo_3 : decode cX3_nearTo 3 = .ok (.istore_n 3, 1) := by decide +kernel
theorem dX3_nearTo_4 : decode cX3_nearTo 4 = .ok (.iload_n 3, 1) := by decide +kernel
theorem dX3_nearTo_5 : decode cX3_nearTo 5 = .ok (.aload_n 0, 1) := by decide +kernel
theorem dX3_nearTo_6 : decode cX3_nearTo 6 = .ok (.getfield 21, 3) := by decide +kernel
theorem dX3_nearTo_9 : decode cX3_nearTo 9 = .ok (.if_icmp .ge 33, 3) := by decide +kernel
theorem dX3_nearTo_12 : decode cX3_nearTo 12 = .ok (.aload_n 0, 1) := by decide +kernel
theorem dX3_nearTo_13 : decode cX3_nearTo 13 = .ok (.getfield 41, 3) := by decide +kernel
theorem dX3_nearTo_16 : decode cX3_nearTo 16 = .ok (.iload_n 3, 1) := by decide +kernel
theorem dX3_nearTo_17 : decode cX3_nearTo 17 = .ok (.iaload, 1) := by decide +kernel
theorem dX3_nearTo_18 : decode cX3_nearTo 18 = .ok (.iload_n 1, 1) := by decide +kernel
theorem dX3_nearTo_19 : decode cX3_nearTo 19 = .ok (.isub, 1) := by decide +kernel
theorem dX3_nearTo_20 : decode cX3_nearTo 20 = .ok (.invokestatic 58, 3) := by decide +kernel
theorem dX3_nearTo_23 : decode cX3_nearTo 23 = .ok (.aload_n 0, 1) := by decide +kernel
theorem dX3_nearTo_24 : decode cX3_nearTo 24 = .ok (.getfield 64, 3) := by decide +kernel
theorem dX3_nearTo_27 : decode cX3_nearTo 27 = .ok (.if_icmp .gt 9, 3) := by decide +kernel
theorem dX3_nearTo_30 : decode cX3_nearTo 30 = .ok (.iload_n 2, 1) := by decide +kernel
theorem dX3_nearTo_31 : decode cX3_nearTo 31 = .ok (.iconst 1, 1) := by decide +kernel
theorem dX3_nearTo_32 : decode cX3_nearTo 32 = .ok (.iload_n 3, 1) := by decide +kernel
theorem dX3_nearTo_33 : decode cX3_nearTo 33 = .ok (.ishl, 1) := by decide +kernel
theorem dX3_nearTo_34 : decode cX3_nearTo 34 = .ok (.ior, 1) := by decide +kernel
theorem dX3_nearTo_35 : decode cX3_nearTo 35 = .ok (.istore_n 2, 1) := by decide +kernel
theorem dX3_nearTo_36 : decode cX3_nearTo 36 = .ok (.iinc 3 1, 3) := by decide +kernel
theorem dX3_nearTo_39 : decode cX3_nearTo 39 = .ok (.goto (-35), 3) := by decide +kernel
theorem dX3_nearTo_42 : decode cX3_nearTo 42 = .ok (.iload_n 2, 1) := by decide +kernel
theorem dX3_nearTo_43 : decode cX3_nearTo 43 = .ok (.ireturn, 1) := by decide +kernel
theorem dX3_apart_0 : decode cX3_apart 0 = .ok (.iload_n 0, 1) := by decide +kernel
theorem dX3_apart_1 : decode cX3_apart 1 = .ok (.iload_n 1, 1) := by decide +kernel
theorem dX3_apart_2 : decode cX3_apart 2 = .ok (.isub, 1) := by decide +kernel
theorem dX3_apart_3 : decode cX3_apart 3 = .ok (.invokestatic 58, 3) := by decide +kernel
theorem dX3_apart_6 : decode cX3_apart 6 = .ok (.istore_n 2, 1) := by decide +kernel
theorem dX3_apart_7 : decode cX3_apart 7 = .ok (.iload_n 2, 1) := by decide +kernel
theorem dX3_apart_8 : decode cX3_apart 8 = .ok (.bipush 12, 2) := by decide +kernel
theorem dX3_apart_10 : decode cX3_apart 10 = .ok (.iload_n 2, 1) := by decide +kernel
theorem dX3_apart_11 : decode cX3_apart 11 = .ok (.isub, 1) := by decide +kernel
theorem dX3_apart_12 : decode cX3_apart 12 = .ok (.invokestatic 67, 3) := by decide +kernel
theorem dX3_apart_15 : decode cX3_apart 15 = .ok (.ireturn, 1) := by decide +kernel
theorem dX3_answers_0 : decode cX3_answers 0 = .ok (.iload_n 0, 1) := by decide +kernel
theorem dX3_answers_1 : decode cX3_answers 1 = .ok (.tableswitch 84 1 5 #[35, 45, 35, 56, 67], 35) := by decide +kernel
theorem dX3_answers_36 : decode cX3_answers 36 = .ok (.iload_n 1, 1) := by decide +kernel
theorem dX3_answers_37 : decode cX3_answers 37 = .ok (.ifCond .ne 7, 3) := by decide +kernel
theorem dX3_answers_40 : decode cX3_answers 40 = .ok (.iconst 1, 1) := by decide +kernel
theorem dX3_answers_41 : decode cX3_answers 41 = .ok (.goto 4, 3) := by decide +kernel
theorem dX3_answers_44 : decode cX3_answers 44 = .ok (.iconst 0, 1) := by decide +kernel
theorem dX3_answers_45 : decode cX3_answers 45 = .ok (.ireturn, 1) := by decide +kernel
theorem dX3_answers_46 : decode cX3_answers 46 = .ok (.iload_n 1, 1) := by decide +kernel
theorem dX3_answers_47 : decode cX3_answers 47 = .ok (.iconst 1, 1) := by decide +kernel
theorem dX3_answers_48 : decode cX3_answers 48 = .ok (.if_icmp .gt 7, 3) := by decide +kernel
theorem dX3_answers_51 : decode cX3_answers 51 = .ok (.iconst 1, 1) := by decide +kernel
theorem dX3_answers_52 : decode cX3_answers 52 = .ok (.goto 4, 3) := by decide +kernel
theorem dX3_answers_55 : decode cX3_answers 55 = .ok (.iconst 0, 1) := by decide +kernel
theorem dX3_answers_56 : decode cX3_answers 56 = .ok (.ireturn, 1) := by decide +kernel
theorem dX3_answers_57 : decode cX3_answers 57 = .ok (.iload_n 1, 1) := by decide +kernel
theorem dX3_answers_58 : decode cX3_answers 58 = .ok (.iconst 5, 1) := by decide +kernel
theorem dX3_answers_59 : decode cX3_answers 59 = .ok (.if_icmp .ne 7, 3) := by decide +kernel
theorem dX3_answers_62 : decode cX3_answers 62 = .ok (.iconst 1, 1) := by decide +kernel
theorem dX3_answers_63 : decode cX3_answers 63 = .ok (.goto 4, 3) := by decide +kernel
theorem dX3_answers_66 : decode cX3_answers 66 = .ok (.iconst 0, 1) := by decide +kernel
theorem dX3_answers_67 : decode cX3_answers 67 = .ok (.ireturn, 1) := by decide +kernel
theorem dX3_answers_68 : decode cX3_answers 68 = .ok (.iload_n 1, 1) := by decide +kernel
theorem dX3_answers_69 : decode cX3_answers 69 = .ok (.iconst 5, 1) := by decide +kernel
theorem dX3_answers_70 : decode cX3_answers 70 = .ok (.if_icmp .eq 9, 3) := by decide +kernel
theorem dX3_answers_73 : decode cX3_answers 73 = .ok (.iload_n 1, 1) := by decide +kernel
theorem dX3_answers_74 : decode cX3_answers 74 = .ok (.bipush 6, 2) := by decide +kernel
theorem dX3_answers_76 : decode cX3_answers 76 = .ok (.if_icmp .ne 7, 3) := by decide +kernel
theorem dX3_answers_79 : decode cX3_answers 79 = .ok (.iconst 1, 1) := by decide +kernel
theorem dX3_answers_80 : decode cX3_answers 80 = .ok (.goto 4, 3) := by decide +kernel
theorem dX3_answers_83 : decode cX3_answers 83 = .ok (.iconst 0, 1) := by decide +kernel
theorem dX3_answers_84 : decode cX3_answers 84 = .ok (.ireturn, 1) := by decide +kernel
theorem dX3_answers_85 : decode cX3_answers 85 = .ok (.iconst 0, 1) := by decide +kernel
theorem dX3_answers_86 : decode cX3_answers 86 = .ok (.ireturn, 1) := by decide +kernel
theorem dX3_struckFrom_0 : decode cX3_struckFrom 0 = .ok (.iload_n 1, 1) := by decide +kernel
theorem dX3_struckFrom_1 : decode cX3_struckFrom 1 = .ok (.iconst 0, 1) := by decide +kernel
theorem dX3_struckFrom_2 : decode cX3_struckFrom 2 = .ok (.bipush 11, 2) := by decide +kernel
theorem dX3_struckFrom_4 : decode cX3_struckFrom 4 = .ok (.invokestatic 70, 3) := by decide +kernel
theorem dX3_struckFrom_7 : decode cX3_struckFrom 7 = .ok (.ifCond .eq 21, 3) := by decide +kernel
theorem dX3_struckFrom_10 : decode cX3_struckFrom 10 = .ok (.iload_n 2, 1) := by decide +kernel
theorem dX3_struckFrom_11 : decode cX3_struckFrom 11 = .ok (.iconst 0, 1) := by decide +kernel
theorem dX3_struckFrom_12 : decode cX3_struckFrom 12 = .ok (.aload_n 0, 1) := by decide +kernel
theorem dX3_struckFrom_13 : decode cX3_struckFrom 13 = .ok (.getfield 27, 3) := by decide +kernel
theorem dX3_struckFrom_16 : decode cX3_struckFrom 16 = .ok (.iconst 1, 1) := by decide +kernel
theorem dX3_struckFrom_17 : decode cX3_struckFrom 17 = .ok (.isub, 1) := by decide +kernel
theorem dX3_struckFrom_18 : decode cX3_struckFrom 18 = .ok (.invokestatic 70, 3) := by decide +kernel
theorem dX3_struckFrom_21 : decode cX3_struckFrom 21 = .ok (.ifCond .eq 7, 3) := by decide +kernel
theorem dX3_struckFrom_24 : decode cX3_struckFrom 24 = .ok (.iconst 1, 1) := by decide +kernel
theorem dX3_struckFrom_25 : decode cX3_struckFrom 25 = .ok (.goto 4, 3) := by decide +kernel
theorem dX3_struckFrom_28 : decode cX3_struckFrom 28 = .ok (.iconst 0, 1) := by decide +kernel
theorem dX3_struckFrom_29 : decode cX3_struckFrom 29 = .ok (.istore_n 3, 1) := by decide +kernel
theorem dX3_struckFrom_30 : decode cX3_struckFrom 30 = .ok (.iload_n 3, 1) := by decide +kernel
theorem dX3_struckFrom_31 : decode cX3_struckFrom 31 = .ok (.ifCond .eq 19, 3) := by decide +kernel
theorem dX3_struckFrom_34 : decode cX3_struckFrom 34 = .ok (.aload_n 0, 1) := by decide +kernel
theorem dX3_struckFrom_35 : decode cX3_struckFrom 35 = .ok (.getfield 9, 3) := by decide +kernel
theorem dX3_struckFrom_38 : decode cX3_struckFrom 38 = .ok (.iload_n 1, 1) := by decide +kernel
theorem dX3_struckFrom_39 : decode cX3_struckFrom 39 = .ok (.iaload, 1) := by decide +kernel
theorem dX3_struckFrom_40 : decode cX3_struckFrom 40 = .ok (.aload_n 0, 1) := by decide +kernel
theorem dX3_struckFrom_41 : decode cX3_struckFrom 41 = .ok (.getfield 15, 3) := by decide +kernel
theorem dX3_struckFrom_44 : decode cX3_struckFrom 44 = .ok (.iload_n 2, 1) := by decide +kernel
theorem dX3_struckFrom_45 : decode cX3_struckFrom 45 = .ok (.iaload, 1) := by decide +kernel
theorem dX3_struckFrom_46 : decode cX3_struckFrom 46 = .ok (.iand, 1) := by decide +kernel
theorem dX3_struckFrom_47 : decode cX3_struckFrom 47 = .ok (.goto 4, 3) := by decide +kernel
theorem dX3_struckFrom_50 : decode cX3_struckFrom 50 = .ok (.iconst 0, 1) := by decide +kernel
theorem dX3_struckFrom_51 : decode cX3_struckFrom 51 = .ok (.ireturn, 1) := by decide +kernel
theorem dX3_broken_0 : decode cX3_broken 0 = .ok (.iload_n 3, 1) := by decide +kernel
theorem dX3_broken_1 : decode cX3_broken 1 = .ok (.istore 4, 2) := by decide +kernel
theorem dX3_broken_3 : decode cX3_broken 3 = .ok (.iload 4, 2) := by decide +kernel
theorem dX3_broken_5 : decode cX3_broken 5 = .ok (.aload_n 0, 1) := by decide +kernel
theorem dX3_broken_6 : decode cX3_broken 6 = .ok (.iload_n 1, 1) := by decide +kernel
theorem dX3_broken_7 : decode cX3_broken 7 = .ok (.iload_n 2, 1) := by decide +kernel
theorem dX3_broken_8 : decode cX3_broken 8 = .ok (.invokevirtual 44, 3) := by decide +kernel
theorem dX3_broken_11 : decode cX3_broken 11 = .ok (.iand, 1) := by decide +kernel
theorem dX3_broken_12 : decode cX3_broken 12 = .ok (.aload_n 0, 1) := by decide +kernel
theorem dX3_broken_13 : decode cX3_broken 13 = .ok (.getfield 28, 3) := by decide +kernel
theorem dX3_broken_16 : decode cX3_broken 16 = .ok (.iconst (-1), 1) := by decide +kernel
theorem dX3_broken_17 : decode cX3_broken 17 = .ok (.ixor, 1) := by decide +kernel
theorem dX3_broken_18 : decode cX3_broken 18 = .ok (.iand, 1) := by decide +kernel
theorem dX3_broken_19 : decode cX3_broken 19 = .ok (.istore 5, 2) := by decide +kernel
theorem dX3_broken_21 : decode cX3_broken 21 = .ok (.aload_n 0, 1) := by decide +kernel
theorem dX3_broken_22 : decode cX3_broken 22 = .ok (.iconst 0, 1) := by decide +kernel
theorem dX3_broken_23 : decode cX3_broken 23 = .ok (.putfield 74, 3) := by decide +kernel
theorem dX3_broken_26 : decode cX3_broken 26 = .ok (.iload 5, 2) := by decide +kernel
theorem dX3_broken_28 : decode cX3_broken 28 = .ok (.ifCond .eq 45, 3) := by decide +kernel
theorem dX3_broken_31 : decode cX3_broken 31 = .ok (.aload_n 0, 1) := by decide +kernel
theorem dX3_broken_32 : decode cX3_broken 32 = .ok (.getfield 74, 3) := by decide +kernel
theorem dX3_broken_35 : decode cX3_broken 35 = .ok (.bipush 8, 2) := by decide +kernel
theorem dX3_broken_37 : decode cX3_broken 37 = .ok (.if_icmp .ge 36, 3) := by decide +kernel
theorem dX3_broken_40 : decode cX3_broken 40 = .ok (.aload_n 0, 1) := by decide +kernel
theorem dX3_broken_41 : decode cX3_broken 41 = .ok (.dup, 1) := by decide +kernel
theorem dX3_broken_42 : decode cX3_broken 42 = .ok (.getfield 74, 3) := by decide +kernel
theorem dX3_broken_45 : decode cX3_broken 45 = .ok (.iconst 1, 1) := by decide +kernel
theorem dX3_broken_46 : decode cX3_broken 46 = .ok (.iadd, 1) := by decide +kernel
theorem dX3_broken_47 : decode cX3_broken 47 = .ok (.putfield 74, 3) := by decide +kernel
theorem dX3_broken_50 : decode cX3_broken 50 = .ok (.iload 4, 2) := by decide +kernel
theorem dX3_broken_52 : decode cX3_broken 52 = .ok (.iload 5, 2) := by decide +kernel
theorem dX3_broken_54 : decode cX3_broken 54 = .ok (.iconst (-1), 1) := by decide +kernel
theorem dX3_broken_55 : decode cX3_broken 55 = .ok (.ixor, 1) := by decide +kernel
theorem dX3_broken_56 : decode cX3_broken 56 = .ok (.iand, 1) := by decide +kernel
theorem dX3_broken_57 : decode cX3_broken 57 = .ok (.istore 4, 2) := by decide +kernel
theorem dX3_broken_59 : decode cX3_broken 59 = .ok (.iload 4, 2) := by decide +kernel
theorem dX3_broken_61 : decode cX3_broken 61 = .ok (.aload_n 0, 1) := by decide +kernel
theorem dX3_broken_62 : decode cX3_broken 62 = .ok (.iload 5, 2) := by decide +kernel
theorem dX3_broken_64 : decode cX3_broken 64 = .ok (.invokevirtual 77, 3) := by decide +kernel
theorem dX3_broken_67 : decode cX3_broken 67 = .ok (.iand, 1) := by decide +kernel
theorem dX3_broken_68 : decode cX3_broken 68 = .ok (.istore 5, 2) := by decide +kernel
theorem dX3_broken_70 : decode cX3_broken 70 = .ok (.goto (-44), 3) := by decide +kernel
theorem dX3_broken_73 : decode cX3_broken 73 = .ok (.iload_n 3, 1) := by decide +kernel
theorem dX3_broken_74 : decode cX3_broken 74 = .ok (.iload 4, 2) := by decide +kernel
theorem dX3_broken_76 : decode cX3_broken 76 = .ok (.iconst (-1), 1) := by decide +kernel
theorem dX3_broken_77 : decode cX3_broken 77 = .ok (.ixor, 1) := by decide +kernel
theorem dX3_broken_78 : decode cX3_broken 78 = .ok (.iand, 1) := by decide +kernel
theorem dX3_broken_79 : decode cX3_broken 79 = .ok (.ireturn, 1) := by decide +kernel
theorem dX3_breakingBy_0 : decode cX3_breakingBy 0 = .ok (.iconst 0, 1) := by decide +kernel
theorem dX3_breakingBy_1 : decode cX3_breakingBy 1 = .ok (.istore_n 2, 1) := by decide +kernel
theorem dX3_breakingBy_2 : decode cX3_breakingBy 2 = .ok (.iconst 0, 1) := by decide +kernel
theorem dX3_breakingBy_3 : decode cX3_breakingBy 3 = .ok (.istore_n 3, 1) := by decide +kernel
theorem dX3_breakingBy_4 : decode cX3_breakingBy 4 = .ok (.iconst 0, 1) := by decide +kernel
theorem dX3_breakingBy_5 : decode cX3_breakingBy 5 = .ok (.istore 4, 2) := by decide +kernel
theorem dX3_breakingBy_7 : decode cX3_breakingBy 7 = .ok (.iload 4, 2) := by decide +kernel
theorem dX3_breakingBy_9 : decode cX3_breakingBy 9 = .ok (.aload_n 0, 1) := by decide +kernel
theorem dX3_breakingBy_10 : decode cX3_breakingBy 10 = .ok (.getfield 27, 3) := by decide +kernel
theorem dX3_breakingBy_13 : decode cX3_breakingBy 13 = .ok (.if_icmp .ge 40, 3) := by decide +kernel
theorem dX3_breakingBy_16 : decode cX3_breakingBy 16 = .ok (.iload_n 1, 1) := by decide +kernel
theorem dX3_breakingBy_17 : decode cX3_breakingBy 17 = .ok (.iload 4, 2) := by decide +kernel
theorem dX3_breakingBy_19 : decode cX3_breakingBy 19 = .ok (.invokestatic 80, 3) := by decide +kernel
theorem dX3_breakingBy_22 : decode cX3_breakingBy 22 = .ok (.ifCond .eq 25, 3) := by decide +kernel
theorem dX3_breakingBy_25 : decode cX3_breakingBy 25 = .ok (.iload_n 3, 1) := by decide +kernel
theorem dX3_breakingBy_26 : decode cX3_breakingBy 26 = .ok (.iload_n 2, 1) := by decide +kernel
theorem dX3_breakingBy_27 : decode cX3_breakingBy 27 = .ok (.aload_n 0, 1) := by decide +kernel
theorem dX3_breakingBy_28 : decode cX3_breakingBy 28 = .ok (.getfield 18, 3) := by decide +kernel
theorem dX3_breakingBy_31 : decode cX3_breakingBy 31 = .ok (.iload 4, 2) := by decide +kernel
theorem dX3_breakingBy_33 : decode cX3_breakingBy 33 = .ok (.iaload, 1) := by decide +kernel
theorem dX3_breakingBy_34 : decode cX3_breakingBy 34 = .ok (.iand, 1) := by decide +kernel
theorem dX3_breakingBy_35 : decode cX3_breakingBy 35 = .ok (.ior, 1) := by decide +kernel
theorem dX3_breakingBy_36 : decode cX3_breakingBy 36 = .ok (.istore_n 3, 1) := by decide +kernel
theorem dX3_breakingBy_37 : decode cX3_breakingBy 37 = .ok (.iload_n 2, 1) := by decide +kernel
theorem dX3_breakingBy_38 : decode cX3_breakingBy 38 = .ok (.aload_n 0, 1) := by decide +kernel
theorem dX3_breakingBy_39 : decode cX3_breakingBy 39 = .ok (.getfield 18, 3) := by decide +kernel
theorem dX3_breakingBy_42 : decode cX3_breakingBy 42 = .ok (.iload 4, 2) := by decide +kernel
theorem dX3_breakingBy_44 : decode cX3_breakingBy 44 = .ok (.iaload, 1) := by decide +kernel
theorem dX3_breakingBy_45 : decode cX3_breakingBy 45 = .ok (.ior, 1) := by decide +kernel
theorem dX3_breakingBy_46 : decode cX3_breakingBy 46 = .ok (.istore_n 2, 1) := by decide +kernel
theorem dX3_breakingBy_47 : decode cX3_breakingBy 47 = .ok (.iinc 4 1, 3) := by decide +kernel
theorem dX3_breakingBy_50 : decode cX3_breakingBy 50 = .ok (.goto (-43), 3) := by decide +kernel
theorem dX3_breakingBy_53 : decode cX3_breakingBy 53 = .ok (.iload_n 2, 1) := by decide +kernel
theorem dX3_breakingBy_54 : decode cX3_breakingBy 54 = .ok (.aload_n 0, 1) := by decide +kernel
theorem dX3_breakingBy_55 : decode cX3_breakingBy 55 = .ok (.getfield 28, 3) := by decide +kernel
theorem dX3_breakingBy_58 : decode cX3_breakingBy 58 = .ok (.iconst (-1), 1) := by decide +kernel
theorem dX3_breakingBy_59 : decode cX3_breakingBy 59 = .ok (.ixor, 1) := by decide +kernel
theorem dX3_breakingBy_60 : decode cX3_breakingBy 60 = .ok (.iand, 1) := by decide +kernel
theorem dX3_breakingBy_61 : decode cX3_breakingBy 61 = .ok (.iload_n 3, 1) := by decide +kernel
theorem dX3_breakingBy_62 : decode cX3_breakingBy 62 = .ok (.aload_n 0, 1) := by decide +kernel
theorem dX3_breakingBy_63 : decode cX3_breakingBy 63 = .ok (.getfield 28, 3) := by decide +kernel
theorem dX3_breakingBy_66 : decode cX3_breakingBy 66 = .ok (.iand, 1) := by decide +kernel
theorem dX3_breakingBy_67 : decode cX3_breakingBy 67 = .ok (.ior, 1) := by decide +kernel
theorem dX3_breakingBy_68 : decode cX3_breakingBy 68 = .ok (.ireturn, 1) := by decide +kernel
theorem dX3_eachStrikesOther_0 : decode cX3_eachStrikesOther 0 = .ok (.aload_n 0, 1) := by decide +kernel
theorem dX3_eachStrikesOther_1 : decode cX3_eachStrikesOther 1 = .ok (.getfield 18, 3) := by decide +kernel
theorem dX3_eachStrikesOther_4 : decode cX3_eachStrikesOther 4 = .ok (.iload_n 1, 1) := by decide +kernel
theorem dX3_eachStrikesOther_5 : decode cX3_eachStrikesOther 5 = .ok (.iaload, 1) := by decide +kernel
theorem dX3_eachStrikesOther_6 : decode cX3_eachStrikesOther 6 = .ok (.aload_n 0, 1) := by decide +kernel
theorem dX3_eachStrikesOther_7 : decode cX3_eachStrikesOther 7 = .ok (.getfield 28, 3) := by decide +kernel
theorem dX3_eachStrikesOther_10 : decode cX3_eachStrikesOther 10 = .ok (.iconst (-1), 1) := by decide +kernel
theorem dX3_eachStrikesOther_11 : decode cX3_eachStrikesOther 11 = .ok (.ixor, 1) := by decide +kernel
theorem dX3_eachStrikesOther_12 : decode cX3_eachStrikesOther 12 = .ok (.iand, 1) := by decide +kernel
theorem dX3_eachStrikesOther_13 : decode cX3_eachStrikesOther 13 = .ok (.iload_n 2, 1) := by decide +kernel
theorem dX3_eachStrikesOther_14 : decode cX3_eachStrikesOther 14 = .ok (.invokestatic 80, 3) := by decide +kernel
theorem dX3_eachStrikesOther_17 : decode cX3_eachStrikesOther 17 = .ok (.ifCond .eq 27, 3) := by decide +kernel
theorem dX3_eachStrikesOther_20 : decode cX3_eachStrikesOther 20 = .ok (.aload_n 0, 1) := by decide +kernel
theorem dX3_eachStrikesOther_21 : decode cX3_eachStrikesOther 21 = .ok (.getfield 18, 3) := by decide +kernel
theorem dX3_eachStrikesOther_24 : decode cX3_eachStrikesOther 24 = .ok (.iload_n 2, 1) := by decide +kernel
theorem dX3_eachStrikesOther_25 : decode cX3_eachStrikesOther 25 = .ok (.iaload, 1) := by decide +kernel
theorem dX3_eachStrikesOther_26 : decode cX3_eachStrikesOther 26 = .ok (.aload_n 0, 1) := by decide +kernel
theorem dX3_eachStrikesOther_27 : decode cX3_eachStrikesOther 27 = .ok (.getfield 28, 3) := by decide +kernel
theorem dX3_eachStrikesOther_30 : decode cX3_eachStrikesOther 30 = .ok (.iconst (-1), 1) := by decide +kernel
theorem dX3_eachStrikesOther_31 : decode cX3_eachStrikesOther 31 = .ok (.ixor, 1) := by decide +kernel
theorem dX3_eachStrikesOther_32 : decode cX3_eachStrikesOther 32 = .ok (.iand, 1) := by decide +kernel
theorem dX3_eachStrikesOther_33 : decode cX3_eachStrikesOther 33 = .ok (.iload_n 1, 1) := by decide +kernel
theorem dX3_eachStrikesOther_34 : decode cX3_eachStrikesOther 34 = .ok (.invokestatic 80, 3) := by decide +kernel
theorem dX3_eachStrikesOther_37 : decode cX3_eachStrikesOther 37 = .ok (.ifCond .eq 7, 3) := by decide +kernel
theorem dX3_eachStrikesOther_40 : decode cX3_eachStrikesOther 40 = .ok (.iconst 1, 1) := by decide +kernel
theorem dX3_eachStrikesOther_41 : decode cX3_eachStrikesOther 41 = .ok (.goto 4, 3) := by decide +kernel
theorem dX3_eachStrikesOther_44 : decode cX3_eachStrikesOther 44 = .ok (.iconst 0, 1) := by decide +kernel
theorem dX3_eachStrikesOther_45 : decode cX3_eachStrikesOther 45 = .ok (.ireturn, 1) := by decide +kernel
