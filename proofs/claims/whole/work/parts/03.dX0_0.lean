theorem dX0_init_0 : decode cX0_init 0 = .ok (.aload_n 0, 1) := by decide +kernel
theorem dX0_init_1 : decode cX0_init 1 = .ok (.invokespecial 3, 3) := by decide +kernel
theorem dX0_init_4 : decode cX0_init 4 = .ok (.aload_n 0, 1) := by decide +kernel
theorem dX0_init_5 : decode cX0_init 5 = .ok (.bipush 24, 2) := by decide +kernel
theorem dX0_init_7 : decode cX0_init 7 = .ok (.anewarray 9, 3) := by decide +kernel
theorem dX0_init_10 : decode cX0_init 10 = .ok (.putfield 11, 3) := by decide +kernel
theorem dX0_init_13 : decode cX0_init 13 = .ok (.return_, 1) := by decide +kernel
theorem dX0_keep_0 : decode cX0_keep 0 = .ok (.aload_n 0, 1) := by decide +kernel
theorem dX0_keep_1 : decode cX0_keep 1 = .ok (.getfield 11, 3) := by decide +kernel
theorem dX0_keep_4 : decode cX0_keep 4 = .ok (.aload_n 0, 1) := by decide +kernel
theorem dX0_keep_5 : decode cX0_keep 5 = .ok (.getfield 17, 3) := by decide +kernel
theorem dX0_keep_8 : decode cX0_keep 8 = .ok (.aaload, 1) := by decide +kernel
theorem dX0_keep_9 : decode cX0_keep 9 = .ok (.ifnonnull 19, 3) := by decide +kernel
theorem dX0_keep_12 : decode cX0_keep 12 = .ok (.aload_n 0, 1) := by decide +kernel
theorem dX0_keep_13 : decode cX0_keep 13 = .ok (.getfield 11, 3) := by decide +kernel
theorem dX0_keep_16 : decode cX0_keep 16 = .ok (.aload_n 0, 1) := by decide +kernel
theorem dX0_keep_17 : decode cX0_keep 17 = .ok (.getfield 17, 3) := by decide +kernel
theorem dX0_keep_20 : decode cX0_keep 20 = .ok (.new 9, 3) := by decide +kernel
theorem dX0_keep_23 : decode cX0_keep 23 = .ok (.dup, 1) := by decide +kernel
theorem dX0_keep_24 : decode cX0_keep 24 = .ok (.invokespecial 21, 3) := by decide +kernel
theorem dX0_keep_27 : decode cX0_keep 27 = .ok (.aastore, 1) := by decide +kernel
theorem dX0_keep_28 : decode cX0_keep 28 = .ok (.aload_n 0, 1) := by decide +kernel
theorem dX0_keep_29 : decode cX0_keep 29 = .ok (.getfield 11, 3) := by decide +kernel
theorem dX0_keep_32 : decode cX0_keep 32 = .ok (.aload_n 0, 1) := by decide +kernel
theorem dX0_keep_33 : decode cX0_keep 33 = .ok (.getfield 17, 3) := by decide +kernel
theorem dX0_keep_36 : decode cX0_keep 36 = .ok (.aaload, 1) := by decide +kernel
theorem dX0_keep_37 : decode cX0_keep 37 = .ok (.aload_n 1, 1) := by decide +kernel
theorem dX0_keep_38 : decode cX0_keep 38 = .ok (.invokevirtual 22, 3) := by decide +kernel
theorem dX0_keep_41 : decode cX0_keep 41 = .ok (.aload_n 0, 1) := by decide +kernel
theorem dX0_keep_42 : decode cX0_keep 42 = .ok (.aload_n 0, 1) := by decide +kernel
theorem dX0_keep_43 : decode cX0_keep 43 = .ok (.getfield 17, 3) := by decide +kernel
theorem dX0_keep_46 : decode cX0_keep 46 = .ok (.iconst 1, 1) := by decide +kernel
theorem dX0_keep_47 : decode cX0_keep 47 = .ok (.iadd, 1) := by decide +kernel
theorem dX0_keep_48 : decode cX0_keep 48 = .ok (.bipush 24, 2) := by decide +kernel
theorem dX0_keep_50 : decode cX0_keep 50 = .ok (.irem, 1) := by decide +kernel
theorem dX0_keep_51 : decode cX0_keep 51 = .ok (.putfield 17, 3) := by decide +kernel
theorem dX0_keep_54 : decode cX0_keep 54 = .ok (.aload_n 0, 1) := by decide +kernel
theorem dX0_keep_55 : decode cX0_keep 55 = .ok (.aload_n 0, 1) := by decide +kernel
theorem dX0_keep_56 : decode cX0_keep 56 = .ok (.getfield 26, 3) := by decide +kernel
theorem dX0_keep_59 : decode cX0_keep 59 = .ok (.iconst 1, 1) := by decide +kernel
theorem dX0_keep_60 : decode cX0_keep 60 = .ok (.iadd, 1) := by decide +kernel
theorem dX0_keep_61 : decode cX0_keep 61 = .ok (.bipush 24, 2) := by decide +kernel
theorem dX0_keep_63 : decode cX0_keep 63 = .ok (.invokestatic 29, 3) := by decide +kernel
theorem dX0_keep_66 : decode cX0_keep 66 = .ok (.putfield 26, 3) := by decide +kernel
theorem dX0_keep_69 : decode cX0_keep 69 = .ok (.return_, 1) := by decide +kernel
theorem dX0_takeBack_0 : decode cX0_takeBack 0 = .ok (.aload_n 0, 1) := by decide +kernel
theorem dX0_takeBack_1 : decode cX0_takeBack 1 = .ok (.getfield 17, 3) := by decide +kernel
theorem dX0_takeBack_4 : decode cX0_takeBack 4 = .ok (.bipush 24, 2) := by decide +kernel
theorem dX0_takeBack_6 : decode cX0_takeBack 6 = .ok (.iadd, 1) := by decide +kernel
theorem dX0_takeBack_7 : decode cX0_takeBack 7 = .ok (.iconst 1, 1) := by decide +kernel
theorem dX0_takeBack_8 : decode cX0_takeBack 8 = .ok (.isub, 1) := by decide +kernel
theorem dX0_takeBack_9 : decode cX0_takeBack 9 = .ok (.bipush 24, 2) := by decide +kernel
theorem dX0_takeBack_11 : decode cX0_takeBack 11 = .ok (.irem, 1) := by decide +kernel
theorem dX0_takeBack_12 : decode cX0_takeBack 12 = .ok (.istore_n 2, 1) := by decide +kernel
theorem dX0_takeBack_13 : decode cX0_takeBack 13 = .ok (.aload_n 0, 1) := by decide +kernel
theorem dX0_takeBack_14 : decode cX0_takeBack 14 = .ok (.getfield 26, 3) := by decide +kernel
theorem dX0_takeBack_17 : decode cX0_takeBack 17 = .ok (.ifCond .eq 12, 3) := by decide +kernel
theorem dX0_takeBack_20 : decode cX0_takeBack 20 = .ok (.aload_n 0, 1) := by decide +kernel
theorem dX0_takeBack_21 : decode cX0_takeBack 21 = .ok (.getfield 11, 3) := by decide +kernel
theorem dX0_takeBack_24 : decode cX0_takeBack 24 = .ok (.iload_n 2, 1) := by decide +kernel
theorem dX0_takeBack_25 : decode cX0_takeBack 25 = .ok (.aaload, 1) := by decide +kernel
theorem dX0_takeBack_26 : decode cX0_takeBack 26 = .ok (.ifnonnull 5, 3) := by decide +kernel
theorem dX0_takeBack_29 : decode cX0_takeBack 29 = .ok (.iconst 0, 1) := by decide +kernel
theorem dX0_takeBack_30 : decode cX0_takeBack 30 = .ok (.ireturn, 1) := by decide +kernel
theorem dX0_takeBack_31 : decode cX0_takeBack 31 = .ok (.aload_n 1, 1) := by decide +kernel
theorem dX0_takeBack_32 : decode cX0_takeBack 32 = .ok (.aload_n 0, 1) := by decide +kernel
theorem dX0_takeBack_33 : decode cX0_takeBack 33 = .ok (.getfield 11, 3) := by decide +kernel
theorem dX0_takeBack_36 : decode cX0_takeBack 36 = .ok (.iload_n 2, 1) := by decide +kernel
theorem dX0_takeBack_37 : decode cX0_takeBack 37 = .ok (.aaload, 1) := by decide +kernel
theorem dX0_takeBack_38 : decode cX0_takeBack 38 = .ok (.invokevirtual 22, 3) := by decide +kernel
theorem dX0_takeBack_41 : decode cX0_takeBack 41 = .ok (.aload_n 0, 1) := by decide +kernel
theorem dX0_takeBack_42 : decode cX0_takeBack 42 = .ok (.iload_n 2, 1) := by decide +kernel
theorem dX0_takeBack_43 : decode cX0_takeBack 43 = .ok (.putfield 17, 3) := by decide +kernel
theorem dX0_takeBack_46 : decode cX0_takeBack 46 = .ok (.aload_n 0, 1) := by decide +kernel
theorem dX0_takeBack_47 : decode cX0_takeBack 47 = .ok (.dup, 1) := by decide +kernel
theorem dX0_takeBack_48 : decode cX0_takeBack 48 = .ok (.getfield 26, 3) := by decide +kernel
theorem dX0_takeBack_51 : decode cX0_takeBack 51 = .ok (.iconst 1, 1) := by decide +kernel
theorem dX0_takeBack_52 : decode cX0_takeBack 52 = .ok (.isub, 1) := by decide +kernel
theorem dX0_takeBack_53 : decode cX0_takeBack 53 = .ok (.putfield 26, 3) := by decide +kernel
theorem dX0_takeBack_56 : decode cX0_takeBack 56 = .ok (.iconst 1, 1) := by decide +kernel
theorem dX0_takeBack_57 : decode cX0_takeBack 57 = .ok (.ireturn, 1) := by decide +kernel
theorem dX0_forget_0 : decode cX0_forget 0 = .ok (.aload_n 0, 1) := by decide +kernel
theorem dX0_forget_1 : decode cX0_forget 1 = .ok (.iconst 0, 1) := by decide +kernel
theorem dX0_forget_2 : decode cX0_forget 2 = .ok (.putfield 26, 3) := by decide +kernel
theorem dX0_forget_5 : decode cX0_forget 5 = .ok (.return_, 1) := by decide +kernel
