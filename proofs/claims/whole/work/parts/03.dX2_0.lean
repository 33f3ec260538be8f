theorem dX2_init_0 : decode cX2_init 0 = .ok (.aload_n 0, 1) := by decide +kernel
theorem dX2_init_1 : decode cX2_init 1 = .ok (.invokespecial 3, 3) := by decide +kernel
theorem dX2_init_4 : decode cX2_init 4 = .ok (.aload_n 0, 1) := by decide +kernel
theorem dX2_init_5 : decode cX2_init 5 = .ok (.bipush 8, 2) := by decide +kernel
theorem dX2_init_7 : decode cX2_init 7 = .ok (.newarray .int, 2) := by decide +kernel
theorem dX2_init_9 : decode cX2_init 9 = .ok (.putfield 9, 3) := by decide +kernel
theorem dX2_init_12 : decode cX2_init 12 = .ok (.aload_n 0, 1) := by decide +kernel
theorem dX2_init_13 : decode cX2_init 13 = .ok (.bipush 8, 2) := by decide +kernel
theorem dX2_init_15 : decode cX2_init 15 = .ok (.newarray .int, 2) := by decide +kernel
theorem dX2_init_17 : decode cX2_init 17 = .ok (.putfield 15, 3) := by decide +kernel
theorem dX2_init_20 : decode cX2_init 20 = .ok (.aload_n 0, 1) := by decide +kernel
theorem dX2_init_21 : decode cX2_init 21 = .ok (.bipush 8, 2) := by decide +kernel
theorem dX2_init_23 : decode cX2_init 23 = .ok (.newarray .int, 2) := by decide +kernel
theorem dX2_init_25 : decode cX2_init 25 = .ok (.putfield 18, 3) := by decide +kernel
theorem dX2_init_28 : decode cX2_init 28 = .ok (.aload_n 0, 1) := by decide +kernel
theorem dX2_init_29 : decode cX2_init 29 = .ok (.bipush 8, 2) := by decide +kernel
theorem dX2_init_31 : decode cX2_init 31 = .ok (.newarray .int, 2) := by decide +kernel
theorem dX2_init_33 : decode cX2_init 33 = .ok (.putfield 21, 3) := by decide +kernel
theorem dX2_init_36 : decode cX2_init 36 = .ok (.aload_n 0, 1) := by decide +kernel
theorem dX2_init_37 : decode cX2_init 37 = .ok (.bipush 8, 2) := by decide +kernel
theorem dX2_init_39 : decode cX2_init 39 = .ok (.newarray .int, 2) := by decide +kernel
theorem dX2_init_41 : decode cX2_init 41 = .ok (.putfield 24, 3) := by decide +kernel
theorem dX2_init_44 : decode cX2_init 44 = .ok (.return_, 1) := by decide +kernel
theorem dX2_clear_0 : decode cX2_clear 0 = .ok (.aload_n 0, 1) := by decide +kernel
theorem dX2_clear_1 : decode cX2_clear 1 = .ok (.iconst 0, 1) := by decide +kernel
theorem dX2_clear_2 : decode cX2_clear 2 = .ok (.putfield 27, 3) := by decide +kernel
theorem dX2_clear_5 : decode cX2_clear 5 = .ok (.aload_n 0, 1) := by decide +kernel
theorem dX2_clear_6 : decode cX2_clear 6 = .ok (.iconst 0, 1) := by decide +kernel
theorem dX2_clear_7 : decode cX2_clear 7 = .ok (.putfield 31, 3) := by decide +kernel
theorem dX2_clear_10 : decode cX2_clear 10 = .ok (.aload_n 0, 1) := by decide +kernel
theorem dX2_clear_11 : decode cX2_clear 11 = .ok (.iconst 0, 1) := by decide +kernel
theorem dX2_clear_12 : decode cX2_clear 12 = .ok (.putfield 34, 3) := by decide +kernel
theorem dX2_clear_15 : decode cX2_clear 15 = .ok (.return_, 1) := by decide +kernel
theorem dX2_add_0 : decode cX2_add 0 = .ok (.aload_n 0, 1) := by decide +kernel
theorem dX2_add_1 : decode cX2_add 1 = .ok (.getfield 27, 3) := by decide +kernel
theorem dX2_add_4 : decode cX2_add 4 = .ok (.bipush 8, 2) := by decide +kernel
theorem dX2_add_6 : decode cX2_add 6 = .ok (.if_icmp .lt 4, 3) := by decide +kernel
theorem dX2_add_9 : decode cX2_add 9 = .ok (.return_, 1) := by decide +kernel
theorem dX2_add_10 : decode cX2_add 10 = .ok (.aload_n 0, 1) := by decide +kernel
theorem dX2_add_11 : decode cX2_add 11 = .ok (.getfield 9, 3) := by decide +kernel
theorem dX2_add_14 : decode cX2_add 14 = .ok (.aload_n 0, 1) := by decide +kernel
theorem dX2_add_15 : decode cX2_add 15 = .ok (.getfield 27, 3) := by decide +kernel
theorem dX2_add_18 : decode cX2_add 18 = .ok (.iload_n 1, 1) := by decide +kernel
theorem dX2_add_19 : decode cX2_add 19 = .ok (.iastore, 1) := by decide +kernel
theorem dX2_add_20 : decode cX2_add 20 = .ok (.aload_n 0, 1) := by decide +kernel
theorem dX2_add_21 : decode cX2_add 21 = .ok (.getfield 15, 3) := by decide +kernel
theorem dX2_add_24 : decode cX2_add 24 = .ok (.aload_n 0, 1) := by decide +kernel
theorem dX2_add_25 : decode cX2_add 25 = .ok (.getfield 27, 3) := by decide +kernel
theorem dX2_add_28 : decode cX2_add 28 = .ok (.iload_n 2, 1) := by decide +kernel
theorem dX2_add_29 : decode cX2_add 29 = .ok (.iastore, 1) := by decide +kernel
theorem dX2_add_30 : decode cX2_add 30 = .ok (.aload_n 0, 1) := by decide +kernel
theorem dX2_add_31 : decode cX2_add 31 = .ok (.getfield 18, 3) := by decide +kernel
theorem dX2_add_34 : decode cX2_add 34 = .ok (.aload_n 0, 1) := by decide +kernel
theorem dX2_add_35 : decode cX2_add 35 = .ok (.getfield 27, 3) := by decide +kernel
theorem dX2_add_38 : decode cX2_add 38 = .ok (.iload_n 3, 1) := by decide +kernel
theorem dX2_add_39 : decode cX2_add 39 = .ok (.iastore, 1) := by decide +kernel
theorem dX2_add_40 : decode cX2_add 40 = .ok (.aload_n 0, 1) := by decide +kernel
theorem dX2_add_41 : decode cX2_add 41 = .ok (.getfield 21, 3) := by decide +kernel
theorem dX2_add_44 : decode cX2_add 44 = .ok (.aload_n 0, 1) := by decide +kernel
theorem dX2_add_45 : decode cX2_add 45 = .ok (.getfield 27, 3) := by decide +kernel
theorem dX2_add_48 : decode cX2_add 48 = .ok (.aload_n 0, 1) := by decide +kernel
theorem dX2_add_49 : decode cX2_add 49 = .ok (.getfield 27, 3) := by decide +kernel
theorem dX2_add_52 : decode cX2_add 52 = .ok (.iastore, 1) := by decide +kernel
theorem dX2_add_53 : decode cX2_add 53 = .ok (.aload_n 0, 1) := by decide +kernel
theorem dX2_add_54 : decode cX2_add 54 = .ok (.getfield 24, 3) := by decide +kernel
theorem dX2_add_57 : decode cX2_add 57 = .ok (.aload_n 0, 1) := by decide +kernel
theorem dX2_add_58 : decode cX2_add 58 = .ok (.getfield 27, 3) := by decide +kernel
theorem dX2_add_61 : decode cX2_add 61 = .ok (.iconst 0, 1) := by decide +kernel
theorem dX2_add_62 : decode cX2_add 62 = .ok (.iastore, 1) := by decide +kernel
theorem dX2_add_63 : decode cX2_add 63 = .ok (.aload_n 0, 1) := by decide +kernel
theorem dX2_add_64 : decode cX2_add 64 = .ok (.dup, 1) := by decide +kernel
theorem dX2_add_65 : decode cX2_add 65 = .ok (.getfield 27, 3) := by decide +kernel
theorem dX2_add_68 : decode cX2_add 68 = .ok (.iconst 1, 1) := by decide +kernel
theorem dX2_add_69 : decode cX2_add 69 = .ok (.iadd, 1) := by decide +kernel
theorem dX2_add_70 : decode cX2_add 70 = .ok (.putfield 27, 3) := by decide +kernel
theorem dX2_add_73 : decode cX2_add 73 = .ok (.return_, 1) := by decide +kernel
theorem dX2_become_0 : decode cX2_become 0 = .ok (.aload_n 0, 1) := by decide +kernel
theorem dX2_become_1 : decode cX2_become 1 = .ok (.aload_n 1, 1) := by decide +kernel
theorem dX2_become_2 : decode cX2_become 2 = .ok (.getfield 27, 3) := by decide +kernel
theorem dX2_become_5 : decode cX2_become 5 = .ok (.putfield 27, 3) := by decide +kernel
theorem dX2_become_8 : decode cX2_become 8 = .ok (.aload_n 0, 1) := by decide +kernel
theorem dX2_become_9 : decode cX2_become 9 = .ok (.aload_n 1, 1) := by decide +kernel
theorem dX2_become_10 : decode cX2_become 10 = .ok (.getfield 31, 3) := by decide +kernel
theorem dX2_become_13 : decode cX2_become 13 = .ok (.putfield 31, 3) := by decide +kernel
theorem dX2_become_16 : decode cX2_become 16 = .ok (.aload_n 0, 1) := by decide +kernel
theorem dX2_become_17 : decode cX2_become 17 = .ok (.aload_n 1, 1) := by decide +kernel
theorem dX2_become_18 : decode cX2_become 18 = .ok (.getfield 34, 3) := by decide +kernel
theorem dX2_become_21 : decode cX2_become 21 = .ok (.putfield 34, 3) := by decide +kernel
theorem dX2_become_24 : decode cX2_become 24 = .ok (.aload_n 1, 1) := by decide +kernel
theorem dX2_become_25 : decode cX2_become 25 = .ok (.getfield 9, 3) := by decide +kernel
theorem dX2_become_28 : decode cX2_become 28 = .ok (.iconst 0, 1) := by decide +kernel
theorem dX2_become_29 : decode cX2_become 29 = .ok (.aload_n 0, 1) := by decide +kernel
theorem dX2_become_30 : decode cX2_become 30 = .ok (.getfield 9, 3) := by decide +kernel
theorem dX2_become_33 : decode cX2_become 33 = .ok (.iconst 0, 1) := by decide +kernel
theorem dX2_become_34 : decode cX2_become 34 = .ok (.bipush 8, 2) := by decide +kernel
theorem dX2_become_36 : decode cX2_become 36 = .ok (.invokestatic 37, 3) := by decide +kernel
theorem dX2_become_39 : decode cX2_become 39 = .ok (.aload_n 1, 1) := by decide +kernel
theorem dX2_become_40 : decode cX2_become 40 = .ok (.getfield 15, 3) := by decide +kernel
theorem dX2_become_43 : decode cX2_become 43 = .ok (.iconst 0, 1) := by decide +kernel
theorem dX2_become_44 : decode cX2_become 44 = .ok (.aload_n 0, 1) := by decide +kernel
theorem dX2_become_45 : decode cX2_become 45 = .ok (.getfield 15, 3) := by decide +kernel
theorem dX2_become_48 : decode cX2_become 48 = .ok (.iconst 0, 1) := by decide +kernel
theorem dX2_become_49 : decode cX2_become 49 = .ok (.bipush 8, 2) := by decide +kernel
theorem dX2_become_51 : decode cX2_become 51 = .ok (.invokestatic 37, 3) := by decide +kernel
theorem dX2_become_54 : decode cX2_become 54 = .ok (.aload_n 1, 1) := by decide +kernel
theorem dX2_become_55 : decode cX2_become 55 = .ok (.getfield 18, 3) := by decide +kernel
theorem dX2_become_58 : decode cX2_become 58 = .ok (.iconst 0, 1) := by decide +kernel
theorem dX2_become_59 : decode cX2_become 59 = .ok (.aload_n 0, 1) := by decide +kernel
theorem dX2_become_60 : decode cX2_become 60 = .ok (.getfield 18, 3) := by decide +kernel
theorem dX2_become_63 : decode cX2_become 63 = .ok (.iconst 0, 1) := by decide +kernel
theorem dX2_become_64 : decode cX2_become 64 = .ok (.bipush 8, 2) := by decide +kernel
theorem dX2_become_66 : decode cX2_become 66 = .ok (.invokestatic 37, 3) := by decide +kernel
theorem dX2_become_69 : decode cX2_become 69 = .ok (.aload_n 1, 1) := by decide +kernel
theorem dX2_become_70 : decode cX2_become 70 = .ok (.getfield 21, 3) := by decide +kernel
theorem dX2_become_73 : decode cX2_become 73 = .ok (.iconst 0, 1) := by decide +kernel
theorem dX2_become_74 : decode cX2_become 74 = .ok (.aload_n 0, 1) := by decide +kernel
theorem dX2_become_75 : decode cX2_become 75 = .ok (.getfield 21, 3) := by decide +kernel
theorem dX2_become_78 : decode cX2_become 78 = .ok (.iconst 0, 1) := by decide +kernel
theorem dX2_become_79 : decode cX2_become 79 = .ok (.bipush 8, 2) := by decide +kernel
theorem dX2_become_81 : decode cX2_become 81 = .ok (.invokestatic 37, 3) := by decide +kernel
theorem dX2_become_84 : decode cX2_become 84 = .ok (.aload_n 1, 1) := by decide +kernel
theorem dX2_become_85 : decode cX2_become 85 = .ok (.getfield 24, 3) := by decide +kernel
theorem dX2_become_88 : decode cX2_become 88 = .ok (.iconst 0, 1) := by decide +kernel
theorem dX2_become_89 : decode cX2_become 89 = .ok (.aload_n 0, 1) := by decide +kernel
theorem dX2_become_90 : decode cX2_become 90 = .ok (.getfield 24, 3) := by decide +kernel
theorem dX2_become_93 : decode cX2_become 93 = .ok (.iconst 0, 1) := by decide +kernel
theorem dX2_become_94 : decode cX2_become 94 = .ok (.bipush 8, 2) := by decide +kernel
theorem dX2_become_96 : decode cX2_become 96 = .ok (.invokestatic 37, 3) := by decide +kernel
theorem dX2_become_99 : decode cX2_become 99 = .ok (.return_, 1) := by decide +kernel
theorem dX2_age_0 : decode cX2_age 0 = .ok (.aload_n 0, 1) := by decide +kernel
theorem dX2_age_1 : decode cX2_age 1 = .ok (.dup, 1) := by decide +kernel
theorem dX2_age_2 : decode cX2_age 2 = .ok (.getfield 31, 3) := by decide +kernel
theorem dX2_age_5 : decode cX2_age 5 = .ok (.iconst 1, 1) := by decide +kernel
theorem dX2_age_6 : decode cX2_age 6 = .ok (.iadd, 1) := by decide +kernel
theorem dX2_age_7 : decode cX2_age 7 = .ok (.putfield 31, 3) := by decide +kernel
theorem dX2_age_10 : decode cX2_age 10 = .ok (.iconst 0, 1) := by decide +kernel
theorem dX2_age_11 : decode cX2_age 11 = .ok (.istore_n 1, 1) := by decide +kernel
theorem dX2_age_12 : decode cX2_age 12 = .ok (.iload_n 1, 1) := by decide +kernel
theorem dX2_age_13 : decode cX2_age 13 = .ok (.aload_n 0, 1) := by decide +kernel
theorem dX2_age_14 : decode cX2_age 14 = .ok (.getfield 27, 3) := by decide +kernel
theorem dX2_age_17 : decode cX2_age 17 = .ok (.if_icmp .ge 44, 3) := by decide +kernel
theorem dX2_age_20 : decode cX2_age 20 = .ok (.aload_n 0, 1) := by decide +kernel
theorem dX2_age_21 : decode cX2_age 21 = .ok (.getfield 24, 3) := by decide +kernel
theorem dX2_age_24 : decode cX2_age 24 = .ok (.iload_n 1, 1) := by decide +kernel
theorem dX2_age_25 : decode cX2_age 25 = .ok (.iaload, 1) := by decide +kernel
theorem dX2_age_26 : decode cX2_age 26 = .ok (.ifCond .ne 29, 3) := by decide +kernel
theorem dX2_age_29 : decode cX2_age 29 = .ok (.aload_n 0, 1) := by decide +kernel
theorem dX2_age_30 : decode cX2_age 30 = .ok (.getfield 18, 3) := by decide +kernel
theorem dX2_age_33 : decode cX2_age 33 = .ok (.iload_n 1, 1) := by decide +kernel
theorem dX2_age_34 : decode cX2_age 34 = .ok (.dup2, 1) := by decide +kernel
theorem dX2_age_35 : decode cX2_age 35 = .ok (.iaload, 1) := by decide +kernel
theorem dX2_age_36 : decode cX2_age 36 = .ok (.iconst 1, 1) := by decide +kernel
theorem dX2_age_37 : decode cX2_age 37 = .ok (.isub, 1) := by decide +kernel
theorem dX2_age_38 : decode cX2_age 38 = .ok (.iastore, 1) := by decide +kernel
theorem dX2_age_39 : decode cX2_age 39 = .ok (.aload_n 0, 1) := by decide +kernel
theorem dX2_age_40 : decode cX2_age 40 = .ok (.getfield 18, 3) := by decide +kernel
theorem dX2_age_43 : decode cX2_age 43 = .ok (.iload_n 1, 1) := by decide +kernel
theorem dX2_age_44 : decode cX2_age 44 = .ok (.iaload, 1) := by decide +kernel
theorem dX2_age_45 : decode cX2_age 45 = .ok (.ifCond .gt 10, 3) := by decide +kernel
theorem dX2_age_48 : decode cX2_age 48 = .ok (.aload_n 0, 1) := by decide +kernel
theorem dX2_age_49 : decode cX2_age 49 = .ok (.getfield 24, 3) := by decide +kernel
theorem dX2_age_52 : decode cX2_age 52 = .ok (.iload_n 1, 1) := by decide +kernel
theorem dX2_age_53 : decode cX2_age 53 = .ok (.iconst 2, 1) := by decide +kernel
theorem dX2_age_54 : decode cX2_age 54 = .ok (.iastore, 1) := by decide +kernel
theorem dX2_age_55 : decode cX2_age 55 = .ok (.iinc 1 1, 3) := by decide +kernel
theorem dX2_age_58 : decode cX2_age 58 = .ok (.goto (-46), 3) := by decide +kernel
theorem dX2_age_61 : decode cX2_age 61 = .ok (.return_, 1) := by decide +kernel
theorem dX2_smash_0 : decode cX2_smash 0 = .ok (.iconst 0, 1) := by decide +kernel
theorem dX2_smash_1 : decode cX2_smash 1 = .ok (.istore_n 2, 1) := by decide +kernel
theorem dX2_smash_2 : decode cX2_smash 2 = .ok (.iload_n 2, 1) := by decide +kernel
theorem dX2_smash_3 : decode cX2_smash 3 = .ok (.aload_n 0, 1) := by decide +kernel
theorem dX2_smash_4 : decode cX2_smash 4 = .ok (.getfield 27, 3) := by decide +kernel
theorem dX2_smash_7 : decode cX2_smash 7 = .ok (.if_icmp .ge 24, 3) := by decide +kernel
theorem dX2_smash_10 : decode cX2_smash 10 = .ok (.iload_n 1, 1) := by decide +kernel
theorem dX2_smash_11 : decode cX2_smash 11 = .ok (.iload_n 2, 1) := by decide +kernel
theorem dX2_smash_12 : decode cX2_smash 12 = .ok (.invokestatic 43, 3) := by decide +kernel
theorem dX2_smash_15 : decode cX2_smash 15 = .ok (.ifCond .eq 10, 3) := by decide +kernel
theorem dX2_smash_18 : decode cX2_smash 18 = .ok (.aload_n 0, 1) := by decide +kernel
theorem dX2_smash_19 : decode cX2_smash 19 = .ok (.getfield 24, 3) := by decide +kernel
theorem dX2_smash_22 : decode cX2_smash 22 = .ok (.iload_n 2, 1) := by decide +kernel
theorem dX2_smash_23 : decode cX2_smash 23 = .ok (.iconst 1, 1) := by decide +kernel
theorem dX2_smash_24 : decode cX2_smash 24 = .ok (.iastore, 1) := by decide +kernel
theorem dX2_smash_25 : decode cX2_smash 25 = .ok (.iinc 2 1, 3) := by decide +kernel
theorem dX2_smash_28 : decode cX2_smash 28 = .ok (.goto (-26), 3) := by decide +kernel
theorem dX2_smash_31 : decode cX2_smash 31 = .ok (.return_, 1) := by decide +kernel
theorem dX2_swapPlaces_0 : decode cX2_swapPlaces 0 = .ok (.aload_n 0, 1) := by decide +kernel
theorem dX2_swapPlaces_1 : decode cX2_swapPlaces 1 = .ok (.getfield 21, 3) := by decide +kernel
theorem dX2_swapPlaces_4 : decode cX2_swapPlaces 4 = .ok (.iload_n 1, 1) := by decide +kernel
theorem dX2_swapPlaces_5 : decode cX2_swapPlaces 5 = .ok (.iaload, 1) := by decide +kernel
theorem dX2_swapPlaces_6 : decode cX2_swapPlaces 6 = .ok (.istore_n 3, 1) := by decide +kernel
theorem dX2_swapPlaces_7 : decode cX2_swapPlaces 7 = .ok (.aload_n 0, 1) := by decide +kernel
theorem dX2_swapPlaces_8 : decode cX2_swapPlaces 8 = .ok (.getfield 21, 3) := by decide +kernel
theorem dX2_swapPlaces_11 : decode cX2_swapPlaces 11 = .ok (.iload_n 1, 1) := by decide +kernel
theorem dX2_swapPlaces_12 : decode cX2_swapPlaces 12 = .ok (.aload_n 0, 1) := by decide +kernel
theorem dX2_swapPlaces_13 : decode cX2_swapPlaces 13 = .ok (.getfield 21, 3) := by decide +kernel
theorem dX2_swapPlaces_16 : decode cX2_swapPlaces 16 = .ok (.iload_n 2, 1) := by decide +kernel
theorem dX2_swapPlaces_17 : decode cX2_swapPlaces 17 = .ok (.iaload, 1) := by decide +kernel
theorem dX2_swapPlaces_18 : decode cX2_swapPlaces 18 = .ok (.iastore, 1) := by decide +kernel
theorem dX2_swapPlaces_19 : decode cX2_swapPlaces 19 = .ok (.aload_n 0, 1) := by decide +kernel
theorem dX2_swapPlaces_20 : decode cX2_swapPlaces 20 = .ok (.getfield 21, 3) := by decide +kernel
theorem dX2_swapPlaces_23 : decode cX2_swapPlaces 23 = .ok (.iload_n 2, 1) := by decide +kernel
theorem dX2_swapPlaces_24 : decode cX2_swapPlaces 24 = .ok (.iload_n 3, 1) := by decide +kernel
theorem dX2_swapPlaces_25 : decode cX2_swapPlaces 25 = .ok (.iastore, 1) := by decide +kernel
theorem dX2_swapPlaces_26 : decode cX2_swapPlaces 26 = .ok (.return_, 1) := by decide +kernel
theorem dX2_those_0 : decode cX2_those 0 = .ok (.iconst 0, 1) := by decide +kernel
theorem dX2_those_1 : decode cX2_those 1 = .ok (.istore_n 2, 1) := by decide +kernel
theorem dX2_those_2 : decode cX2_those 2 = .ok (.iconst 0, 1) := by decide +kernel
theorem dX2_those_3 : decode cX2_those 3 = .ok (.istore_n 3, 1) := by decide +kernel
theorem dX2_those_4 : decode cX2_those 4 = .ok (.iload_n 3, 1) := by decide +kernel
theorem dX2_those_5 : decode cX2_those 5 = .ok (.aload_n 0, 1) := by decide +kernel
theorem dX2_those_6 : decode cX2_those 6 = .ok (.getfield 27, 3) := by decide +kernel
theorem dX2_those_9 : decode cX2_those 9 = .ok (.if_icmp .ge 25, 3) := by decide +kernel
theorem dX2_those_12 : decode cX2_those 12 = .ok (.aload_n 0, 1) := by decide +kernel
theorem dX2_those_13 : decode cX2_those 13 = .ok (.getfield 24, 3) := by decide +kernel
theorem dX2_those_16 : decode cX2_those 16 = .ok (.iload_n 3, 1) := by decide +kernel
theorem dX2_those_17 : decode cX2_those 17 = .ok (.iaload, 1) := by decide +kernel
theorem dX2_those_18 : decode cX2_those 18 = .ok (.iload_n 1, 1) := by decide +kernel
theorem dX2_those_19 : decode cX2_those 19 = .ok (.if_icmp .ne 9, 3) := by decide +kernel
theorem dX2_those_22 : decode cX2_those 22 = .ok (.iload_n 2, 1) := by decide +kernel
theorem dX2_those_23 : decode cX2_those 23 = .ok (.iconst 1, 1) := by decide +kernel
theorem dX2_those_24 : decode cX2_those 24 = .ok (.iload_n 3, 1) := by decide +kernel
theorem dX2_those_25 : decode cX2_those 25 = .ok (.ishl, 1) := by decide +kernel
theorem dX2_those_26 : decode cX2_those 26 = .ok (.ior, 1) := by decide +kernel
theorem dX2_those_27 : decode cX2_those 27 = .ok (.istore_n 2, 1) := by decide +kernel
theorem dX2_those_28 : decode cX2_those 28 = .ok (.iinc 3 1, 3) := by decide +kernel
theorem dX2_those_31 : decode cX2_those 31 = .ok (.goto (-27), 3) := by decide +kernel
theorem dX2_those_34 : decode cX2_those 34 = .ok (.iload_n 2, 1) := by decide +kernel
theorem dX2_those_35 : decode cX2_those 35 = .ok (.ireturn, 1) := by decide +kernel
theorem dX2_wholeBehind_0 : decode cX2_wholeBehind 0 = .ok (.iconst 0, 1) := by decide +kernel
theorem dX2_wholeBehind_1 : decode cX2_wholeBehind 1 = .ok (.istore_n 2, 1) := by decide +kernel
theorem dX2_wholeBehind_2 : decode cX2_wholeBehind 2 = .ok (.iconst 0, 1) := by decide +kernel
theorem dX2_wholeBehind_3 : decode cX2_wholeBehind 3 = .ok (.istore_n 3, 1) := by decide +kernel
theorem dX2_wholeBehind_4 : decode cX2_wholeBehind 4 = .ok (.iload_n 3, 1) := by decide +kernel
theorem dX2_wholeBehind_5 : decode cX2_wholeBehind 5 = .ok (.aload_n 0, 1) := by decide +kernel
theorem dX2_wholeBehind_6 : decode cX2_wholeBehind 6 = .ok (.getfield 27, 3) := by decide +kernel
theorem dX2_wholeBehind_9 : decode cX2_wholeBehind 9 = .ok (.if_icmp .ge 34, 3) := by decide +kernel
theorem dX2_wholeBehind_12 : decode cX2_wholeBehind 12 = .ok (.aload_n 0, 1) := by decide +kernel
theorem dX2_wholeBehind_13 : decode cX2_wholeBehind 13 = .ok (.getfield 24, 3) := by decide +kernel
theorem dX2_wholeBehind_16 : decode cX2_wholeBehind 16 = .ok (.iload_n 3, 1) := by decide +kernel
theorem dX2_wholeBehind_17 : decode cX2_wholeBehind 17 = .ok (.iaload, 1) := by decide +kernel
theorem dX2_wholeBehind_18 : decode cX2_wholeBehind 18 = .ok (.ifCond .ne 19, 3) := by decide +kernel
theorem dX2_wholeBehind_21 : decode cX2_wholeBehind 21 = .ok (.aload_n 0, 1) := by decide +kernel
theorem dX2_wholeBehind_22 : decode cX2_wholeBehind 22 = .ok (.getfield 18, 3) := by decide +kernel
theorem dX2_wholeBehind_25 : decode cX2_wholeBehind 25 = .ok (.iload_n 3, 1) := by decide +kernel
theorem dX2_wholeBehind_26 : decode cX2_wholeBehind 26 = .ok (.iaload, 1) := by decide +kernel
theorem dX2_wholeBehind_27 : decode cX2_wholeBehind 27 = .ok (.iload_n 1, 1) := by decide +kernel
theorem dX2_wholeBehind_28 : decode cX2_wholeBehind 28 = .ok (.if_icmp .le 9, 3) := by decide +kernel
theorem dX2_wholeBehind_31 : decode cX2_wholeBehind 31 = .ok (.iload_n 2, 1) := by decide +kernel
theorem dX2_wholeBehind_32 : decode cX2_wholeBehind 32 = .ok (.iconst 1, 1) := by decide +kernel
theorem dX2_wholeBehind_33 : decode cX2_wholeBehind 33 = .ok (.iload_n 3, 1) := by decide +kernel
theorem dX2_wholeBehind_34 : decode cX2_wholeBehind 34 = .ok (.ishl, 1) := by decide +kernel
theorem dX2_wholeBehind_35 : decode cX2_wholeBehind 35 = .ok (.ior, 1) := by decide +kernel
theorem dX2_wholeBehind_36 : decode cX2_wholeBehind 36 = .ok (.istore_n 2, 1) := by decide +kernel
theorem dX2_wholeBehind_37 : decode cX2_wholeBehind 37 = .ok (.iinc 3 1, 3) := by decide +kernel
theorem dX2_wholeBehind_40 : decode cX2_wholeBehind 40 = .ok (.goto (-36), 3) := by decide +kernel
theorem dX2_wholeBehind_43 : decode cX2_wholeBehind 43 = .ok (.iload_n 2, 1) := by decide +kernel
theorem dX2_wholeBehind_44 : decode cX2_wholeBehind 44 = .ok (.ireturn, 1) := by decide +kernel
