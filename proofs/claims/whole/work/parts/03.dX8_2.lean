theorem dX8_chain_42 : decode cX8_chain 42 = .ok (.getfield 19, 3) := by decide +kernel
theorem dX8_chain_45 : decode cX8_chain 45 = .ok (.iconst 0, 1) := by decide +kernel
theorem dX8_chain_46 : decode cX8_chain 46 = .ok (.invokestatic 175, 3) := by decide +kernel
theorem dX8_chain_49 : decode cX8_chain 49 = .ok (.invokevirtual 179, 3) := by decide +kernel
theorem dX8_chain_52 : decode cX8_chain 52 = .ok (.istore 4, 2) := by decide +kernel
theorem dX8_chain_54 : decode cX8_chain 54 = .ok (.iload_n 3, 1) := by decide +kernel
theorem dX8_chain_55 : decode cX8_chain 55 = .ok (.ifCond .ne 8, 3) := by decide +kernel
theorem dX8_chain_58 : decode cX8_chain 58 = .ok (.iload 4, 2) := by decide +kernel
theorem dX8_chain_60 : decode cX8_chain 60 = .ok (.goto 7, 3) := by decide +kernel
theorem dX8_chain_63 : decode cX8_chain 63 = .ok (.aload_n 0, 1) := by decide +kernel
theorem dX8_chain_64 : decode cX8_chain 64 = .ok (.getfield 164, 3) := by decide +kernel
theorem dX8_chain_67 : decode cX8_chain 67 = .ok (.ireturn, 1) := by decide +kernel
theorem dX8_worst_0 : decode cX8_worst 0 = .ok (.aload_n 0, 1) := by decide +kernel
theorem dX8_worst_1 : decode cX8_worst 1 = .ok (.iconst 0, 1) := by decide +kernel
theorem dX8_worst_2 : decode cX8_worst 2 = .ok (.putfield 50, 3) := by decide +kernel
theorem dX8_worst_5 : decode cX8_worst 5 = .ok (.aload_n 0, 1) := by decide +kernel
theorem dX8_worst_6 : decode cX8_worst 6 = .ok (.invokevirtual 196, 3) := by decide +kernel
theorem dX8_worst_9 : decode cX8_worst 9 = .ok (.ifCond .ne 6, 3) := by decide +kernel
theorem dX8_worst_12 : decode cX8_worst 12 = .ok (.ldc 199, 2) := by decide +kernel
theorem dX8_worst_14 : decode cX8_worst 14 = .ok (.ireturn, 1) := by decide +kernel
theorem dX8_worst_15 : decode cX8_worst 15 = .ok (.iload_n 1, 1) := by decide +kernel
theorem dX8_worst_16 : decode cX8_worst 16 = .ok (.i2l, 1) := by decide +kernel
theorem dX8_worst_17 : decode cX8_worst 17 = .ok (.lconst 0, 1) := by decide +kernel
theorem dX8_worst_18 : decode cX8_worst 18 = .ok (.lconst 1, 1) := by decide +kernel
theorem dX8_worst_19 : decode cX8_worst 19 = .ok (.invokestatic 60, 3) := by decide +kernel
theorem dX8_worst_22 : decode cX8_worst 22 = .ok (.ifCond .ne 6, 3) := by decide +kernel
theorem dX8_worst_25 : decode cX8_worst 25 = .ok (.ldc 70, 2) := by decide +kernel
theorem dX8_worst_27 : decode cX8_worst 27 = .ok (.ireturn, 1) := by decide +kernel
theorem dX8_worst_28 : decode cX8_worst 28 = .ok (.aload_n 0, 1) := by decide +kernel
theorem dX8_worst_29 : decode cX8_worst 29 = .ok (.aload_n 0, 1) := by decide +kernel
theorem dX8_worst_30 : decode cX8_worst 30 = .ok (.getfield 19, 3) := by decide +kernel
theorem dX8_worst_33 : decode cX8_worst 33 = .ok (.invokevirtual 229, 3) := by decide +kernel
theorem dX8_worst_36 : decode cX8_worst 36 = .ok (.istore_n 2, 1) := by decide +kernel
theorem dX8_worst_37 : decode cX8_worst 37 = .ok (.iload_n 1, 1) := by decide +kernel
theorem dX8_worst_38 : decode cX8_worst 38 = .ok (.ifCond .ne 18, 3) := by decide +kernel
theorem dX8_worst_41 : decode cX8_worst 41 = .ok (.bipush 100, 2) := by decide +kernel
theorem dX8_worst_43 : decode cX8_worst 43 = .ok (.aload_n 0, 1) := by decide +kernel
theorem dX8_worst_44 : decode cX8_worst 44 = .ok (.getfield 186, 3) := by decide +kernel
theorem dX8_worst_47 : decode cX8_worst 47 = .ok (.imul, 1) := by decide +kernel
theorem dX8_worst_48 : decode cX8_worst 48 = .ok (.aload_n 0, 1) := by decide +kernel
theorem dX8_worst_49 : decode cX8_worst 49 = .ok (.getfield 189, 3) := by decide +kernel
theorem dX8_worst_52 : decode cX8_worst 52 = .ok (.iadd, 1) := by decide +kernel
theorem dX8_worst_53 : decode cX8_worst 53 = .ok (.goto 4, 3) := by decide +kernel
theorem dX8_worst_56 : decode cX8_worst 56 = .ok (.iload_n 2, 1) := by decide +kernel
theorem dX8_worst_57 : decode cX8_worst 57 = .ok (.ireturn, 1) := by decide +kernel
theorem dX8_when_0 : decode cX8_when 0 = .ok (.aload_n 0, 1) := by decide +kernel
theorem dX8_when_1 : decode cX8_when 1 = .ok (.iconst 0, 1) := by decide +kernel
theorem dX8_when_2 : decode cX8_when 2 = .ok (.putfield 50, 3) := by decide +kernel
theorem dX8_when_5 : decode cX8_when 5 = .ok (.aload_n 0, 1) := by decide +kernel
theorem dX8_when_6 : decode cX8_when 6 = .ok (.iload_n 1, 1) := by decide +kernel
theorem dX8_when_7 : decode cX8_when 7 = .ok (.invokevirtual 213, 3) := by decide +kernel
theorem dX8_when_10 : decode cX8_when 10 = .ok (.ifCond .ne 6, 3) := by decide +kernel
theorem dX8_when_13 : decode cX8_when 13 = .ok (.ldc 70, 2) := by decide +kernel
theorem dX8_when_15 : decode cX8_when 15 = .ok (.ireturn, 1) := by decide +kernel
theorem dX8_when_16 : decode cX8_when 16 = .ok (.aload_n 0, 1) := by decide +kernel
theorem dX8_when_17 : decode cX8_when 17 = .ok (.getfield 19, 3) := by decide +kernel
theorem dX8_when_20 : decode cX8_when 20 = .ok (.iload_n 1, 1) := by decide +kernel
theorem dX8_when_21 : decode cX8_when 21 = .ok (.iconst 4, 1) := by decide +kernel
theorem dX8_when_22 : decode cX8_when 22 = .ok (.invokestatic 154, 3) := by decide +kernel
theorem dX8_when_25 : decode cX8_when 25 = .ok (.istore_n 2, 1) := by decide +kernel
theorem dX8_when_26 : decode cX8_when 26 = .ok (.iload_n 2, 1) := by decide +kernel
theorem dX8_when_27 : decode cX8_when 27 = .ok (.ifCond .ne 15, 3) := by decide +kernel
theorem dX8_when_30 : decode cX8_when 30 = .ok (.aload_n 0, 1) := by decide +kernel
theorem dX8_when_31 : decode cX8_when 31 = .ok (.getfield 19, 3) := by decide +kernel
theorem dX8_when_34 : decode cX8_when 34 = .ok (.iload_n 1, 1) := by decide +kernel
theorem dX8_when_35 : decode cX8_when 35 = .ok (.iconst 2, 1) := by decide +kernel
theorem dX8_when_36 : decode cX8_when 36 = .ok (.invokestatic 154, 3) := by decide +kernel
theorem dX8_when_39 : decode cX8_when 39 = .ok (.goto 14, 3) := by decide +kernel
theorem dX8_when_42 : decode cX8_when 42 = .ok (.iload_n 2, 1) := by decide +kernel
theorem dX8_when_43 : decode cX8_when 43 = .ok (.iconst 2, 1) := by decide +kernel
theorem dX8_when_44 : decode cX8_when 44 = .ok (.if_icmp .ne 7, 3) := by decide +kernel
theorem dX8_when_47 : decode cX8_when 47 = .ok (.iconst 0, 1) := by decide +kernel
theorem dX8_when_48 : decode cX8_when 48 = .ok (.goto 5, 3) := by decide +kernel
theorem dX8_when_51 : decode cX8_when 51 = .ok (.ldc 93, 2) := by decide +kernel
theorem dX8_when_53 : decode cX8_when 53 = .ok (.ireturn, 1) := by decide +kernel
theorem dX8_kept_0 : decode cX8_kept 0 = .ok (.aload_n 0, 1) := by decide +kernel
theorem dX8_kept_1 : decode cX8_kept 1 = .ok (.iconst 0, 1) := by decide +kernel
theorem dX8_kept_2 : decode cX8_kept 2 = .ok (.putfield 50, 3) := by decide +kernel
theorem dX8_kept_5 : decode cX8_kept 5 = .ok (.aload_n 0, 1) := by decide +kernel
theorem dX8_kept_6 : decode cX8_kept 6 = .ok (.invokevirtual 196, 3) := by decide +kernel
theorem dX8_kept_9 : decode cX8_kept 9 = .ok (.ifCond .ne 6, 3) := by decide +kernel
theorem dX8_kept_12 : decode cX8_kept 12 = .ok (.ldc 199, 2) := by decide +kernel
theorem dX8_kept_14 : decode cX8_kept 14 = .ok (.ireturn, 1) := by decide +kernel
theorem dX8_kept_15 : decode cX8_kept 15 = .ok (.iload_n 1, 1) := by decide +kernel
theorem dX8_kept_16 : decode cX8_kept 16 = .ok (.i2l, 1) := by decide +kernel
theorem dX8_kept_17 : decode cX8_kept 17 = .ok (.lconst 0, 1) := by decide +kernel
theorem dX8_kept_18 : decode cX8_kept 18 = .ok (.ldc2_w 223, 3) := by decide +kernel
theorem dX8_kept_21 : decode cX8_kept 21 = .ok (.invokestatic 60, 3) := by decide +kernel
theorem dX8_kept_24 : decode cX8_kept 24 = .ok (.ifCond .ne 6, 3) := by decide +kernel
theorem dX8_kept_27 : decode cX8_kept 27 = .ok (.ldc 70, 2) := by decide +kernel
theorem dX8_kept_29 : decode cX8_kept 29 = .ok (.ireturn, 1) := by decide +kernel
theorem dX8_kept_30 : decode cX8_kept 30 = .ok (.aload_n 0, 1) := by decide +kernel
theorem dX8_kept_31 : decode cX8_kept 31 = .ok (.invokevirtual 233, 3) := by decide +kernel
theorem dX8_kept_34 : decode cX8_kept 34 = .ok (.iconst 0, 1) := by decide +kernel
theorem dX8_kept_35 : decode cX8_kept 35 = .ok (.istore_n 2, 1) := by decide +kernel
theorem dX8_kept_36 : decode cX8_kept 36 = .ok (.iload_n 2, 1) := by decide +kernel
theorem dX8_kept_37 : decode cX8_kept 37 = .ok (.iload_n 1, 1) := by decide +kernel
theorem dX8_kept_38 : decode cX8_kept 38 = .ok (.if_icmp .ge 16, 3) := by decide +kernel
theorem dX8_kept_41 : decode cX8_kept 41 = .ok (.aload_n 0, 1) := by decide +kernel
theorem dX8_kept_42 : decode cX8_kept 42 = .ok (.getfield 25, 3) := by decide +kernel
theorem dX8_kept_45 : decode cX8_kept 45 = .ok (.invokestatic 205, 3) := by decide +kernel
theorem dX8_kept_48 : decode cX8_kept 48 = .ok (.iinc 2 1, 3) := by decide +kernel
theorem dX8_kept_51 : decode cX8_kept 51 = .ok (.goto (-15), 3) := by decide +kernel
theorem dX8_kept_54 : decode cX8_kept 54 = .ok (.aload_n 0, 1) := by decide +kernel
theorem dX8_kept_55 : decode cX8_kept 55 = .ok (.getfield 25, 3) := by decide +kernel
theorem dX8_kept_58 : decode cX8_kept 58 = .ok (.iconst 0, 1) := by decide +kernel
theorem dX8_kept_59 : decode cX8_kept 59 = .ok (.invokestatic 175, 3) := by decide +kernel
theorem dX8_kept_62 : decode cX8_kept 62 = .ok (.ireturn, 1) := by decide +kernel
theorem dX8_guard_0 : decode cX8_guard 0 = .ok (.aload_n 0, 1) := by decide +kernel
theorem dX8_guard_1 : decode cX8_guard 1 = .ok (.iconst 0, 1) := by decide +kernel
theorem dX8_guard_2 : decode cX8_guard 2 = .ok (.putfield 50, 3) := by decide +kernel
theorem dX8_guard_5 : decode cX8_guard 5 = .ok (.iload_n 1, 1) := by decide +kernel
theorem dX8_guard_6 : decode cX8_guard 6 = .ok (.i2l, 1) := by decide +kernel
theorem dX8_guard_7 : decode cX8_guard 7 = .ok (.invokestatic 209, 3) := by decide +kernel
theorem dX8_guard_10 : decode cX8_guard 10 = .ok (.ifCond .eq 34, 3) := by decide +kernel
theorem dX8_guard_13 : decode cX8_guard 13 = .ok (.aload_n 0, 1) := by decide +kernel
theorem dX8_guard_14 : decode cX8_guard 14 = .ok (.iload_n 2, 1) := by decide +kernel
theorem dX8_guard_15 : decode cX8_guard 15 = .ok (.invokevirtual 213, 3) := by decide +kernel
theorem dX8_guard_18 : decode cX8_guard 18 = .ok (.ifCond .eq 26, 3) := by decide +kernel
theorem dX8_guard_21 : decode cX8_guard 21 = .ok (.iload_n 3, 1) := by decide +kernel
theorem dX8_guard_22 : decode cX8_guard 22 = .ok (.i2l, 1) := by decide +kernel
theorem dX8_guard_23 : decode cX8_guard 23 = .ok (.lconst 0, 1) := by decide +kernel
theorem dX8_guard_24 : decode cX8_guard 24 = .ok (.ldc2_w 225, 3) := by decide +kernel
theorem dX8_guard_27 : decode cX8_guard 27 = .ok (.invokestatic 60, 3) := by decide +kernel
theorem dX8_guard_30 : decode cX8_guard 30 = .ok (.ifCond .eq 14, 3) := by decide +kernel
theorem dX8_guard_33 : decode cX8_guard 33 = .ok (.iload 4, 2) := by decide +kernel
theorem dX8_guard_35 : decode cX8_guard 35 = .ok (.i2l, 1) := by decide +kernel
theorem dX8_guard_36 : decode cX8_guard 36 = .ok (.lconst 0, 1) := by decide +kernel
theorem dX8_guard_37 : decode cX8_guard 37 = .ok (.lconst 1, 1) := by decide +kernel
theorem dX8_guard_38 : decode cX8_guard 38 = .ok (.invokestatic 60, 3) := by decide +kernel
theorem dX8_guard_41 : decode cX8_guard 41 = .ok (.ifCond .ne 6, 3) := by decide +kernel
theorem dX8_guard_44 : decode cX8_guard 44 = .ok (.ldc 70, 2) := by decide +kernel
theorem dX8_guard_46 : decode cX8_guard 46 = .ok (.ireturn, 1) := by decide +kernel
theorem dX8_guard_47 : decode cX8_guard 47 = .ok (.aload_n 0, 1) := by decide +kernel
theorem dX8_guard_48 : decode cX8_guard 48 = .ok (.getfield 19, 3) := by decide +kernel
theorem dX8_guard_51 : decode cX8_guard 51 = .ok (.iconst 0, 1) := by decide +kernel
theorem dX8_guard_52 : decode cX8_guard 52 = .ok (.invokestatic 175, 3) := by decide +kernel
theorem dX8_guard_55 : decode cX8_guard 55 = .ok (.istore 5, 2) := by decide +kernel
theorem dX8_guard_57 : decode cX8_guard 57 = .ok (.ldc 93, 2) := by decide +kernel
theorem dX8_guard_59 : decode cX8_guard 59 = .ok (.istore 6, 2) := by decide +kernel
theorem dX8_guard_61 : decode cX8_guard 61 = .ok (.iconst 0, 1) := by decide +kernel
theorem dX8_guard_62 : decode cX8_guard 62 = .ok (.istore 7, 2) := by decide +kernel
theorem dX8_guard_64 : decode cX8_guard 64 = .ok (.iload 7, 2) := by decide +kernel
theorem dX8_guard_66 : decode cX8_guard 66 = .ok (.iconst 1, 1) := by decide +kernel
theorem dX8_guard_67 : decode cX8_guard 67 = .ok (.aload_n 0, 1) := by decide +kernel
theorem dX8_guard_68 : decode cX8_guard 68 = .ok (.getfield 19, 3) := by decide +kernel
theorem dX8_guard_71 : decode cX8_guard 71 = .ok (.iconst 0, 1) := by decide +kernel
theorem dX8_guard_72 : decode cX8_guard 72 = .ok (.iaload, 1) := by decide +kernel
theorem dX8_guard_73 : decode cX8_guard 73 = .ok (.ishl, 1) := by decide +kernel
theorem dX8_guard_74 : decode cX8_guard 74 = .ok (.if_icmp .ge 79, 3) := by decide +kernel
theorem dX8_guard_77 : decode cX8_guard 77 = .ok (.iload 7, 2) := by decide +kernel
theorem dX8_guard_79 : decode cX8_guard 79 = .ok (.iload 5, 2) := by decide +kernel
theorem dX8_guard_81 : decode cX8_guard 81 = .ok (.iconst (-1), 1) := by decide +kernel
theorem dX8_guard_82 : decode cX8_guard 82 = .ok (.ixor, 1) := by decide +kernel
theorem dX8_guard_83 : decode cX8_guard 83 = .ok (.iand, 1) := by decide +kernel
theorem dX8_guard_84 : decode cX8_guard 84 = .ok (.ifCond .ne 27, 3) := by decide +kernel
theorem dX8_guard_87 : decode cX8_guard 87 = .ok (.iload 6, 2) := by decide +kernel
theorem dX8_guard_89 : decode cX8_guard 89 = .ok (.ldc 93, 2) := by decide +kernel
theorem dX8_guard_91 : decode cX8_guard 91 = .ok (.if_icmp .eq 16, 3) := by decide +kernel
theorem dX8_guard_94 : decode cX8_guard 94 = .ok (.iload 7, 2) := by decide +kernel
theorem dX8_guard_96 : decode cX8_guard 96 = .ok (.invokestatic 183, 3) := by decide +kernel
theorem dX8_guard_99 : decode cX8_guard 99 = .ok (.iload 6, 2) := by decide +kernel
theorem dX8_guard_101 : decode cX8_guard 101 = .ok (.invokestatic 183, 3) := by decide +kernel
theorem dX8_guard_104 : decode cX8_guard 104 = .ok (.if_icmp .ge 7, 3) := by decide +kernel
theorem dX8_guard_107 : decode cX8_guard 107 = .ok (.iconst 1, 1) := by decide +kernel
theorem dX8_guard_108 : decode cX8_guard 108 = .ok (.goto 4, 3) := by decide +kernel
theorem dX8_guard_111 : decode cX8_guard 111 = .ok (.iconst 0, 1) := by decide +kernel
theorem dX8_guard_112 : decode cX8_guard 112 = .ok (.istore 8, 2) := by decide +kernel
theorem dX8_guard_114 : decode cX8_guard 114 = .ok (.iload 8, 2) := by decide +kernel
theorem dX8_guard_116 : decode cX8_guard 116 = .ok (.ifCond .eq 31, 3) := by decide +kernel
theorem dX8_guard_119 : decode cX8_guard 119 = .ok (.aload_n 0, 1) := by decide +kernel
theorem dX8_guard_120 : decode cX8_guard 120 = .ok (.aload_n 0, 1) := by decide +kernel
theorem dX8_guard_121 : decode cX8_guard 121 = .ok (.getfield 19, 3) := by decide +kernel
theorem dX8_guard_124 : decode cX8_guard 124 = .ok (.iload_n 1, 1) := by decide +kernel
theorem dX8_guard_125 : decode cX8_guard 125 = .ok (.iload_n 2, 1) := by decide +kernel
theorem dX8_guard_126 : decode cX8_guard 126 = .ok (.iload 5, 2) := by decide +kernel
theorem dX8_guard_128 : decode cX8_guard 128 = .ok (.iload 7, 2) := by decide +kernel
theorem dX8_guard_130 : decode cX8_guard 130 = .ok (.iconst (-1), 1) := by decide +kernel
theorem dX8_guard_131 : decode cX8_guard 131 = .ok (.ixor, 1) := by decide +kernel
theorem dX8_guard_132 : decode cX8_guard 132 = .ok (.iand, 1) := by decide +kernel
theorem dX8_guard_133 : decode cX8_guard 133 = .ok (.invokevirtual 179, 3) := by decide +kernel
theorem dX8_guard_136 : decode cX8_guard 136 = .ok (.invokestatic 183, 3) := by decide +kernel
theorem dX8_guard_139 : decode cX8_guard 139 = .ok (.iload_n 3, 1) := by decide +kernel
theorem dX8_guard_140 : decode cX8_guard 140 = .ok (.if_icmp .gt 7, 3) := by decide +kernel
theorem dX8_guard_143 : decode cX8_guard 143 = .ok (.iload 7, 2) := by decide +kernel
theorem dX8_guard_145 : decode cX8_guard 145 = .ok (.istore 6, 2) := by decide +kernel
theorem dX8_guard_147 : decode cX8_guard 147 = .ok (.iinc 7 1, 3) := by decide +kernel
theorem dX8_guard_150 : decode cX8_guard 150 = .ok (.goto (-86), 3) := by decide +kernel
theorem dX8_guard_153 : decode cX8_guard 153 = .ok (.iload 4, 2) := by decide +kernel
theorem dX8_guard_155 : decode cX8_guard 155 = .ok (.ifCond .ne 11, 3) := by decide +kernel
theorem dX8_guard_158 : decode cX8_guard 158 = .ok (.iload 6, 2) := by decide +kernel
theorem dX8_guard_160 : decode cX8_guard 160 = .ok (.invokestatic 183, 3) := by decide +kernel
theorem dX8_guard_163 : decode cX8_guard 163 = .ok (.goto 5, 3) := by decide +kernel
theorem dX8_guard_166 : decode cX8_guard 166 = .ok (.iload 6, 2) := by decide +kernel
theorem dX8_guard_168 : decode cX8_guard 168 = .ok (.ireturn, 1) := by decide +kernel
theorem dX8_changes_0 : decode cX8_changes 0 = .ok (.aload_n 0, 1) := by decide +kernel
theorem dX8_changes_1 : decode cX8_changes 1 = .ok (.iconst 0, 1) := by decide +kernel
theorem dX8_changes_2 : decode cX8_changes 2 = .ok (.putfield 50, 3) := by decide +kernel
theorem dX8_changes_5 : decode cX8_changes 5 = .ok (.aload_n 0, 1) := by decide +kernel
theorem dX8_changes_6 : decode cX8_changes 6 = .ok (.invokevirtual 196, 3) := by decide +kernel
theorem dX8_changes_9 : decode cX8_changes 9 = .ok (.ifCond .ne 6, 3) := by decide +kernel
theorem dX8_changes_12 : decode cX8_changes 12 = .ok (.ldc 199, 2) := by decide +kernel
theorem dX8_changes_14 : decode cX8_changes 14 = .ok (.ireturn, 1) := by decide +kernel
theorem dX8_changes_15 : decode cX8_changes 15 = .ok (.iload_n 1, 1) := by decide +kernel
theorem dX8_changes_16 : decode cX8_changes 16 = .ok (.i2l, 1) := by decide +kernel
theorem dX8_changes_17 : decode cX8_changes 17 = .ok (.lconst 0, 1) := by decide +kernel
theorem dX8_changes_18 : decode cX8_changes 18 = .ok (.lconst 1, 1) := by decide +kernel
theorem dX8_changes_19 : decode cX8_changes 19 = .ok (.invokestatic 60, 3) := by decide +kernel
theorem dX8_changes_22 : decode cX8_changes 22 = .ok (.ifCond .ne 6, 3) := by decide +kernel
theorem dX8_changes_25 : decode cX8_changes 25 = .ok (.ldc 70, 2) := by decide +kernel
theorem dX8_changes_27 : decode cX8_changes 27 = .ok (.ireturn, 1) := by decide +kernel
theorem dX8_changes_28 : decode cX8_changes 28 = .ok (.aload_n 0, 1) := by decide +kernel
theorem dX8_changes_29 : decode cX8_changes 29 = .ok (.aload_n 0, 1) := by decide +kernel
theorem dX8_changes_30 : decode cX8_changes 30 = .ok (.getfield 19, 3) := by decide +kernel
theorem dX8_changes_33 : decode cX8_changes 33 = .ok (.invokevirtual 229, 3) := by decide +kernel
theorem dX8_changes_36 : decode cX8_changes 36 = .ok (.istore_n 2, 1) := by decide +kernel
theorem dX8_changes_37 : decode cX8_changes 37 = .ok (.ldc 93, 2) := by decide +kernel
theorem dX8_changes_39 : decode cX8_changes 39 = .ok (.istore_n 3, 1) := by decide +kernel
theorem dX8_changes_40 : decode cX8_changes 40 = .ok (.iconst 0, 1) := by decide +kernel
theorem dX8_changes_41 : decode cX8_changes 41 = .ok (.istore 4, 2) := by decide +kernel
theorem dX8_changes_43 : decode cX8_changes 43 = .ok (.iload 4, 2) := by decide +kernel
theorem dX8_changes_45 : decode cX8_changes 45 = .ok (.aload_n 0, 1) := by decide +kernel
theorem dX8_changes_46 : decode cX8_changes 46 = .ok (.getfield 19, 3) := by decide +kernel
theorem dX8_changes_49 : decode cX8_changes 49 = .ok (.iconst 0, 1) := by decide +kernel
theorem dX8_changes_50 : decode cX8_changes 50 = .ok (.iaload, 1) := by decide +kernel
theorem dX8_changes_51 : decode cX8_changes 51 = .ok (.if_icmp .ge 75, 3) := by decide +kernel
theorem dX8_changes_54 : decode cX8_changes 54 = .ok (.iload 4, 2) := by decide +kernel
theorem dX8_changes_56 : decode cX8_changes 56 = .ok (.iconst 1, 1) := by decide +kernel
theorem dX8_changes_57 : decode cX8_changes 57 = .ok (.iadd, 1) := by decide +kernel
theorem dX8_changes_58 : decode cX8_changes 58 = .ok (.istore 5, 2) := by decide +kernel
theorem dX8_changes_60 : decode cX8_changes 60 = .ok (.iload 5, 2) := by decide +kernel
theorem dX8_changes_62 : decode cX8_changes 62 = .ok (.aload_n 0, 1) := by decide +kernel
theorem dX8_changes_63 : decode cX8_changes 63 = .ok (.getfield 19, 3) := by decide +kernel
theorem dX8_changes_66 : decode cX8_changes 66 = .ok (.iconst 0, 1) := by decide +kernel
theorem dX8_changes_67 : decode cX8_changes 67 = .ok (.iaload, 1) := by decide +kernel
theorem dX8_changes_68 : decode cX8_changes 68 = .ok (.if_icmp .ge 52, 3) := by decide +kernel
theorem dX8_changes_71 : decode cX8_changes 71 = .ok (.aload_n 0, 1) := by decide +kernel
theorem dX8_changes_72 : decode cX8_changes 72 = .ok (.invokevirtual 233, 3) := by decide +kernel
theorem dX8_changes_75 : decode cX8_changes 75 = .ok (.aload_n 0, 1) := by decide +kernel
theorem dX8_changes_76 : decode cX8_changes 76 = .ok (.getfield 25, 3) := by decide +kernel
theorem dX8_changes_79 : decode cX8_changes 79 = .ok (.iload 4, 2) := by decide +kernel
theorem dX8_changes_81 : decode cX8_changes 81 = .ok (.iload 5, 2) := by decide +kernel
theorem dX8_changes_83 : decode cX8_changes 83 = .ok (.invokestatic 220, 3) := by decide +kernel
theorem dX8_changes_86 : decode cX8_changes 86 = .ok (.aload_n 0, 1) := by decide +kernel
theorem dX8_changes_87 : decode cX8_changes 87 = .ok (.aload_n 0, 1) := by decide +kernel
theorem dX8_changes_88 : decode cX8_changes 88 = .ok (.getfield 25, 3) := by decide +kernel
theorem dX8_changes_91 : decode cX8_changes 91 = .ok (.invokevirtual 229, 3) := by decide +kernel
theorem dX8_changes_94 : decode cX8_changes 94 = .ok (.istore 6, 2) := by decide +kernel
theorem dX8_changes_96 : decode cX8_changes 96 = .ok (.iload 6, 2) := by decide +kernel
theorem dX8_changes_98 : decode cX8_changes 98 = .ok (.iload_n 2, 1) := by decide +kernel
theorem dX8_changes_99 : decode cX8_changes 99 = .ok (.if_icmp .ge 15, 3) := by decide +kernel
theorem dX8_changes_102 : decode cX8_changes 102 = .ok (.iload 6, 2) := by decide +kernel
theorem dX8_changes_104 : decode cX8_changes 104 = .ok (.istore_n 2, 1) := by decide +kernel
theorem dX8_changes_105 : decode cX8_changes 105 = .ok (.bipush 10, 2) := by decide +kernel
theorem dX8_changes_107 : decode cX8_changes 107 = .ok (.iload 4, 2) := by decide +kernel
theorem dX8_changes_109 : decode cX8_changes 109 = .ok (.imul, 1) := by decide +kernel
theorem dX8_changes_110 : decode cX8_changes 110 = .ok (.iload 5, 2) := by decide +kernel
theorem dX8_changes_112 : decode cX8_changes 112 = .ok (.iadd, 1) := by decide +kernel
theorem dX8_changes_113 : decode cX8_changes 113 = .ok (.istore_n 3, 1) := by decide +kernel
theorem dX8_changes_114 : decode cX8_changes 114 = .ok (.iinc 5 1, 3) := by decide +kernel
theorem dX8_changes_117 : decode cX8_changes 117 = .ok (.goto (-57), 3) := by decide +kernel
theorem dX8_changes_120 : decode cX8_changes 120 = .ok (.iinc 4 1, 3) := by decide +kernel
theorem dX8_changes_123 : decode cX8_changes 123 = .ok (.goto (-80), 3) := by decide +kernel
theorem dX8_changes_126 : decode cX8_changes 126 = .ok (.iload_n 3, 1) := by decide +kernel
theorem dX8_changes_127 : decode cX8_changes 127 = .ok (.ldc 93, 2) := by decide +kernel
theorem dX8_changes_129 : decode cX8_changes 129 = .ok (.if_icmp .eq 7, 3) := by decide +kernel
theorem dX8_changes_132 : decode cX8_changes 132 = .ok (.iload_n 1, 1) := by decide +kernel
theorem dX8_changes_133 : decode cX8_changes 133 = .ok (.ifCond .ne 7, 3) := by decide +kernel
theorem dX8_changes_136 : decode cX8_changes 136 = .ok (.iload_n 3, 1) := by decide +kernel
theorem dX8_changes_137 : decode cX8_changes 137 = .ok (.goto 4, 3) := by decide +kernel
theorem dX8_changes_140 : decode cX8_changes 140 = .ok (.iload_n 2, 1) := by decide +kernel
theorem dX8_changes_141 : decode cX8_changes 141 = .ok (.ireturn, 1) := by decide +kernel
theorem dX8_tuned_0 : decode cX8_tuned 0 = .ok (.aload_n 0, 1) := by decide +kernel
theorem dX8_tuned_1 : decode cX8_tuned 1 = .ok (.iconst 0, 1) := by decide +kernel
theorem dX8_tuned_2 : decode cX8_tuned 2 = .ok (.putfield 50, 3) := by decide +kernel
theorem dX8_tuned_5 : decode cX8_tuned 5 = .ok (.aload_n 0, 1) := by decide +kernel
theorem dX8_tuned_6 : decode cX8_tuned 6 = .ok (.iload_n 1, 1) := by decide +kernel
theorem dX8_tuned_7 : decode cX8_tuned 7 = .ok (.invokevirtual 213, 3) := by decide +kernel
theorem dX8_tuned_10 : decode cX8_tuned 10 = .ok (.ifCond .eq 13, 3) := by decide +kernel
theorem dX8_tuned_13 : decode cX8_tuned 13 = .ok (.iload_n 2, 1) := by decide +kernel
theorem dX8_tuned_14 : decode cX8_tuned 14 = .ok (.i2l, 1) := by decide +kernel
theorem dX8_tuned_15 : decode cX8_tuned 15 = .ok (.lconst 0, 1) := by decide +kernel
theorem dX8_tuned_16 : decode cX8_tuned 16 = .ok (.lconst 1, 1) := by decide +kernel
theorem dX8_tuned_17 : decode cX8_tuned 17 = .ok (.invokestatic 60, 3) := by decide +kernel
theorem dX8_tuned_20 : decode cX8_tuned 20 = .ok (.ifCond .ne 6, 3) := by decide +kernel
theorem dX8_tuned_23 : decode cX8_tuned 23 = .ok (.ldc 70, 2) := by decide +kernel
theorem dX8_tuned_25 : decode cX8_tuned 25 = .ok (.ireturn, 1) := by decide +kernel
theorem dX8_tuned_26 : decode cX8_tuned 26 = .ok (.bipush 9, 2) := by decide +kernel
theorem dX8_tuned_28 : decode cX8_tuned 28 = .ok (.istore_n 3, 1) := by decide +kernel
theorem dX8_tuned_29 : decode cX8_tuned 29 = .ok (.iconst 0, 1) := by decide +kernel
theorem dX8_tuned_30 : decode cX8_tuned 30 = .ok (.istore 4, 2) := by decide +kernel
theorem dX8_tuned_32 : decode cX8_tuned 32 = .ok (.iconst 0, 1) := by decide +kernel
theorem dX8_tuned_33 : decode cX8_tuned 33 = .ok (.istore 5, 2) := by decide +kernel
theorem dX8_tuned_35 : decode cX8_tuned 35 = .ok (.iload 5, 2) := by decide +kernel
theorem dX8_tuned_37 : decode cX8_tuned 37 = .ok (.bipush 12, 2) := by decide +kernel
theorem dX8_tuned_39 : decode cX8_tuned 39 = .ok (.if_icmp .ge 57, 3) := by decide +kernel
theorem dX8_tuned_42 : decode cX8_tuned 42 = .ok (.aload_n 0, 1) := by decide +kernel
theorem dX8_tuned_43 : decode cX8_tuned 43 = .ok (.invokevirtual 233, 3) := by decide +kernel
theorem dX8_tuned_46 : decode cX8_tuned 46 = .ok (.aload_n 0, 1) := by decide +kernel
theorem dX8_tuned_47 : decode cX8_tuned 47 = .ok (.getfield 25, 3) := by decide +kernel
theorem dX8_tuned_50 : decode cX8_tuned 50 = .ok (.iload_n 1, 1) := by decide +kernel
theorem dX8_tuned_51 : decode cX8_tuned 51 = .ok (.iconst 4, 1) := by decide +kernel
theorem dX8_tuned_52 : decode cX8_tuned 52 = .ok (.iconst 0, 1) := by decide +kernel
theorem dX8_tuned_53 : decode cX8_tuned 53 = .ok (.invokestatic 192, 3) := by decide +kernel
theorem dX8_tuned_56 : decode cX8_tuned 56 = .ok (.aload_n 0, 1) := by decide +kernel
theorem dX8_tuned_57 : decode cX8_tuned 57 = .ok (.getfield 25, 3) := by decide +kernel
theorem dX8_tuned_60 : decode cX8_tuned 60 = .ok (.iload_n 1, 1) := by decide +kernel
theorem dX8_tuned_61 : decode cX8_tuned 61 = .ok (.iconst 1, 1) := by decide +kernel
theorem dX8_tuned_62 : decode cX8_tuned 62 = .ok (.iload 5, 2) := by decide +kernel
theorem dX8_tuned_64 : decode cX8_tuned 64 = .ok (.invokestatic 192, 3) := by decide +kernel
theorem dX8_tuned_67 : decode cX8_tuned 67 = .ok (.aload_n 0, 1) := by decide +kernel
theorem dX8_tuned_68 : decode cX8_tuned 68 = .ok (.aload_n 0, 1) := by decide +kernel
theorem dX8_tuned_69 : decode cX8_tuned 69 = .ok (.getfield 25, 3) := by decide +kernel
theorem dX8_tuned_72 : decode cX8_tuned 72 = .ok (.invokevirtual 229, 3) := by decide +kernel
theorem dX8_tuned_75 : decode cX8_tuned 75 = .ok (.istore 6, 2) := by decide +kernel
theorem dX8_tuned_77 : decode cX8_tuned 77 = .ok (.iload 6, 2) := by decide +kernel
theorem dX8_tuned_79 : decode cX8_tuned 79 = .ok (.iload_n 3, 1) := by decide +kernel
theorem dX8_tuned_80 : decode cX8_tuned 80 = .ok (.if_icmp .ge 10, 3) := by decide +kernel
theorem dX8_tuned_83 : decode cX8_tuned 83 = .ok (.iload 6, 2) := by decide +kernel
theorem dX8_tuned_85 : decode cX8_tuned 85 = .ok (.istore_n 3, 1) := by decide +kernel
theorem dX8_tuned_86 : decode cX8_tuned 86 = .ok (.iload 5, 2) := by decide +kernel
theorem dX8_tuned_88 : decode cX8_tuned 88 = .ok (.istore 4, 2) := by decide +kernel
theorem dX8_tuned_90 : decode cX8_tuned 90 = .ok (.iinc 5 1, 3) := by decide +kernel
theorem dX8_tuned_93 : decode cX8_tuned 93 = .ok (.goto (-58), 3) := by decide +kernel
theorem dX8_tuned_96 : decode cX8_tuned 96 = .ok (.iload_n 2, 1) := by decide +kernel
theorem dX8_tuned_97 : decode cX8_tuned 97 = .ok (.ifCond .ne 8, 3) := by decide +kernel
theorem dX8_tuned_100 : decode cX8_tuned 100 = .ok (.iload 4, 2) := by decide +kernel
theorem dX8_tuned_102 : decode cX8_tuned 102 = .ok (.goto 4, 3) := by decide +kernel
theorem dX8_tuned_105 : decode cX8_tuned 105 = .ok (.iload_n 3, 1) := by decide +kernel
theorem dX8_tuned_106 : decode cX8_tuned 106 = .ok (.ireturn, 1) := by decide +kernel
theorem dX8_spared_0 : decode cX8_spared 0 = .ok (.aload_n 0, 1) := by decide +kernel
theorem dX8_spared_1 : decode cX8_spared 1 = .ok (.iconst 0, 1) := by decide +kernel
theorem dX8_spared_2 : decode cX8_spared 2 = .ok (.putfield 50, 3) := by decide +kernel
theorem dX8_spared_5 : decode cX8_spared 5 = .ok (.aload_n 0, 1) := by decide +kernel
theorem dX8_spared_6 : decode cX8_spared 6 = .ok (.invokevirtual 196, 3) := by decide +kernel
theorem dX8_spared_9 : decode cX8_spared 9 = .ok (.ifCond .ne 6, 3) := by decide +kernel
theorem dX8_spared_12 : decode cX8_spared 12 = .ok (.ldc 199, 2) := by decide +kernel
theorem dX8_spared_14 : decode cX8_spared 14 = .ok (.ireturn, 1) := by decide +kernel
theorem dX8_spared_15 : decode cX8_spared 15 = .ok (.iload_n 1, 1) := by decide +kernel
theorem dX8_spared_16 : decode cX8_spared 16 = .ok (.i2l, 1) := by decide +kernel
theorem dX8_spared_17 : decode cX8_spared 17 = .ok (.lconst 0, 1) := by decide +kernel
theorem dX8_spared_18 : decode cX8_spared 18 = .ok (.lconst 1, 1) := by decide +kernel
theorem dX8_spared_19 : decode cX8_spared 19 = .ok (.invokestatic 60, 3) := by decide +kernel
theorem dX8_spared_22 : decode cX8_spared 22 = .ok (.ifCond .ne 6, 3) := by decide +kernel
theorem dX8_spared_25 : decode cX8_spared 25 = .ok (.ldc 70, 2) := by decide +kernel
theorem dX8_spared_27 : decode cX8_spared 27 = .ok (.ireturn, 1) := by decide +kernel
theorem dX8_spared_28 : decode cX8_spared 28 = .ok (.bipush 9, 2) := by decide +kernel
theorem dX8_spared_30 : decode cX8_spared 30 = .ok (.istore_n 2, 1) := by decide +kernel
theorem dX8_spared_31 : decode cX8_spared 31 = .ok (.ldc 93, 2) := by decide +kernel
theorem dX8_spared_33 : decode cX8_spared 33 = .ok (.istore_n 3, 1) := by decide +kernel
theorem dX8_spared_34 : decode cX8_spared 34 = .ok (.iconst 0, 1) := by decide +kernel
theorem dX8_spared_35 : decode cX8_spared 35 = .ok (.istore 4, 2) := by decide +kernel
theorem dX8_spared_37 : decode cX8_spared 37 = .ok (.iload 4, 2) := by decide +kernel
theorem dX8_spared_39 : decode cX8_spared 39 = .ok (.aload_n 0, 1) := by decide +kernel
theorem dX8_spared_40 : decode cX8_spared 40 = .ok (.getfield 19, 3) := by decide +kernel
theorem dX8_spared_43 : decode cX8_spared 43 = .ok (.iconst 0, 1) := by decide +kernel
theorem dX8_spared_44 : decode cX8_spared 44 = .ok (.iaload, 1) := by decide +kernel
theorem dX8_spared_45 : decode cX8_spared 45 = .ok (.if_icmp .ge 59, 3) := by decide +kernel
theorem dX8_spared_48 : decode cX8_spared 48 = .ok (.aload_n 0, 1) := by decide +kernel
theorem dX8_spared_49 : decode cX8_spared 49 = .ok (.getfield 19, 3) := by decide +kernel
theorem dX8_spared_52 : decode cX8_spared 52 = .ok (.iload 4, 2) := by decide +kernel
theorem dX8_spared_54 : decode cX8_spared 54 = .ok (.iconst 4, 1) := by decide +kernel
theorem dX8_spared_55 : decode cX8_spared 55 = .ok (.invokestatic 154, 3) := by decide +kernel
theorem dX8_spared_58 : decode cX8_spared 58 = .ok (.ifCond .ne 40, 3) := by decide +kernel
theorem dX8_spared_61 : decode cX8_spared 61 = .ok (.aload_n 0, 1) := by decide +kernel
theorem dX8_spared_62 : decode cX8_spared 62 = .ok (.invokevirtual 233, 3) := by decide +kernel
theorem dX8_spared_65 : decode cX8_spared 65 = .ok (.aload_n 0, 1) := by decide +kernel
theorem dX8_spared_66 : decode cX8_spared 66 = .ok (.getfield 25, 3) := by decide +kernel
theorem dX8_spared_69 : decode cX8_spared 69 = .ok (.iload 4, 2) := by decide +kernel
theorem dX8_spared_71 : decode cX8_spared 71 = .ok (.iconst 4, 1) := by decide +kernel
theorem dX8_spared_72 : decode cX8_spared 72 = .ok (.iconst 3, 1) := by decide +kernel
theorem dX8_spared_73 : decode cX8_spared 73 = .ok (.invokestatic 192, 3) := by decide +kernel
theorem dX8_spared_76 : decode cX8_spared 76 = .ok (.aload_n 0, 1) := by decide +kernel
theorem dX8_spared_77 : decode cX8_spared 77 = .ok (.aload_n 0, 1) := by decide +kernel
theorem dX8_spared_78 : decode cX8_spared 78 = .ok (.getfield 25, 3) := by decide +kernel
theorem dX8_spared_81 : decode cX8_spared 81 = .ok (.invokevirtual 229, 3) := by decide +kernel
theorem dX8_spared_84 : decode cX8_spared 84 = .ok (.istore 5, 2) := by decide +kernel
theorem dX8_spared_86 : decode cX8_spared 86 = .ok (.iload 5, 2) := by decide +kernel
theorem dX8_spared_88 : decode cX8_spared 88 = .ok (.iload_n 2, 1) := by decide +kernel
theorem dX8_spared_89 : decode cX8_spared 89 = .ok (.if_icmp .ge 9, 3) := by decide +kernel
theorem dX8_spared_92 : decode cX8_spared 92 = .ok (.iload 5, 2) := by decide +kernel
theorem dX8_spared_94 : decode cX8_spared 94 = .ok (.istore_n 2, 1) := by decide +kernel
theorem dX8_spared_95 : decode cX8_spared 95 = .ok (.iload 4, 2) := by decide +kernel
theorem dX8_spared_97 : decode cX8_spared 97 = .ok (.istore_n 3, 1) := by decide +kernel
theorem dX8_spared_98 : decode cX8_spared 98 = .ok (.iinc 4 1, 3) := by decide +kernel
theorem dX8_spared_101 : decode cX8_spared 101 = .ok (.goto (-64), 3) := by decide +kernel
theorem dX8_spared_104 : decode cX8_spared 104 = .ok (.iload_n 3, 1) := by decide +kernel
theorem dX8_spared_105 : decode cX8_spared 105 = .ok (.ldc 93, 2) := by decide +kernel
theorem dX8_spared_107 : decode cX8_spared 107 = .ok (.if_icmp .eq 7, 3) := by decide +kernel
theorem dX8_spared_110 : decode cX8_spared 110 = .ok (.iload_n 1, 1) := by decide +kernel
theorem dX8_spared_111 : decode cX8_spared 111 = .ok (.ifCond .ne 7, 3) := by decide +kernel
theorem dX8_spared_114 : decode cX8_spared 114 = .ok (.iload_n 3, 1) := by decide +kernel
theorem dX8_spared_115 : decode cX8_spared 115 = .ok (.goto 4, 3) := by decide +kernel
theorem dX8_spared_118 : decode cX8_spared 118 = .ok (.iload_n 2, 1) := by decide +kernel
theorem dX8_spared_119 : decode cX8_spared 119 = .ok (.ireturn, 1) := by decide +kernel
theorem dX8_breaksBy_0 : decode cX8_breaksBy 0 = .ok (.iconst 0, 1) := by decide +kernel
theorem dX8_breaksBy_1 : decode cX8_breaksBy 1 = .ok (.istore_n 3, 1) := by decide +kernel
theorem dX8_breaksBy_2 : decode cX8_breaksBy 2 = .ok (.iload_n 3, 1) := by decide +kernel
theorem dX8_breaksBy_3 : decode cX8_breaksBy 3 = .ok (.bipush 8, 2) := by decide +kernel
theorem dX8_breaksBy_5 : decode cX8_breaksBy 5 = .ok (.if_icmp .ge 42, 3) := by decide +kernel
theorem dX8_breaksBy_8 : decode cX8_breaksBy 8 = .ok (.aload_n 0, 1) := by decide +kernel
theorem dX8_breaksBy_9 : decode cX8_breaksBy 9 = .ok (.getfield 34, 3) := by decide +kernel
theorem dX8_breaksBy_12 : decode cX8_breaksBy 12 = .ok (.iload_n 3, 1) := by decide +kernel
theorem dX8_breaksBy_13 : decode cX8_breaksBy 13 = .ok (.iload_n 3, 1) := by decide +kernel
theorem dX8_breaksBy_14 : decode cX8_breaksBy 14 = .ok (.aload_n 0, 1) := by decide +kernel
theorem dX8_breaksBy_15 : decode cX8_breaksBy 15 = .ok (.getfield 19, 3) := by decide +kernel
theorem dX8_breaksBy_18 : decode cX8_breaksBy 18 = .ok (.iload_n 2, 1) := by decide +kernel
theorem dX8_breaksBy_19 : decode cX8_breaksBy 19 = .ok (.iconst 3, 1) := by decide +kernel
theorem dX8_breaksBy_20 : decode cX8_breaksBy 20 = .ok (.invokestatic 154, 3) := by decide +kernel
theorem dX8_breaksBy_23 : decode cX8_breaksBy 23 = .ok (.if_icmp .ne 15, 3) := by decide +kernel
theorem dX8_breaksBy_26 : decode cX8_breaksBy 26 = .ok (.aload_n 0, 1) := by decide +kernel
theorem dX8_breaksBy_27 : decode cX8_breaksBy 27 = .ok (.getfield 19, 3) := by decide +kernel
theorem dX8_breaksBy_30 : decode cX8_breaksBy 30 = .ok (.iload_n 2, 1) := by decide +kernel
theorem dX8_breaksBy_31 : decode cX8_breaksBy 31 = .ok (.iconst 1, 1) := by decide +kernel
theorem dX8_breaksBy_32 : decode cX8_breaksBy 32 = .ok (.invokestatic 154, 3) := by decide +kernel
theorem dX8_breaksBy_35 : decode cX8_breaksBy 35 = .ok (.goto 5, 3) := by decide +kernel
theorem dX8_breaksBy_38 : decode cX8_breaksBy 38 = .ok (.ldc 93, 2) := by decide +kernel
theorem dX8_breaksBy_40 : decode cX8_breaksBy 40 = .ok (.iastore, 1) := by decide +kernel
theorem dX8_breaksBy_41 : decode cX8_breaksBy 41 = .ok (.iinc 3 1, 3) := by decide +kernel
theorem dX8_breaksBy_44 : decode cX8_breaksBy 44 = .ok (.goto (-42), 3) := by decide +kernel
theorem dX8_breaksBy_47 : decode cX8_breaksBy 47 = .ok (.aload_n 0, 1) := by decide +kernel
theorem dX8_breaksBy_48 : decode cX8_breaksBy 48 = .ok (.getfield 19, 3) := by decide +kernel
theorem dX8_breaksBy_51 : decode cX8_breaksBy 51 = .ok (.iload_n 1, 1) := by decide +kernel
theorem dX8_breaksBy_52 : decode cX8_breaksBy 52 = .ok (.iconst 4, 1) := by decide +kernel
theorem dX8_breaksBy_53 : decode cX8_breaksBy 53 = .ok (.invokestatic 154, 3) := by decide +kernel
theorem dX8_breaksBy_56 : decode cX8_breaksBy 56 = .ok (.ifCond .ne 31, 3) := by decide +kernel
theorem dX8_breaksBy_59 : decode cX8_breaksBy 59 = .ok (.aload_n 0, 1) := by decide +kernel
theorem dX8_breaksBy_60 : decode cX8_breaksBy 60 = .ok (.getfield 19, 3) := by decide +kernel
theorem dX8_breaksBy_63 : decode cX8_breaksBy 63 = .ok (.iload_n 2, 1) := by decide +kernel
theorem dX8_breaksBy_64 : decode cX8_breaksBy 64 = .ok (.iconst 4, 1) := by decide +kernel
theorem dX8_breaksBy_65 : decode cX8_breaksBy 65 = .ok (.invokestatic 154, 3) := by decide +kernel
theorem dX8_breaksBy_68 : decode cX8_breaksBy 68 = .ok (.ifCond .ne 19, 3) := by decide +kernel
theorem dX8_breaksBy_71 : decode cX8_breaksBy 71 = .ok (.aload_n 0, 1) := by decide +kernel
theorem dX8_breaksBy_72 : decode cX8_breaksBy 72 = .ok (.aload_n 0, 1) := by decide +kernel
theorem dX8_breaksBy_73 : decode cX8_breaksBy 73 = .ok (.getfield 19, 3) := by decide +kernel
theorem dX8_breaksBy_76 : decode cX8_breaksBy 76 = .ok (.iload_n 1, 1) := by decide +kernel
theorem dX8_breaksBy_77 : decode cX8_breaksBy 77 = .ok (.invokevirtual 171, 3) := by decide +kernel
theorem dX8_breaksBy_80 : decode cX8_breaksBy 80 = .ok (.ifCond .eq 7, 3) := by decide +kernel
theorem dX8_breaksBy_83 : decode cX8_breaksBy 83 = .ok (.iconst 1, 1) := by decide +kernel
theorem dX8_breaksBy_84 : decode cX8_breaksBy 84 = .ok (.goto 4, 3) := by decide +kernel
theorem dX8_breaksBy_87 : decode cX8_breaksBy 87 = .ok (.iconst 0, 1) := by decide +kernel
theorem dX8_breaksBy_88 : decode cX8_breaksBy 88 = .ok (.ireturn, 1) := by decide +kernel
theorem dX8_alike_0 : decode cX8_alike 0 = .ok (.aload_n 0, 1) := by decide +kernel
theorem dX8_alike_1 : decode cX8_alike 1 = .ok (.iconst 0, 1) := by decide +kernel
theorem dX8_alike_2 : decode cX8_alike 2 = .ok (.putfield 50, 3) := by decide +kernel
theorem dX8_alike_5 : decode cX8_alike 5 = .ok (.aload_n 0, 1) := by decide +kernel
theorem dX8_alike_6 : decode cX8_alike 6 = .ok (.invokevirtual 196, 3) := by decide +kernel
theorem dX8_alike_9 : decode cX8_alike 9 = .ok (.ifCond .ne 6, 3) := by decide +kernel
theorem dX8_alike_12 : decode cX8_alike 12 = .ok (.ldc 199, 2) := by decide +kernel
theorem dX8_alike_14 : decode cX8_alike 14 = .ok (.ireturn, 1) := by decide +kernel
theorem dX8_alike_15 : decode cX8_alike 15 = .ok (.iload_n 1, 1) := by decide +kernel
theorem dX8_alike_16 : decode cX8_alike 16 = .ok (.i2l, 1) := by decide +kernel
theorem dX8_alike_17 : decode cX8_alike 17 = .ok (.lconst 0, 1) := by decide +kernel
theorem dX8_alike_18 : decode cX8_alike 18 = .ok (.lconst 1, 1) := by decide +kernel
theorem dX8_alike_19 : decode cX8_alike 19 = .ok (.invokestatic 60, 3) := by decide +kernel
theorem dX8_alike_22 : decode cX8_alike 22 = .ok (.ifCond .ne 6, 3) := by decide +kernel
theorem dX8_alike_25 : decode cX8_alike 25 = .ok (.ldc 70, 2) := by decide +kernel
theorem dX8_alike_27 : decode cX8_alike 27 = .ok (.ireturn, 1) := by decide +kernel
theorem dX8_alike_28 : decode cX8_alike 28 = .ok (.iconst 0, 1) := by decide +kernel
theorem dX8_alike_29 : decode cX8_alike 29 = .ok (.istore_n 2, 1) := by decide +kernel
theorem dX8_alike_30 : decode cX8_alike 30 = .ok (.ldc 93, 2) := by decide +kernel
theorem dX8_alike_32 : decode cX8_alike 32 = .ok (.istore_n 3, 1) := by decide +kernel
theorem dX8_alike_33 : decode cX8_alike 33 = .ok (.iconst 0, 1) := by decide +kernel
theorem dX8_alike_34 : decode cX8_alike 34 = .ok (.istore 4, 2) := by decide +kernel
theorem dX8_alike_36 : decode cX8_alike 36 = .ok (.iload 4, 2) := by decide +kernel
theorem dX8_alike_38 : decode cX8_alike 38 = .ok (.aload_n 0, 1) := by decide +kernel
theorem dX8_alike_39 : decode cX8_alike 39 = .ok (.getfield 19, 3) := by decide +kernel
theorem dX8_alike_42 : decode cX8_alike 42 = .ok (.iconst 0, 1) := by decide +kernel
theorem dX8_alike_43 : decode cX8_alike 43 = .ok (.iaload, 1) := by decide +kernel
theorem dX8_alike_44 : decode cX8_alike 44 = .ok (.if_icmp .ge 74, 3) := by decide +kernel
theorem dX8_alike_47 : decode cX8_alike 47 = .ok (.iload 4, 2) := by decide +kernel
theorem dX8_alike_49 : decode cX8_alike 49 = .ok (.iconst 1, 1) := by decide +kernel
theorem dX8_alike_50 : decode cX8_alike 50 = .ok (.iadd, 1) := by decide +kernel
theorem dX8_alike_51 : decode cX8_alike 51 = .ok (.istore 5, 2) := by decide +kernel
theorem dX8_alike_53 : decode cX8_alike 53 = .ok (.iload 5, 2) := by decide +kernel
theorem dX8_alike_55 : decode cX8_alike 55 = .ok (.aload_n 0, 1) := by decide +kernel
theorem dX8_alike_56 : decode cX8_alike 56 = .ok (.getfield 19, 3) := by decide +kernel
theorem dX8_alike_59 : decode cX8_alike 59 = .ok (.iconst 0, 1) := by decide +kernel
theorem dX8_alike_60 : decode cX8_alike 60 = .ok (.iaload, 1) := by decide +kernel
theorem dX8_alike_61 : decode cX8_alike 61 = .ok (.if_icmp .ge 51, 3) := by decide +kernel
theorem dX8_alike_64 : decode cX8_alike 64 = .ok (.aload_n 0, 1) := by decide +kernel
theorem dX8_alike_65 : decode cX8_alike 65 = .ok (.iload 4, 2) := by decide +kernel
theorem dX8_alike_67 : decode cX8_alike 67 = .ok (.iload 5, 2) := by decide +kernel
theorem dX8_alike_69 : decode cX8_alike 69 = .ok (.invokevirtual 236, 3) := by decide +kernel
theorem dX8_alike_72 : decode cX8_alike 72 = .ok (.ifCond .eq 34, 3) := by decide +kernel
theorem dX8_alike_75 : decode cX8_alike 75 = .ok (.aload_n 0, 1) := by decide +kernel
theorem dX8_alike_76 : decode cX8_alike 76 = .ok (.iload 5, 2) := by decide +kernel
theorem dX8_alike_78 : decode cX8_alike 78 = .ok (.iload 4, 2) := by decide +kernel
theorem dX8_alike_80 : decode cX8_alike 80 = .ok (.invokevirtual 236, 3) := by decide +kernel
theorem dX8_alike_83 : decode cX8_alike 83 = .ok (.ifCond .eq 23, 3) := by decide +kernel
theorem dX8_alike_86 : decode cX8_alike 86 = .ok (.iload_n 2, 1) := by decide +kernel
theorem dX8_alike_87 : decode cX8_alike 87 = .ok (.ifCond .ne 14, 3) := by decide +kernel
theorem dX8_alike_90 : decode cX8_alike 90 = .ok (.bipush 10, 2) := by decide +kernel
theorem dX8_alike_92 : decode cX8_alike 92 = .ok (.iload 4, 2) := by decide +kernel
theorem dX8_alike_94 : decode cX8_alike 94 = .ok (.imul, 1) := by decide +kernel
theorem dX8_alike_95 : decode cX8_alike 95 = .ok (.iload 5, 2) := by decide +kernel
theorem dX8_alike_97 : decode cX8_alike 97 = .ok (.iadd, 1) := by decide +kernel
theorem dX8_alike_98 : decode cX8_alike 98 = .ok (.goto 4, 3) := by decide +kernel
theorem dX8_alike_101 : decode cX8_alike 101 = .ok (.iload_n 3, 1) := by decide +kernel
theorem dX8_alike_102 : decode cX8_alike 102 = .ok (.istore_n 3, 1) := by decide +kernel
theorem dX8_alike_103 : decode cX8_alike 103 = .ok (.iinc 2 1, 3) := by decide +kernel
theorem dX8_alike_106 : decode cX8_alike 106 = .ok (.iinc 5 1, 3) := by decide +kernel
theorem dX8_alike_109 : decode cX8_alike 109 = .ok (.goto (-56), 3) := by decide +kernel
theorem dX8_alike_112 : decode cX8_alike 112 = .ok (.iinc 4 1, 3) := by decide +kernel
theorem dX8_alike_115 : decode cX8_alike 115 = .ok (.goto (-79), 3) := by decide +kernel
theorem dX8_alike_118 : decode cX8_alike 118 = .ok (.iload_n 1, 1) := by decide +kernel
theorem dX8_alike_119 : decode cX8_alike 119 = .ok (.ifCond .ne 7, 3) := by decide +kernel
theorem dX8_alike_122 : decode cX8_alike 122 = .ok (.iload_n 2, 1) := by decide +kernel
theorem dX8_alike_123 : decode cX8_alike 123 = .ok (.goto 4, 3) := by decide +kernel
theorem dX8_alike_126 : decode cX8_alike 126 = .ok (.iload_n 3, 1) := by decide +kernel
theorem dX8_alike_127 : decode cX8_alike 127 = .ok (.ireturn, 1) := by decide +kernel
theorem dX8_rowFound_0 : decode cX8_rowFound 0 = .ok (.aload_n 0, 1) := by decide +kernel
theorem dX8_rowFound_1 : decode cX8_rowFound 1 = .ok (.getfield 7, 3) := by decide +kernel
theorem dX8_rowFound_4 : decode cX8_rowFound 4 = .ok (.iload_n 1, 1) := by decide +kernel
theorem dX8_rowFound_5 : decode cX8_rowFound 5 = .ok (.iaload, 1) := by decide +kernel
theorem dX8_rowFound_6 : decode cX8_rowFound 6 = .ok (.ifCond .ge 9, 3) := by decide +kernel
theorem dX8_rowFound_9 : decode cX8_rowFound 9 = .ok (.aload_n 0, 1) := by decide +kernel
theorem dX8_rowFound_10 : decode cX8_rowFound 10 = .ok (.iconst 1, 1) := by decide +kernel
theorem dX8_rowFound_11 : decode cX8_rowFound 11 = .ok (.invokevirtual 71, 3) := by decide +kernel
theorem dX8_rowFound_14 : decode cX8_rowFound 14 = .ok (.ireturn, 1) := by decide +kernel
theorem dX8_rowFound_15 : decode cX8_rowFound 15 = .ok (.iload_n 2, 1) := by decide +kernel
theorem dX8_rowFound_16 : decode cX8_rowFound 16 = .ok (.ifCond .lt 19, 3) := by decide +kernel
theorem dX8_rowFound_19 : decode cX8_rowFound 19 = .ok (.iload_n 2, 1) := by decide +kernel
theorem dX8_rowFound_20 : decode cX8_rowFound 20 = .ok (.i2l, 1) := by decide +kernel
theorem dX8_rowFound_21 : decode cX8_rowFound 21 = .ok (.iload_n 3, 1) := by decide +kernel
theorem dX8_rowFound_22 : decode cX8_rowFound 22 = .ok (.i2l, 1) := by decide +kernel
theorem dX8_rowFound_23 : decode cX8_rowFound 23 = .ok (.ladd, 1) := by decide +kernel
theorem dX8_rowFound_24 : decode cX8_rowFound 24 = .ok (.aload_n 0, 1) := by decide +kernel
theorem dX8_rowFound_25 : decode cX8_rowFound 25 = .ok (.getfield 13, 3) := by decide +kernel
theorem dX8_rowFound_28 : decode cX8_rowFound 28 = .ok (.iload_n 1, 1) := by decide +kernel
theorem dX8_rowFound_29 : decode cX8_rowFound 29 = .ok (.iaload, 1) := by decide +kernel
theorem dX8_rowFound_30 : decode cX8_rowFound 30 = .ok (.i2l, 1) := by decide +kernel
theorem dX8_rowFound_31 : decode cX8_rowFound 31 = .ok (.lcmp, 1) := by decide +kernel
theorem dX8_rowFound_32 : decode cX8_rowFound 32 = .ok (.ifCond .le 9, 3) := by decide +kernel
theorem dX8_rowFound_35 : decode cX8_rowFound 35 = .ok (.aload_n 0, 1) := by decide +kernel
theorem dX8_rowFound_36 : decode cX8_rowFound 36 = .ok (.iconst 2, 1) := by decide +kernel
theorem dX8_rowFound_37 : decode cX8_rowFound 37 = .ok (.invokevirtual 71, 3) := by decide +kernel
theorem dX8_rowFound_40 : decode cX8_rowFound 40 = .ok (.ireturn, 1) := by decide +kernel
theorem dX8_rowFound_41 : decode cX8_rowFound 41 = .ok (.aload_n 0, 1) := by decide +kernel
theorem dX8_rowFound_42 : decode cX8_rowFound 42 = .ok (.iconst 0, 1) := by decide +kernel
theorem dX8_rowFound_43 : decode cX8_rowFound 43 = .ok (.putfield 54, 3) := by decide +kernel
theorem dX8_rowFound_46 : decode cX8_rowFound 46 = .ok (.iconst 0, 1) := by decide +kernel
theorem dX8_rowFound_47 : decode cX8_rowFound 47 = .ok (.ireturn, 1) := by decide +kernel
theorem dX8_isMany_0 : decode cX8_isMany 0 = .ok (.iload_n 0, 1) := by decide +kernel
theorem dX8_isMany_1 : decode cX8_isMany 1 = .ok (.invokestatic 64, 3) := by decide +kernel
theorem dX8_isMany_4 : decode cX8_isMany 4 = .ok (.ifCond .eq 19, 3) := by decide +kernel
theorem dX8_isMany_7 : decode cX8_isMany 7 = .ok (.iload_n 1, 1) := by decide +kernel
theorem dX8_isMany_8 : decode cX8_isMany 8 = .ok (.i2l, 1) := by decide +kernel
theorem dX8_isMany_9 : decode cX8_isMany 9 = .ok (.lconst 1, 1) := by decide +kernel
theorem dX8_isMany_10 : decode cX8_isMany 10 = .ok (.ldc2_w 239, 3) := by decide +kernel
theorem dX8_isMany_13 : decode cX8_isMany 13 = .ok (.invokestatic 60, 3) := by decide +kernel
theorem dX8_isMany_16 : decode cX8_isMany 16 = .ok (.ifCond .eq 7, 3) := by decide +kernel
theorem dX8_isMany_19 : decode cX8_isMany 19 = .ok (.iconst 1, 1) := by decide +kernel
theorem dX8_isMany_20 : decode cX8_isMany 20 = .ok (.goto 4, 3) := by decide +kernel
theorem dX8_isMany_23 : decode cX8_isMany 23 = .ok (.iconst 0, 1) := by decide +kernel
theorem dX8_isMany_24 : decode cX8_isMany 24 = .ok (.ireturn, 1) := by decide +kernel
theorem dX8_song_0 : decode cX8_song 0 = .ok (.aload_n 0, 1) := by decide +kernel
theorem dX8_song_1 : decode cX8_song 1 = .ok (.iconst 0, 1) := by decide +kernel
theorem dX8_song_2 : decode cX8_song 2 = .ok (.putfield 50, 3) := by decide +kernel
theorem dX8_song_5 : decode cX8_song 5 = .ok (.aload_n 0, 1) := by decide +kernel
theorem dX8_song_6 : decode cX8_song 6 = .ok (.invokevirtual 196, 3) := by decide +kernel
theorem dX8_song_9 : decode cX8_song 9 = .ok (.ifCond .ne 6, 3) := by decide +kernel
theorem dX8_song_12 : decode cX8_song 12 = .ok (.ldc 199, 2) := by decide +kernel
theorem dX8_song_14 : decode cX8_song 14 = .ok (.ireturn, 1) := by decide +kernel
theorem dX8_song_15 : decode cX8_song 15 = .ok (.iload_n 1, 1) := by decide +kernel
theorem dX8_song_16 : decode cX8_song 16 = .ok (.i2l, 1) := by decide +kernel
theorem dX8_song_17 : decode cX8_song 17 = .ok (.lconst 0, 1) := by decide +kernel
theorem dX8_song_18 : decode cX8_song 18 = .ok (.lconst 1, 1) := by decide +kernel
theorem dX8_song_19 : decode cX8_song 19 = .ok (.invokestatic 60, 3) := by decide +kernel
theorem dX8_song_22 : decode cX8_song 22 = .ok (.ifCond .eq 12, 3) := by decide +kernel
theorem dX8_song_25 : decode cX8_song 25 = .ok (.iload_n 2, 1) := by decide +kernel
theorem dX8_song_26 : decode cX8_song 26 = .ok (.iload 4, 2) := by decide +kernel
theorem dX8_song_28 : decode cX8_song 28 = .ok (.invokestatic 241, 3) := by decide +kernel
theorem dX8_song_31 : decode cX8_song 31 = .ok (.ifCond .ne 6, 3) := by decide +kernel
theorem dX8_song_34 : decode cX8_song 34 = .ok (.ldc 70, 2) := by decide +kernel
theorem dX8_song_36 : decode cX8_song 36 = .ok (.ireturn, 1) := by decide +kernel
theorem dX8_song_37 : decode cX8_song 37 = .ok (.aload_n 0, 1) := by decide +kernel
theorem dX8_song_38 : decode cX8_song 38 = .ok (.iload_n 2, 1) := by decide +kernel
theorem dX8_song_39 : decode cX8_song 39 = .ok (.iload_n 3, 1) := by decide +kernel
theorem dX8_song_40 : decode cX8_song 40 = .ok (.iload 4, 2) := by decide +kernel
theorem dX8_song_42 : decode cX8_song 42 = .ok (.invokevirtual 244, 3) := by decide +kernel
theorem dX8_song_45 : decode cX8_song 45 = .ok (.istore 5, 2) := by decide +kernel
theorem dX8_song_47 : decode cX8_song 47 = .ok (.iload 5, 2) := by decide +kernel
theorem dX8_song_49 : decode cX8_song 49 = .ok (.ifCond .eq 6, 3) := by decide +kernel
theorem dX8_song_52 : decode cX8_song 52 = .ok (.iload 5, 2) := by decide +kernel
theorem dX8_song_54 : decode cX8_song 54 = .ok (.ireturn, 1) := by decide +kernel
theorem dX8_song_55 : decode cX8_song 55 = .ok (.iconst 0, 1) := by decide +kernel
theorem dX8_song_56 : decode cX8_song 56 = .ok (.istore 6, 2) := by decide +kernel
theorem dX8_song_58 : decode cX8_song 58 = .ok (.iload 6, 2) := by decide +kernel
theorem dX8_song_60 : decode cX8_song 60 = .ok (.iload 4, 2) := by decide +kernel
theorem dX8_song_62 : decode cX8_song 62 = .ok (.if_icmp .ge 36, 3) := by decide +kernel
theorem dX8_song_65 : decode cX8_song 65 = .ok (.aload_n 0, 1) := by decide +kernel
theorem dX8_song_66 : decode cX8_song 66 = .ok (.getfield 16, 3) := by decide +kernel
theorem dX8_song_69 : decode cX8_song 69 = .ok (.bipush 40, 2) := by decide +kernel
theorem dX8_song_71 : decode cX8_song 71 = .ok (.iload_n 2, 1) := by decide +kernel
theorem dX8_song_72 : decode cX8_song 72 = .ok (.imul, 1) := by decide +kernel
theorem dX8_song_73 : decode cX8_song 73 = .ok (.iload_n 3, 1) := by decide +kernel
theorem dX8_song_74 : decode cX8_song 74 = .ok (.iadd, 1) := by decide +kernel
theorem dX8_song_75 : decode cX8_song 75 = .ok (.iload 6, 2) := by decide +kernel
theorem dX8_song_77 : decode cX8_song 77 = .ok (.iadd, 1) := by decide +kernel
theorem dX8_song_78 : decode cX8_song 78 = .ok (.iaload, 1) := by decide +kernel
theorem dX8_song_79 : decode cX8_song 79 = .ok (.i2l, 1) := by decide +kernel
theorem dX8_song_80 : decode cX8_song 80 = .ok (.invokestatic 209, 3) := by decide +kernel
theorem dX8_song_83 : decode cX8_song 83 = .ok (.ifCond .ne 9, 3) := by decide +kernel
theorem dX8_song_86 : decode cX8_song 86 = .ok (.aload_n 0, 1) := by decide +kernel
theorem dX8_song_87 : decode cX8_song 87 = .ok (.iconst 3, 1) := by decide +kernel
theorem dX8_song_88 : decode cX8_song 88 = .ok (.invokevirtual 71, 3) := by decide +kernel
theorem dX8_song_91 : decode cX8_song 91 = .ok (.ireturn, 1) := by decide +kernel
theorem dX8_song_92 : decode cX8_song 92 = .ok (.iinc 6 1, 3) := by decide +kernel
theorem dX8_song_95 : decode cX8_song 95 = .ok (.goto (-37), 3) := by decide +kernel
theorem dX8_song_98 : decode cX8_song 98 = .ok (.iconst 0, 1) := by decide +kernel
theorem dX8_song_99 : decode cX8_song 99 = .ok (.istore 6, 2) := by decide +kernel
theorem dX8_song_101 : decode cX8_song 101 = .ok (.iconst 0, 1) := by decide +kernel
theorem dX8_song_102 : decode cX8_song 102 = .ok (.istore 7, 2) := by decide +kernel
theorem dX8_song_104 : decode cX8_song 104 = .ok (.iconst 0, 1) := by decide +kernel
theorem dX8_song_105 : decode cX8_song 105 = .ok (.istore 8, 2) := by decide +kernel
theorem dX8_song_107 : decode cX8_song 107 = .ok (.iload 8, 2) := by decide +kernel
theorem dX8_song_109 : decode cX8_song 109 = .ok (.iload 4, 2) := by decide +kernel
theorem dX8_song_111 : decode cX8_song 111 = .ok (.if_icmp .ge 124, 3) := by decide +kernel
theorem dX8_song_114 : decode cX8_song 114 = .ok (.iconst 0, 1) := by decide +kernel
theorem dX8_song_115 : decode cX8_song 115 = .ok (.istore 9, 2) := by decide +kernel
theorem dX8_song_117 : decode cX8_song 117 = .ok (.iload 9, 2) := by decide +kernel
theorem dX8_song_119 : decode cX8_song 119 = .ok (.aload_n 0, 1) := by decide +kernel
theorem dX8_song_120 : decode cX8_song 120 = .ok (.getfield 19, 3) := by decide +kernel
theorem dX8_song_123 : decode cX8_song 123 = .ok (.iconst 0, 1) := by decide +kernel
theorem dX8_song_124 : decode cX8_song 124 = .ok (.iaload, 1) := by decide +kernel
theorem dX8_song_125 : decode cX8_song 125 = .ok (.if_icmp .ge 59, 3) := by decide +kernel
theorem dX8_song_128 : decode cX8_song 128 = .ok (.iload 6, 2) := by decide +kernel
theorem dX8_song_130 : decode cX8_song 130 = .ok (.iload 9, 2) := by decide +kernel
theorem dX8_song_132 : decode cX8_song 132 = .ok (.invokestatic 167, 3) := by decide +kernel
theorem dX8_song_135 : decode cX8_song 135 = .ok (.ifCond .ne 43, 3) := by decide +kernel
theorem dX8_song_138 : decode cX8_song 138 = .ok (.aload_n 0, 1) := by decide +kernel
theorem dX8_song_139 : decode cX8_song 139 = .ok (.getfield 19, 3) := by decide +kernel
theorem dX8_song_142 : decode cX8_song 142 = .ok (.iload 9, 2) := by decide +kernel
theorem dX8_song_144 : decode cX8_song 144 = .ok (.iconst 4, 1) := by decide +kernel
theorem dX8_song_145 : decode cX8_song 145 = .ok (.invokestatic 154, 3) := by decide +kernel
theorem dX8_song_148 : decode cX8_song 148 = .ok (.ifCond .ne 30, 3) := by decide +kernel
theorem dX8_song_151 : decode cX8_song 151 = .ok (.aload_n 0, 1) := by decide +kernel
theorem dX8_song_152 : decode cX8_song 152 = .ok (.getfield 19, 3) := by decide +kernel
theorem dX8_song_155 : decode cX8_song 155 = .ok (.iload 9, 2) := by decide +kernel
theorem dX8_song_157 : decode cX8_song 157 = .ok (.iconst 1, 1) := by decide +kernel
theorem dX8_song_158 : decode cX8_song 158 = .ok (.invokestatic 154, 3) := by decide +kernel
theorem dX8_song_161 : decode cX8_song 161 = .ok (.aload_n 0, 1) := by decide +kernel
theorem dX8_song_162 : decode cX8_song 162 = .ok (.getfield 16, 3) := by decide +kernel
theorem dX8_song_165 : decode cX8_song 165 = .ok (.bipush 40, 2) := by decide +kernel
theorem dX8_song_167 : decode cX8_song 167 = .ok (.iload_n 2, 1) := by decide +kernel
theorem dX8_song_168 : decode cX8_song 168 = .ok (.imul, 1) := by decide +kernel
theorem dX8_song_169 : decode cX8_song 169 = .ok (.iload_n 3, 1) := by decide +kernel
theorem dX8_song_170 : decode cX8_song 170 = .ok (.iadd, 1) := by decide +kernel
theorem dX8_song_171 : decode cX8_song 171 = .ok (.iload 8, 2) := by decide +kernel
theorem dX8_song_173 : decode cX8_song 173 = .ok (.iadd, 1) := by decide +kernel
theorem dX8_song_174 : decode cX8_song 174 = .ok (.iaload, 1) := by decide +kernel
theorem dX8_song_175 : decode cX8_song 175 = .ok (.if_icmp .eq 9, 3) := by decide +kernel
theorem dX8_song_178 : decode cX8_song 178 = .ok (.iinc 9 1, 3) := by decide +kernel
theorem dX8_song_181 : decode cX8_song 181 = .ok (.goto (-64), 3) := by decide +kernel
theorem dX8_song_184 : decode cX8_song 184 = .ok (.iload 6, 2) := by decide +kernel
theorem dX8_song_186 : decode cX8_song 186 = .ok (.iload 9, 2) := by decide +kernel
theorem dX8_song_188 : decode cX8_song 188 = .ok (.aload_n 0, 1) := by decide +kernel
theorem dX8_song_189 : decode cX8_song 189 = .ok (.getfield 19, 3) := by decide +kernel
theorem dX8_song_192 : decode cX8_song 192 = .ok (.iconst 0, 1) := by decide +kernel
theorem dX8_song_193 : decode cX8_song 193 = .ok (.iaload, 1) := by decide +kernel
theorem dX8_song_194 : decode cX8_song 194 = .ok (.if_icmp .ge 10, 3) := by decide +kernel
theorem dX8_song_197 : decode cX8_song 197 = .ok (.iconst 1, 1) := by decide +kernel
theorem dX8_song_198 : decode cX8_song 198 = .ok (.iload 9, 2) := by decide +kernel
theorem dX8_song_200 : decode cX8_song 200 = .ok (.ishl, 1) := by decide +kernel
theorem dX8_song_201 : decode cX8_song 201 = .ok (.goto 4, 3) := by decide +kernel
theorem dX8_song_204 : decode cX8_song 204 = .ok (.iconst 0, 1) := by decide +kernel
theorem dX8_song_205 : decode cX8_song 205 = .ok (.ior, 1) := by decide +kernel
theorem dX8_song_206 : decode cX8_song 206 = .ok (.istore 6, 2) := by decide +kernel
theorem dX8_song_208 : decode cX8_song 208 = .ok (.iload 7, 2) := by decide +kernel
theorem dX8_song_210 : decode cX8_song 210 = .ok (.iload 9, 2) := by decide +kernel
theorem dX8_song_212 : decode cX8_song 212 = .ok (.aload_n 0, 1) := by decide +kernel
theorem dX8_song_213 : decode cX8_song 213 = .ok (.getfield 19, 3) := by decide +kernel
theorem dX8_song_216 : decode cX8_song 216 = .ok (.iconst 0, 1) := by decide +kernel
theorem dX8_song_217 : decode cX8_song 217 = .ok (.iaload, 1) := by decide +kernel
theorem dX8_song_218 : decode cX8_song 218 = .ok (.if_icmp .ge 7, 3) := by decide +kernel
theorem dX8_song_221 : decode cX8_song 221 = .ok (.iconst 0, 1) := by decide +kernel
theorem dX8_song_222 : decode cX8_song 222 = .ok (.goto 4, 3) := by decide +kernel
theorem dX8_song_225 : decode cX8_song 225 = .ok (.iconst 1, 1) := by decide +kernel
theorem dX8_song_226 : decode cX8_song 226 = .ok (.iadd, 1) := by decide +kernel
theorem dX8_song_227 : decode cX8_song 227 = .ok (.istore 7, 2) := by decide +kernel
theorem dX8_song_229 : decode cX8_song 229 = .ok (.iinc 8 1, 3) := by decide +kernel
theorem dX8_song_232 : decode cX8_song 232 = .ok (.goto (-125), 3) := by decide +kernel
theorem dX8_song_235 : decode cX8_song 235 = .ok (.iload_n 1, 1) := by decide +kernel
theorem dX8_song_236 : decode cX8_song 236 = .ok (.ifCond .ne 8, 3) := by decide +kernel
theorem dX8_song_239 : decode cX8_song 239 = .ok (.iload 6, 2) := by decide +kernel
theorem dX8_song_241 : decode cX8_song 241 = .ok (.goto 5, 3) := by decide +kernel
theorem dX8_song_244 : decode cX8_song 244 = .ok (.iload 7, 2) := by decide +kernel
theorem dX8_song_246 : decode cX8_song 246 = .ok (.ireturn, 1) := by decide +kernel
theorem dX8_isSo_0 : decode cX8_isSo 0 = .ok (.iconst 1, 1) := by decide +kernel
theorem dX8_isSo_1 : decode cX8_isSo 1 = .ok (.istore 4, 2) := by decide +kernel
theorem dX8_isSo_3 : decode cX8_isSo 3 = .ok (.iconst 0, 1) := by decide +kernel
theorem dX8_isSo_4 : decode cX8_isSo 4 = .ok (.istore 5, 2) := by decide +kernel
theorem dX8_isSo_6 : decode cX8_isSo 6 = .ok (.iload 5, 2) := by decide +kernel
theorem dX8_isSo_8 : decode cX8_isSo 8 = .ok (.iload_n 3, 1) := by decide +kernel
theorem dX8_isSo_9 : decode cX8_isSo 9 = .ok (.if_icmp .ge 55, 3) := by decide +kernel
theorem dX8_isSo_12 : decode cX8_isSo 12 = .ok (.iload 4, 2) := by decide +kernel
theorem dX8_isSo_14 : decode cX8_isSo 14 = .ok (.ifCond .eq 50, 3) := by decide +kernel
theorem dX8_isSo_17 : decode cX8_isSo 17 = .ok (.aload_n 0, 1) := by decide +kernel
theorem dX8_isSo_18 : decode cX8_isSo 18 = .ok (.aload_n 0, 1) := by decide +kernel
theorem dX8_isSo_19 : decode cX8_isSo 19 = .ok (.getfield 25, 3) := by decide +kernel
theorem dX8_isSo_22 : decode cX8_isSo 22 = .ok (.iload 5, 2) := by decide +kernel
theorem dX8_isSo_24 : decode cX8_isSo 24 = .ok (.iload_n 1, 1) := by decide +kernel
theorem dX8_isSo_25 : decode cX8_isSo 25 = .ok (.aload_n 0, 1) := by decide +kernel
theorem dX8_isSo_26 : decode cX8_isSo 26 = .ok (.getfield 25, 3) := by decide +kernel
theorem dX8_isSo_29 : decode cX8_isSo 29 = .ok (.iconst 0, 1) := by decide +kernel
theorem dX8_isSo_30 : decode cX8_isSo 30 = .ok (.invokestatic 175, 3) := by decide +kernel
theorem dX8_isSo_33 : decode cX8_isSo 33 = .ok (.invokevirtual 179, 3) := by decide +kernel
theorem dX8_isSo_36 : decode cX8_isSo 36 = .ok (.invokestatic 183, 3) := by decide +kernel
theorem dX8_isSo_39 : decode cX8_isSo 39 = .ok (.aload_n 0, 1) := by decide +kernel
theorem dX8_isSo_40 : decode cX8_isSo 40 = .ok (.getfield 16, 3) := by decide +kernel
theorem dX8_isSo_43 : decode cX8_isSo 43 = .ok (.iload_n 2, 1) := by decide +kernel
theorem dX8_isSo_44 : decode cX8_isSo 44 = .ok (.iload 5, 2) := by decide +kernel
theorem dX8_isSo_46 : decode cX8_isSo 46 = .ok (.iadd, 1) := by decide +kernel
theorem dX8_isSo_47 : decode cX8_isSo 47 = .ok (.iaload, 1) := by decide +kernel
theorem dX8_isSo_48 : decode cX8_isSo 48 = .ok (.if_icmp .ne 7, 3) := by decide +kernel
theorem dX8_isSo_51 : decode cX8_isSo 51 = .ok (.iconst 1, 1) := by decide +kernel
theorem dX8_isSo_52 : decode cX8_isSo 52 = .ok (.goto 4, 3) := by decide +kernel
theorem dX8_isSo_55 : decode cX8_isSo 55 = .ok (.iconst 0, 1) := by decide +kernel
theorem dX8_isSo_56 : decode cX8_isSo 56 = .ok (.istore 4, 2) := by decide +kernel
theorem dX8_isSo_58 : decode cX8_isSo 58 = .ok (.iinc 5 1, 3) := by decide +kernel
theorem dX8_isSo_61 : decode cX8_isSo 61 = .ok (.goto (-55), 3) := by decide +kernel
theorem dX8_isSo_64 : decode cX8_isSo 64 = .ok (.iload 4, 2) := by decide +kernel
theorem dX8_isSo_66 : decode cX8_isSo 66 = .ok (.ireturn, 1) := by decide +kernel
theorem dX8_who_0 : decode cX8_who 0 = .ok (.aload_n 0, 1) := by decide +kernel
theorem dX8_who_1 : decode cX8_who 1 = .ok (.iconst 0, 1) := by decide +kernel
theorem dX8_who_2 : decode cX8_who 2 = .ok (.putfield 50, 3) := by decide +kernel
theorem dX8_who_5 : decode cX8_who 5 = .ok (.aload_n 0, 1) := by decide +kernel
theorem dX8_who_6 : decode cX8_who 6 = .ok (.iload_n 1, 1) := by decide +kernel
theorem dX8_who_7 : decode cX8_who 7 = .ok (.invokevirtual 213, 3) := by decide +kernel
theorem dX8_who_10 : decode cX8_who 10 = .ok (.ifCond .eq 31, 3) := by decide +kernel
theorem dX8_who_13 : decode cX8_who 13 = .ok (.iload_n 2, 1) := by decide +kernel
theorem dX8_who_14 : decode cX8_who 14 = .ok (.i2l, 1) := by decide +kernel
theorem dX8_who_15 : decode cX8_who 15 = .ok (.lconst 0, 1) := by decide +kernel
theorem dX8_who_16 : decode cX8_who 16 = .ok (.lconst 1, 1) := by decide +kernel
theorem dX8_who_17 : decode cX8_who 17 = .ok (.invokestatic 60, 3) := by decide +kernel
theorem dX8_who_20 : decode cX8_who 20 = .ok (.ifCond .eq 21, 3) := by decide +kernel
theorem dX8_who_23 : decode cX8_who 23 = .ok (.aload_n 0, 1) := by decide +kernel
theorem dX8_who_24 : decode cX8_who 24 = .ok (.iload_n 3, 1) := by decide +kernel
theorem dX8_who_25 : decode cX8_who 25 = .ok (.invokevirtual 213, 3) := by decide +kernel
theorem dX8_who_28 : decode cX8_who 28 = .ok (.ifCond .eq 13, 3) := by decide +kernel
theorem dX8_who_31 : decode cX8_who 31 = .ok (.iload 4, 2) := by decide +kernel
theorem dX8_who_33 : decode cX8_who 33 = .ok (.iload 6, 2) := by decide +kernel
theorem dX8_who_35 : decode cX8_who 35 = .ok (.invokestatic 241, 3) := by decide +kernel
theorem dX8_who_38 : decode cX8_who 38 = .ok (.ifCond .ne 6, 3) := by decide +kernel
theorem dX8_who_41 : decode cX8_who 41 = .ok (.ldc 70, 2) := by decide +kernel
theorem dX8_who_43 : decode cX8_who 43 = .ok (.ireturn, 1) := by decide +kernel
theorem dX8_who_44 : decode cX8_who 44 = .ok (.aload_n 0, 1) := by decide +kernel
theorem dX8_who_45 : decode cX8_who 45 = .ok (.iload 4, 2) := by decide +kernel
theorem dX8_who_47 : decode cX8_who 47 = .ok (.iload 5, 2) := by decide +kernel
theorem dX8_who_49 : decode cX8_who 49 = .ok (.iload 6, 2) := by decide +kernel
theorem dX8_who_51 : decode cX8_who 51 = .ok (.invokevirtual 244, 3) := by decide +kernel
theorem dX8_who_54 : decode cX8_who 54 = .ok (.istore 7, 2) := by decide +kernel
theorem dX8_who_56 : decode cX8_who 56 = .ok (.iload 7, 2) := by decide +kernel
theorem dX8_who_58 : decode cX8_who 58 = .ok (.ifCond .eq 6, 3) := by decide +kernel
theorem dX8_who_61 : decode cX8_who 61 = .ok (.iload 7, 2) := by decide +kernel
theorem dX8_who_63 : decode cX8_who 63 = .ok (.ireturn, 1) := by decide +kernel
theorem dX8_who_64 : decode cX8_who 64 = .ok (.iconst 0, 1) := by decide +kernel
theorem dX8_who_65 : decode cX8_who 65 = .ok (.istore 8, 2) := by decide +kernel
theorem dX8_who_67 : decode cX8_who 67 = .ok (.iload_n 2, 1) := by decide +kernel
theorem dX8_who_68 : decode cX8_who 68 = .ok (.ifCond .ne 7, 3) := by decide +kernel
theorem dX8_who_71 : decode cX8_who 71 = .ok (.iconst 1, 1) := by decide +kernel
theorem dX8_who_72 : decode cX8_who 72 = .ok (.goto 4, 3) := by decide +kernel
theorem dX8_who_75 : decode cX8_who 75 = .ok (.iconst 0, 1) := by decide +kernel
theorem dX8_who_76 : decode cX8_who 76 = .ok (.istore 9, 2) := by decide +kernel
theorem dX8_who_78 : decode cX8_who 78 = .ok (.iload 9, 2) := by decide +kernel
theorem dX8_who_80 : decode cX8_who 80 = .ok (.iload_n 2, 1) := by decide +kernel
theorem dX8_who_81 : decode cX8_who 81 = .ok (.ifCond .ne 7, 3) := by decide +kernel
theorem dX8_who_84 : decode cX8_who 84 = .ok (.iconst 5, 1) := by decide +kernel
theorem dX8_who_85 : decode cX8_who 85 = .ok (.goto 5, 3) := by decide +kernel
theorem dX8_who_88 : decode cX8_who 88 = .ok (.bipush 11, 2) := by decide +kernel
theorem dX8_who_90 : decode cX8_who 90 = .ok (.if_icmp .gt 63, 3) := by decide +kernel
theorem dX8_who_93 : decode cX8_who 93 = .ok (.aload_n 0, 1) := by decide +kernel
theorem dX8_who_94 : decode cX8_who 94 = .ok (.invokevirtual 233, 3) := by decide +kernel
theorem dX8_who_97 : decode cX8_who 97 = .ok (.aload_n 0, 1) := by decide +kernel
theorem dX8_who_98 : decode cX8_who 98 = .ok (.getfield 25, 3) := by decide +kernel
theorem dX8_who_101 : decode cX8_who 101 = .ok (.iload_n 1, 1) := by decide +kernel
theorem dX8_who_102 : decode cX8_who 102 = .ok (.iload_n 2, 1) := by decide +kernel
theorem dX8_who_103 : decode cX8_who 103 = .ok (.ifCond .ne 7, 3) := by decide +kernel
theorem dX8_who_106 : decode cX8_who 106 = .ok (.iconst 0, 1) := by decide +kernel
theorem dX8_who_107 : decode cX8_who 107 = .ok (.goto 4, 3) := by decide +kernel
theorem dX8_who_110 : decode cX8_who 110 = .ok (.iconst 1, 1) := by decide +kernel
theorem dX8_who_111 : decode cX8_who 111 = .ok (.iload 9, 2) := by decide +kernel
theorem dX8_who_113 : decode cX8_who 113 = .ok (.invokestatic 192, 3) := by decide +kernel
theorem dX8_who_116 : decode cX8_who 116 = .ok (.iload 8, 2) := by decide +kernel
theorem dX8_who_118 : decode cX8_who 118 = .ok (.aload_n 0, 1) := by decide +kernel
theorem dX8_who_119 : decode cX8_who 119 = .ok (.iload_n 3, 1) := by decide +kernel
theorem dX8_who_120 : decode cX8_who 120 = .ok (.bipush 40, 2) := by decide +kernel
theorem dX8_who_122 : decode cX8_who 122 = .ok (.iload 4, 2) := by decide +kernel
theorem dX8_who_124 : decode cX8_who 124 = .ok (.imul, 1) := by decide +kernel
theorem dX8_who_125 : decode cX8_who 125 = .ok (.iload 5, 2) := by decide +kernel
theorem dX8_who_127 : decode cX8_who 127 = .ok (.iadd, 1) := by decide +kernel
theorem dX8_who_128 : decode cX8_who 128 = .ok (.iload 6, 2) := by decide +kernel
theorem dX8_who_130 : decode cX8_who 130 = .ok (.invokevirtual 248, 3) := by decide +kernel
theorem dX8_who_133 : decode cX8_who 133 = .ok (.ifCond .eq 10, 3) := by decide +kernel
theorem dX8_who_136 : decode cX8_who 136 = .ok (.iconst 1, 1) := by decide +kernel
theorem dX8_who_137 : decode cX8_who 137 = .ok (.iload 9, 2) := by decide +kernel
theorem dX8_who_139 : decode cX8_who 139 = .ok (.ishl, 1) := by decide +kernel
theorem dX8_who_140 : decode cX8_who 140 = .ok (.goto 4, 3) := by decide +kernel
theorem dX8_who_143 : decode cX8_who 143 = .ok (.iconst 0, 1) := by decide +kernel
theorem dX8_who_144 : decode cX8_who 144 = .ok (.ior, 1) := by decide +kernel
theorem dX8_who_145 : decode cX8_who 145 = .ok (.istore 8, 2) := by decide +kernel
theorem dX8_who_147 : decode cX8_who 147 = .ok (.iinc 9 1, 3) := by decide +kernel
theorem dX8_who_150 : decode cX8_who 150 = .ok (.goto (-72), 3) := by decide +kernel
theorem dX8_who_153 : decode cX8_who 153 = .ok (.iload 8, 2) := by decide +kernel
theorem dX8_who_155 : decode cX8_who 155 = .ok (.ireturn, 1) := by decide +kernel
theorem dX8_reaches_0 : decode cX8_reaches 0 = .ok (.aload_n 0, 1) := by decide +kernel
theorem dX8_reaches_1 : decode cX8_reaches 1 = .ok (.iconst 0, 1) := by decide +kernel
theorem dX8_reaches_2 : decode cX8_reaches 2 = .ok (.putfield 50, 3) := by decide +kernel
theorem dX8_reaches_5 : decode cX8_reaches 5 = .ok (.aload_n 0, 1) := by decide +kernel
theorem dX8_reaches_6 : decode cX8_reaches 6 = .ok (.iload_n 1, 1) := by decide +kernel
theorem dX8_reaches_7 : decode cX8_reaches 7 = .ok (.invokevirtual 213, 3) := by decide +kernel
theorem dX8_reaches_10 : decode cX8_reaches 10 = .ok (.ifCond .eq 12, 3) := by decide +kernel
theorem dX8_reaches_13 : decode cX8_reaches 13 = .ok (.iload_n 2, 1) := by decide +kernel
theorem dX8_reaches_14 : decode cX8_reaches 14 = .ok (.iload 4, 2) := by decide +kernel
theorem dX8_reaches_16 : decode cX8_reaches 16 = .ok (.invokestatic 241, 3) := by decide +kernel
theorem dX8_reaches_19 : decode cX8_reaches 19 = .ok (.ifCond .ne 6, 3) := by decide +kernel
theorem dX8_reaches_22 : decode cX8_reaches 22 = .ok (.ldc 70, 2) := by decide +kernel
theorem dX8_reaches_24 : decode cX8_reaches 24 = .ok (.ireturn, 1) := by decide +kernel
theorem dX8_reaches_25 : decode cX8_reaches 25 = .ok (.aload_n 0, 1) := by decide +kernel
theorem dX8_reaches_26 : decode cX8_reaches 26 = .ok (.iload_n 2, 1) := by decide +kernel
theorem dX8_reaches_27 : decode cX8_reaches 27 = .ok (.iload_n 3, 1) := by decide +kernel
theorem dX8_reaches_28 : decode cX8_reaches 28 = .ok (.iload 4, 2) := by decide +kernel
theorem dX8_reaches_30 : decode cX8_reaches 30 = .ok (.invokevirtual 244, 3) := by decide +kernel
theorem dX8_reaches_33 : decode cX8_reaches 33 = .ok (.istore 5, 2) := by decide +kernel
theorem dX8_reaches_35 : decode cX8_reaches 35 = .ok (.iload 5, 2) := by decide +kernel
theorem dX8_reaches_37 : decode cX8_reaches 37 = .ok (.ifCond .eq 6, 3) := by decide +kernel
theorem dX8_reaches_40 : decode cX8_reaches 40 = .ok (.iload 5, 2) := by decide +kernel
theorem dX8_reaches_42 : decode cX8_reaches 42 = .ok (.ireturn, 1) := by decide +kernel
theorem dX8_reaches_43 : decode cX8_reaches 43 = .ok (.iconst 0, 1) := by decide +kernel
theorem dX8_reaches_44 : decode cX8_reaches 44 = .ok (.istore 6, 2) := by decide +kernel
theorem dX8_reaches_46 : decode cX8_reaches 46 = .ok (.iconst 0, 1) := by decide +kernel
theorem dX8_reaches_47 : decode cX8_reaches 47 = .ok (.istore 7, 2) := by decide +kernel
theorem dX8_reaches_49 : decode cX8_reaches 49 = .ok (.iload 7, 2) := by decide +kernel
theorem dX8_reaches_51 : decode cX8_reaches 51 = .ok (.bipush 8, 2) := by decide +kernel
theorem dX8_reaches_53 : decode cX8_reaches 53 = .ok (.if_icmp .gt 50, 3) := by decide +kernel
theorem dX8_reaches_56 : decode cX8_reaches 56 = .ok (.aload_n 0, 1) := by decide +kernel
theorem dX8_reaches_57 : decode cX8_reaches 57 = .ok (.invokevirtual 233, 3) := by decide +kernel
theorem dX8_reaches_60 : decode cX8_reaches 60 = .ok (.aload_n 0, 1) := by decide +kernel
theorem dX8_reaches_61 : decode cX8_reaches 61 = .ok (.getfield 25, 3) := by decide +kernel
theorem dX8_reaches_64 : decode cX8_reaches 64 = .ok (.iconst 2, 1) := by decide +kernel
theorem dX8_reaches_65 : decode cX8_reaches 65 = .ok (.iload 7, 2) := by decide +kernel
theorem dX8_reaches_67 : decode cX8_reaches 67 = .ok (.iastore, 1) := by decide +kernel
theorem dX8_reaches_68 : decode cX8_reaches 68 = .ok (.iload 6, 2) := by decide +kernel
theorem dX8_reaches_70 : decode cX8_reaches 70 = .ok (.aload_n 0, 1) := by decide +kernel
theorem dX8_reaches_71 : decode cX8_reaches 71 = .ok (.iload_n 1, 1) := by decide +kernel
theorem dX8_reaches_72 : decode cX8_reaches 72 = .ok (.bipush 40, 2) := by decide +kernel
theorem dX8_reaches_74 : decode cX8_reaches 74 = .ok (.iload_n 2, 1) := by decide +kernel
theorem dX8_reaches_75 : decode cX8_reaches 75 = .ok (.imul, 1) := by decide +kernel
theorem dX8_reaches_76 : decode cX8_reaches 76 = .ok (.iload_n 3, 1) := by decide +kernel
theorem dX8_reaches_77 : decode cX8_reaches 77 = .ok (.iadd, 1) := by decide +kernel
theorem dX8_reaches_78 : decode cX8_reaches 78 = .ok (.iload 4, 2) := by decide +kernel
theorem dX8_reaches_80 : decode cX8_reaches 80 = .ok (.invokevirtual 248, 3) := by decide +kernel
theorem dX8_reaches_83 : decode cX8_reaches 83 = .ok (.ifCond .eq 10, 3) := by decide +kernel
theorem dX8_reaches_86 : decode cX8_reaches 86 = .ok (.iconst 1, 1) := by decide +kernel
theorem dX8_reaches_87 : decode cX8_reaches 87 = .ok (.iload 7, 2) := by decide +kernel
theorem dX8_reaches_89 : decode cX8_reaches 89 = .ok (.ishl, 1) := by decide +kernel
theorem dX8_reaches_90 : decode cX8_reaches 90 = .ok (.goto 4, 3) := by decide +kernel
theorem dX8_reaches_93 : decode cX8_reaches 93 = .ok (.iconst 0, 1) := by decide +kernel
theorem dX8_reaches_94 : decode cX8_reaches 94 = .ok (.ior, 1) := by decide +kernel
theorem dX8_reaches_95 : decode cX8_reaches 95 = .ok (.istore 6, 2) := by decide +kernel
theorem dX8_reaches_97 : decode cX8_reaches 97 = .ok (.iinc 7 1, 3) := by decide +kernel
theorem dX8_reaches_100 : decode cX8_reaches 100 = .ok (.goto (-51), 3) := by decide +kernel
theorem dX8_reaches_103 : decode cX8_reaches 103 = .ok (.iload 6, 2) := by decide +kernel
theorem dX8_reaches_105 : decode cX8_reaches 105 = .ok (.ireturn, 1) := by decide +kernel
theorem dX8_mould_0 : decode cX8_mould 0 = .ok (.aload_n 0, 1) := by decide +kernel
theorem dX8_mould_1 : decode cX8_mould 1 = .ok (.iconst 0, 1) := by decide +kernel
theorem dX8_mould_2 : decode cX8_mould 2 = .ok (.putfield 50, 3) := by decide +kernel
theorem dX8_mould_5 : decode cX8_mould 5 = .ok (.aload_n 0, 1) := by decide +kernel
theorem dX8_mould_6 : decode cX8_mould 6 = .ok (.iload_n 1, 1) := by decide +kernel
theorem dX8_mould_7 : decode cX8_mould 7 = .ok (.invokevirtual 213, 3) := by decide +kernel
theorem dX8_mould_10 : decode cX8_mould 10 = .ok (.ifCond .eq 43, 3) := by decide +kernel
theorem dX8_mould_13 : decode cX8_mould 13 = .ok (.iload_n 2, 1) := by decide +kernel
theorem dX8_mould_14 : decode cX8_mould 14 = .ok (.i2l, 1) := by decide +kernel
theorem dX8_mould_15 : decode cX8_mould 15 = .ok (.invokestatic 209, 3) := by decide +kernel
theorem dX8_mould_18 : decode cX8_mould 18 = .ok (.ifCond .eq 35, 3) := by decide +kernel
theorem dX8_mould_21 : decode cX8_mould 21 = .ok (.aload_n 0, 1) := by decide +kernel
theorem dX8_mould_22 : decode cX8_mould 22 = .ok (.iload_n 3, 1) := by decide +kernel
theorem dX8_mould_23 : decode cX8_mould 23 = .ok (.invokevirtual 213, 3) := by decide +kernel
theorem dX8_mould_26 : decode cX8_mould 26 = .ok (.ifCond .eq 27, 3) := by decide +kernel
theorem dX8_mould_29 : decode cX8_mould 29 = .ok (.iload 4, 2) := by decide +kernel
theorem dX8_mould_31 : decode cX8_mould 31 = .ok (.i2l, 1) := by decide +kernel
theorem dX8_mould_32 : decode cX8_mould 32 = .ok (.lconst 0, 1) := by decide +kernel
theorem dX8_mould_33 : decode cX8_mould 33 = .ok (.ldc2_w 252, 3) := by decide +kernel
theorem dX8_mould_36 : decode cX8_mould 36 = .ok (.invokestatic 60, 3) := by decide +kernel
theorem dX8_mould_39 : decode cX8_mould 39 = .ok (.ifCond .eq 14, 3) := by decide +kernel
theorem dX8_mould_42 : decode cX8_mould 42 = .ok (.iload 5, 2) := by decide +kernel
theorem dX8_mould_44 : decode cX8_mould 44 = .ok (.i2l, 1) := by decide +kernel
theorem dX8_mould_45 : decode cX8_mould 45 = .ok (.lconst 0, 1) := by decide +kernel
theorem dX8_mould_46 : decode cX8_mould 46 = .ok (.lconst 1, 1) := by decide +kernel
theorem dX8_mould_47 : decode cX8_mould 47 = .ok (.invokestatic 60, 3) := by decide +kernel
theorem dX8_mould_50 : decode cX8_mould 50 = .ok (.ifCond .ne 7, 3) := by decide +kernel
theorem dX8_mould_53 : decode cX8_mould 53 = .ok (.ldc2_w 254, 3) := by decide +kernel
theorem dX8_mould_56 : decode cX8_mould 56 = .ok (.lreturn, 1) := by decide +kernel
theorem dX8_mould_57 : decode cX8_mould 57 = .ok (.aload_n 0, 1) := by decide +kernel
theorem dX8_mould_58 : decode cX8_mould 58 = .ok (.getfield 19, 3) := by decide +kernel
theorem dX8_mould_61 : decode cX8_mould 61 = .ok (.iconst 0, 1) := by decide +kernel
theorem dX8_mould_62 : decode cX8_mould 62 = .ok (.invokestatic 175, 3) := by decide +kernel
theorem dX8_mould_65 : decode cX8_mould 65 = .ok (.istore 6, 2) := by decide +kernel
theorem dX8_mould_67 : decode cX8_mould 67 = .ok (.lconst 0, 1) := by decide +kernel
