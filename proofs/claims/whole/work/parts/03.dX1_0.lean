theorem dX1_init_0 : decode cX1_init 0 = .ok (.aload_n 0, 1) := by decide +kernel
theorem dX1_init_1 : decode cX1_init 1 = .ok (.invokespecial 3, 3) := by decide +kernel
theorem dX1_init_4 : decode cX1_init 4 = .ok (.aload_n 0, 1) := by decide +kernel
theorem dX1_init_5 : decode cX1_init 5 = .ok (.bipush 16, 2) := by decide +kernel
theorem dX1_init_7 : decode cX1_init 7 = .ok (.newarray .int, 2) := by decide +kernel
theorem dX1_init_9 : decode cX1_init 9 = .ok (.putfield 9, 3) := by decide +kernel
theorem dX1_init_12 : decode cX1_init 12 = .ok (.return_, 1) := by decide +kernel
theorem dX1_answer_0 : decode cX1_answer 0 = .ok (.aload_n 0, 1) := by decide +kernel
theorem dX1_answer_1 : decode cX1_answer 1 = .ok (.iconst 0, 1) := by decide +kernel
theorem dX1_answer_2 : decode cX1_answer 2 = .ok (.putfield 15, 3) := by decide +kernel
theorem dX1_answer_5 : decode cX1_answer 5 = .ok (.aload_n 0, 1) := by decide +kernel
theorem dX1_answer_6 : decode cX1_answer 6 = .ok (.aload_n 1, 1) := by decide +kernel
theorem dX1_answer_7 : decode cX1_answer 7 = .ok (.iload_n 2, 1) := by decide +kernel
theorem dX1_answer_8 : decode cX1_answer 8 = .ok (.iload_n 3, 1) := by decide +kernel
theorem dX1_answer_9 : decode cX1_answer 9 = .ok (.iconst 0, 1) := by decide +kernel
theorem dX1_answer_10 : decode cX1_answer 10 = .ok (.invokevirtual 19, 3) := by decide +kernel
theorem dX1_answer_13 : decode cX1_answer 13 = .ok (.ireturn, 1) := by decide +kernel
theorem dX1_asked_0 : decode cX1_asked 0 = .ok (.aload_n 0, 1) := by decide +kernel
theorem dX1_asked_1 : decode cX1_asked 1 = .ok (.aload_n 1, 1) := by decide +kernel
theorem dX1_asked_2 : decode cX1_asked 2 = .ok (.iload_n 2, 1) := by decide +kernel
theorem dX1_asked_3 : decode cX1_asked 3 = .ok (.aload_n 1, 1) := by decide +kernel
theorem dX1_asked_4 : decode cX1_asked 4 = .ok (.getfield 23, 3) := by decide +kernel
theorem dX1_asked_7 : decode cX1_asked 7 = .ok (.iload_n 2, 1) := by decide +kernel
theorem dX1_asked_8 : decode cX1_asked 8 = .ok (.iaload, 1) := by decide +kernel
theorem dX1_asked_9 : decode cX1_asked 9 = .ok (.iload_n 3, 1) := by decide +kernel
theorem dX1_asked_10 : decode cX1_asked 10 = .ok (.invokestatic 28, 3) := by decide +kernel
theorem dX1_asked_13 : decode cX1_asked 13 = .ok (.iload 4, 2) := by decide +kernel
theorem dX1_asked_15 : decode cX1_asked 15 = .ok (.invokevirtual 32, 3) := by decide +kernel
theorem dX1_asked_18 : decode cX1_asked 18 = .ok (.ireturn, 1) := by decide +kernel
theorem dX1_bodyFor_0 : decode cX1_bodyFor 0 = .ok (.iload_n 0, 1) := by decide +kernel
theorem dX1_bodyFor_1 : decode cX1_bodyFor 1 = .ok (.istore_n 2, 1) := by decide +kernel
theorem dX1_bodyFor_2 : decode cX1_bodyFor 2 = .ok (.iconst 0, 1) := by decide +kernel
theorem dX1_bodyFor_3 : decode cX1_bodyFor 3 = .ok (.istore_n 3, 1) := by decide +kernel
theorem dX1_bodyFor_4 : decode cX1_bodyFor 4 = .ok (.iload_n 3, 1) := by decide +kernel
theorem dX1_bodyFor_5 : decode cX1_bodyFor 5 = .ok (.bipush 6, 2) := by decide +kernel
theorem dX1_bodyFor_7 : decode cX1_bodyFor 7 = .ok (.if_icmp .ge 51, 3) := by decide +kernel
theorem dX1_bodyFor_10 : decode cX1_bodyFor 10 = .ok (.iload_n 2, 1) := by decide +kernel
theorem dX1_bodyFor_11 : decode cX1_bodyFor 11 = .ok (.iconst 0, 1) := by decide +kernel
theorem dX1_bodyFor_12 : decode cX1_bodyFor 12 = .ok (.iconst 5, 1) := by decide +kernel
theorem dX1_bodyFor_13 : decode cX1_bodyFor 13 = .ok (.invokestatic 35, 3) := by decide +kernel
theorem dX1_bodyFor_16 : decode cX1_bodyFor 16 = .ok (.ifCond .eq 42, 3) := by decide +kernel
theorem dX1_bodyFor_19 : decode cX1_bodyFor 19 = .ok (.iload_n 1, 1) := by decide +kernel
theorem dX1_bodyFor_20 : decode cX1_bodyFor 20 = .ok (.ifCond .ne 11, 3) := by decide +kernel
theorem dX1_bodyFor_23 : decode cX1_bodyFor 23 = .ok (.getstatic 39, 3) := by decide +kernel
theorem dX1_bodyFor_26 : decode cX1_bodyFor 26 = .ok (.iload_n 2, 1) := by decide +kernel
theorem dX1_bodyFor_27 : decode cX1_bodyFor 27 = .ok (.iaload, 1) := by decide +kernel
theorem dX1_bodyFor_28 : decode cX1_bodyFor 28 = .ok (.goto 8, 3) := by decide +kernel
theorem dX1_bodyFor_31 : decode cX1_bodyFor 31 = .ok (.getstatic 42, 3) := by decide +kernel
theorem dX1_bodyFor_34 : decode cX1_bodyFor 34 = .ok (.iload_n 2, 1) := by decide +kernel
theorem dX1_bodyFor_35 : decode cX1_bodyFor 35 = .ok (.iaload, 1) := by decide +kernel
theorem dX1_bodyFor_36 : decode cX1_bodyFor 36 = .ok (.istore 4, 2) := by decide +kernel
theorem dX1_bodyFor_38 : decode cX1_bodyFor 38 = .ok (.iload 4, 2) := by decide +kernel
theorem dX1_bodyFor_40 : decode cX1_bodyFor 40 = .ok (.ifCond .eq 6, 3) := by decide +kernel
theorem dX1_bodyFor_43 : decode cX1_bodyFor 43 = .ok (.iload 4, 2) := by decide +kernel
theorem dX1_bodyFor_45 : decode cX1_bodyFor 45 = .ok (.ireturn, 1) := by decide +kernel
theorem dX1_bodyFor_46 : decode cX1_bodyFor 46 = .ok (.getstatic 45, 3) := by decide +kernel
theorem dX1_bodyFor_49 : decode cX1_bodyFor 49 = .ok (.iload_n 2, 1) := by decide +kernel
theorem dX1_bodyFor_50 : decode cX1_bodyFor 50 = .ok (.iaload, 1) := by decide +kernel
theorem dX1_bodyFor_51 : decode cX1_bodyFor 51 = .ok (.istore_n 2, 1) := by decide +kernel
theorem dX1_bodyFor_52 : decode cX1_bodyFor 52 = .ok (.iinc 3 1, 3) := by decide +kernel
theorem dX1_bodyFor_55 : decode cX1_bodyFor 55 = .ok (.goto (-51), 3) := by decide +kernel
theorem dX1_bodyFor_58 : decode cX1_bodyFor 58 = .ok (.iconst 0, 1) := by decide +kernel
theorem dX1_bodyFor_59 : decode cX1_bodyFor 59 = .ok (.ireturn, 1) := by decide +kernel
theorem dX1_body_0 : decode cX1_body 0 = .ok (.iload 4, 2) := by decide +kernel
theorem dX1_body_2 : decode cX1_body 2 = .ok (.bipush 16, 2) := by decide +kernel
theorem dX1_body_4 : decode cX1_body 4 = .ok (.if_icmp .lt 5, 3) := by decide +kernel
theorem dX1_body_7 : decode cX1_body 7 = .ok (.iconst 0, 1) := by decide +kernel
theorem dX1_body_8 : decode cX1_body 8 = .ok (.ireturn, 1) := by decide +kernel
theorem dX1_body_9 : decode cX1_body 9 = .ok (.aload_n 0, 1) := by decide +kernel
theorem dX1_body_10 : decode cX1_body 10 = .ok (.iload_n 3, 1) := by decide +kernel
theorem dX1_body_11 : decode cX1_body 11 = .ok (.invokevirtual 48, 3) := by decide +kernel
theorem dX1_body_14 : decode cX1_body 14 = .ok (.iload 4, 2) := by decide +kernel
theorem dX1_body_16 : decode cX1_body 16 = .ok (.iconst 1, 1) := by decide +kernel
theorem dX1_body_17 : decode cX1_body 17 = .ok (.iadd, 1) := by decide +kernel
theorem dX1_body_18 : decode cX1_body 18 = .ok (.istore 5, 2) := by decide +kernel
theorem dX1_body_20 : decode cX1_body 20 = .ok (.iload_n 3, 1) := by decide +kernel
theorem dX1_body_21 : decode cX1_body 21 = .ok (.tableswitch 211 10 24 #[75, 82, 103, 115, 129, 211, 211, 211, 211, 211, 142, 144, 162, 177, 198], 75) := by decide +kernel
theorem dX1_body_96 : decode cX1_body 96 = .ok (.aload_n 1, 1) := by decide +kernel
theorem dX1_body_97 : decode cX1_body 97 = .ok (.getfield 52, 3) := by decide +kernel
theorem dX1_body_100 : decode cX1_body 100 = .ok (.iload_n 2, 1) := by decide +kernel
theorem dX1_body_101 : decode cX1_body 101 = .ok (.iaload, 1) := by decide +kernel
theorem dX1_body_102 : decode cX1_body 102 = .ok (.ireturn, 1) := by decide +kernel
theorem dX1_body_103 : decode cX1_body 103 = .ok (.aload_n 0, 1) := by decide +kernel
theorem dX1_body_104 : decode cX1_body 104 = .ok (.aload_n 1, 1) := by decide +kernel
theorem dX1_body_105 : decode cX1_body 105 = .ok (.iload_n 2, 1) := by decide +kernel
theorem dX1_body_106 : decode cX1_body 106 = .ok (.bipush 10, 2) := by decide +kernel
theorem dX1_body_108 : decode cX1_body 108 = .ok (.iload 5, 2) := by decide +kernel
theorem dX1_body_110 : decode cX1_body 110 = .ok (.invokevirtual 32, 3) := by decide +kernel
theorem dX1_body_113 : decode cX1_body 113 = .ok (.aload_n 0, 1) := by decide +kernel
theorem dX1_body_114 : decode cX1_body 114 = .ok (.aload_n 1, 1) := by decide +kernel
theorem dX1_body_115 : decode cX1_body 115 = .ok (.iload_n 2, 1) := by decide +kernel
theorem dX1_body_116 : decode cX1_body 116 = .ok (.iconst 1, 1) := by decide +kernel
theorem dX1_body_117 : decode cX1_body 117 = .ok (.iload 5, 2) := by decide +kernel
theorem dX1_body_119 : decode cX1_body 119 = .ok (.invokevirtual 19, 3) := by decide +kernel
theorem dX1_body_122 : decode cX1_body 122 = .ok (.iadd, 1) := by decide +kernel
theorem dX1_body_123 : decode cX1_body 123 = .ok (.ireturn, 1) := by decide +kernel
theorem dX1_body_124 : decode cX1_body 124 = .ok (.aload_n 0, 1) := by decide +kernel
theorem dX1_body_125 : decode cX1_body 125 = .ok (.aload_n 1, 1) := by decide +kernel
theorem dX1_body_126 : decode cX1_body 126 = .ok (.iload_n 2, 1) := by decide +kernel
theorem dX1_body_127 : decode cX1_body 127 = .ok (.bipush 11, 2) := by decide +kernel
theorem dX1_body_129 : decode cX1_body 129 = .ok (.iload 5, 2) := by decide +kernel
theorem dX1_body_131 : decode cX1_body 131 = .ok (.invokevirtual 32, 3) := by decide +kernel
theorem dX1_body_134 : decode cX1_body 134 = .ok (.ineg, 1) := by decide +kernel
theorem dX1_body_135 : decode cX1_body 135 = .ok (.ireturn, 1) := by decide +kernel
theorem dX1_body_136 : decode cX1_body 136 = .ok (.aload_n 0, 1) := by decide +kernel
theorem dX1_body_137 : decode cX1_body 137 = .ok (.aload_n 1, 1) := by decide +kernel
theorem dX1_body_138 : decode cX1_body 138 = .ok (.iload_n 2, 1) := by decide +kernel
theorem dX1_body_139 : decode cX1_body 139 = .ok (.bipush 10, 2) := by decide +kernel
theorem dX1_body_141 : decode cX1_body 141 = .ok (.iload 5, 2) := by decide +kernel
theorem dX1_body_143 : decode cX1_body 143 = .ok (.invokevirtual 32, 3) := by decide +kernel
theorem dX1_body_146 : decode cX1_body 146 = .ok (.bipush 100, 2) := by decide +kernel
theorem dX1_body_148 : decode cX1_body 148 = .ok (.isub, 1) := by decide +kernel
theorem dX1_body_149 : decode cX1_body 149 = .ok (.ireturn, 1) := by decide +kernel
theorem dX1_body_150 : decode cX1_body 150 = .ok (.iconst 2, 1) := by decide +kernel
theorem dX1_body_151 : decode cX1_body 151 = .ok (.aload_n 0, 1) := by decide +kernel
theorem dX1_body_152 : decode cX1_body 152 = .ok (.aload_n 1, 1) := by decide +kernel
theorem dX1_body_153 : decode cX1_body 153 = .ok (.iload_n 2, 1) := by decide +kernel
theorem dX1_body_154 : decode cX1_body 154 = .ok (.bipush 13, 2) := by decide +kernel
theorem dX1_body_156 : decode cX1_body 156 = .ok (.iload 5, 2) := by decide +kernel
theorem dX1_body_158 : decode cX1_body 158 = .ok (.invokevirtual 32, 3) := by decide +kernel
theorem dX1_body_161 : decode cX1_body 161 = .ok (.imul, 1) := by decide +kernel
theorem dX1_body_162 : decode cX1_body 162 = .ok (.ireturn, 1) := by decide +kernel
theorem dX1_body_163 : decode cX1_body 163 = .ok (.iload_n 2, 1) := by decide +kernel
theorem dX1_body_164 : decode cX1_body 164 = .ok (.ireturn, 1) := by decide +kernel
theorem dX1_body_165 : decode cX1_body 165 = .ok (.aload_n 0, 1) := by decide +kernel
theorem dX1_body_166 : decode cX1_body 166 = .ok (.aload_n 1, 1) := by decide +kernel
theorem dX1_body_167 : decode cX1_body 167 = .ok (.iload_n 2, 1) := by decide +kernel
theorem dX1_body_168 : decode cX1_body 168 = .ok (.bipush 20, 2) := by decide +kernel
theorem dX1_body_170 : decode cX1_body 170 = .ok (.iload 5, 2) := by decide +kernel
theorem dX1_body_172 : decode cX1_body 172 = .ok (.invokevirtual 32, 3) := by decide +kernel
theorem dX1_body_175 : decode cX1_body 175 = .ok (.aload_n 1, 1) := by decide +kernel
theorem dX1_body_176 : decode cX1_body 176 = .ok (.getfield 55, 3) := by decide +kernel
theorem dX1_body_179 : decode cX1_body 179 = .ok (.iload_n 2, 1) := by decide +kernel
theorem dX1_body_180 : decode cX1_body 180 = .ok (.iaload, 1) := by decide +kernel
theorem dX1_body_181 : decode cX1_body 181 = .ok (.iadd, 1) := by decide +kernel
theorem dX1_body_182 : decode cX1_body 182 = .ok (.ireturn, 1) := by decide +kernel
theorem dX1_body_183 : decode cX1_body 183 = .ok (.aload_n 0, 1) := by decide +kernel
theorem dX1_body_184 : decode cX1_body 184 = .ok (.aload_n 1, 1) := by decide +kernel
theorem dX1_body_185 : decode cX1_body 185 = .ok (.iload_n 2, 1) := by decide +kernel
theorem dX1_body_186 : decode cX1_body 186 = .ok (.bipush 21, 2) := by decide +kernel
theorem dX1_body_188 : decode cX1_body 188 = .ok (.iload 5, 2) := by decide +kernel
theorem dX1_body_190 : decode cX1_body 190 = .ok (.invokevirtual 32, 3) := by decide +kernel
theorem dX1_body_193 : decode cX1_body 193 = .ok (.sipush 1000, 3) := by decide +kernel
theorem dX1_body_196 : decode cX1_body 196 = .ok (.isub, 1) := by decide +kernel
theorem dX1_body_197 : decode cX1_body 197 = .ok (.ireturn, 1) := by decide +kernel
theorem dX1_body_198 : decode cX1_body 198 = .ok (.aload_n 0, 1) := by decide +kernel
theorem dX1_body_199 : decode cX1_body 199 = .ok (.aload_n 1, 1) := by decide +kernel
theorem dX1_body_200 : decode cX1_body 200 = .ok (.iload_n 2, 1) := by decide +kernel
theorem dX1_body_201 : decode cX1_body 201 = .ok (.bipush 20, 2) := by decide +kernel
theorem dX1_body_203 : decode cX1_body 203 = .ok (.iload 5, 2) := by decide +kernel
theorem dX1_body_205 : decode cX1_body 205 = .ok (.invokevirtual 32, 3) := by decide +kernel
theorem dX1_body_208 : decode cX1_body 208 = .ok (.aload_n 0, 1) := by decide +kernel
theorem dX1_body_209 : decode cX1_body 209 = .ok (.aload_n 1, 1) := by decide +kernel
theorem dX1_body_210 : decode cX1_body 210 = .ok (.iload_n 2, 1) := by decide +kernel
theorem dX1_body_211 : decode cX1_body 211 = .ok (.iconst 0, 1) := by decide +kernel
theorem dX1_body_212 : decode cX1_body 212 = .ok (.iload 5, 2) := by decide +kernel
theorem dX1_body_214 : decode cX1_body 214 = .ok (.invokevirtual 19, 3) := by decide +kernel
theorem dX1_body_217 : decode cX1_body 217 = .ok (.isub, 1) := by decide +kernel
theorem dX1_body_218 : decode cX1_body 218 = .ok (.ireturn, 1) := by decide +kernel
theorem dX1_body_219 : decode cX1_body 219 = .ok (.iconst 2, 1) := by decide +kernel
theorem dX1_body_220 : decode cX1_body 220 = .ok (.aload_n 0, 1) := by decide +kernel
theorem dX1_body_221 : decode cX1_body 221 = .ok (.aload_n 1, 1) := by decide +kernel
theorem dX1_body_222 : decode cX1_body 222 = .ok (.iload_n 2, 1) := by decide +kernel
theorem dX1_body_223 : decode cX1_body 223 = .ok (.bipush 21, 2) := by decide +kernel
theorem dX1_body_225 : decode cX1_body 225 = .ok (.iload 5, 2) := by decide +kernel
theorem dX1_body_227 : decode cX1_body 227 = .ok (.invokevirtual 32, 3) := by decide +kernel
theorem dX1_body_230 : decode cX1_body 230 = .ok (.imul, 1) := by decide +kernel
theorem dX1_body_231 : decode cX1_body 231 = .ok (.ireturn, 1) := by decide +kernel
theorem dX1_body_232 : decode cX1_body 232 = .ok (.iconst 0, 1) := by decide +kernel
theorem dX1_body_233 : decode cX1_body 233 = .ok (.ireturn, 1) := by decide +kernel
theorem dX1_leave_0 : decode cX1_leave 0 = .ok (.aload_n 0, 1) := by decide +kernel
theorem dX1_leave_1 : decode cX1_leave 1 = .ok (.getfield 15, 3) := by decide +kernel
theorem dX1_leave_4 : decode cX1_leave 4 = .ok (.bipush 16, 2) := by decide +kernel
theorem dX1_leave_6 : decode cX1_leave 6 = .ok (.if_icmp .ge 23, 3) := by decide +kernel
theorem dX1_leave_9 : decode cX1_leave 9 = .ok (.aload_n 0, 1) := by decide +kernel
theorem dX1_leave_10 : decode cX1_leave 10 = .ok (.getfield 9, 3) := by decide +kernel
theorem dX1_leave_13 : decode cX1_leave 13 = .ok (.aload_n 0, 1) := by decide +kernel
theorem dX1_leave_14 : decode cX1_leave 14 = .ok (.getfield 15, 3) := by decide +kernel
theorem dX1_leave_17 : decode cX1_leave 17 = .ok (.iload_n 1, 1) := by decide +kernel
theorem dX1_leave_18 : decode cX1_leave 18 = .ok (.iastore, 1) := by decide +kernel
theorem dX1_leave_19 : decode cX1_leave 19 = .ok (.aload_n 0, 1) := by decide +kernel
theorem dX1_leave_20 : decode cX1_leave 20 = .ok (.dup, 1) := by decide +kernel
theorem dX1_leave_21 : decode cX1_leave 21 = .ok (.getfield 15, 3) := by decide +kernel
theorem dX1_leave_24 : decode cX1_leave 24 = .ok (.iconst 1, 1) := by decide +kernel
theorem dX1_leave_25 : decode cX1_leave 25 = .ok (.iadd, 1) := by decide +kernel
theorem dX1_leave_26 : decode cX1_leave 26 = .ok (.putfield 15, 3) := by decide +kernel
theorem dX1_leave_29 : decode cX1_leave 29 = .ok (.return_, 1) := by decide +kernel
