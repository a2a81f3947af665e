theorem dX0_init_0 : decode cX0_init 0 = .ok (.aload_n 0, 1) := by decide +kernel
theorem dX0_init_1 : decode cX0_init 1 = .ok (.invokespecial 3, 3) := by decide +kernel
theorem dX0_init_4 : decode cX0_init 4 = .ok (.aload_n 0, 1) := by decide +kernel
theorem dX0_init_5 : decode cX0_init 5 = .ok (.bipush 6, 2) := by decide +kernel
theorem dX0_init_7 : decode cX0_init 7 = .ok (.newarray .int, 2) := by decide +kernel
theorem dX0_init_9 : decode cX0_init 9 = .ok (.putfield 9, 3) := by decide +kernel
theorem dX0_init_12 : decode cX0_init 12 = .ok (.return_, 1) := by decide +kernel
theorem dX0_start_0 : decode cX0_start 0 = .ok (.aload_n 0, 1) := by decide +kernel
theorem dX0_start_1 : decode cX0_start 1 = .ok (.iload_n 1, 1) := by decide +kernel
theorem dX0_start_2 : decode cX0_start 2 = .ok (.putfield 15, 3) := by decide +kernel
theorem dX0_start_5 : decode cX0_start 5 = .ok (.aload_n 0, 1) := by decide +kernel
theorem dX0_start_6 : decode cX0_start 6 = .ok (.aload_n 2, 1) := by decide +kernel
theorem dX0_start_7 : decode cX0_start 7 = .ok (.putfield 19, 3) := by decide +kernel
theorem dX0_start_10 : decode cX0_start 10 = .ok (.aload_n 0, 1) := by decide +kernel
theorem dX0_start_11 : decode cX0_start 11 = .ok (.iload_n 3, 1) := by decide +kernel
theorem dX0_start_12 : decode cX0_start 12 = .ok (.putfield 23, 3) := by decide +kernel
theorem dX0_start_15 : decode cX0_start 15 = .ok (.aload_n 0, 1) := by decide +kernel
theorem dX0_start_16 : decode cX0_start 16 = .ok (.aload 4, 2) := by decide +kernel
theorem dX0_start_18 : decode cX0_start 18 = .ok (.putfield 26, 3) := by decide +kernel
theorem dX0_start_21 : decode cX0_start 21 = .ok (.aload_n 0, 1) := by decide +kernel
theorem dX0_start_22 : decode cX0_start 22 = .ok (.iconst 0, 1) := by decide +kernel
theorem dX0_start_23 : decode cX0_start 23 = .ok (.putfield 30, 3) := by decide +kernel
theorem dX0_start_26 : decode cX0_start 26 = .ok (.aload_n 0, 1) := by decide +kernel
theorem dX0_start_27 : decode cX0_start 27 = .ok (.iconst 0, 1) := by decide +kernel
theorem dX0_start_28 : decode cX0_start 28 = .ok (.putfield 33, 3) := by decide +kernel
theorem dX0_start_31 : decode cX0_start 31 = .ok (.return_, 1) := by decide +kernel
theorem dX0_add_0 : decode cX0_add 0 = .ok (.aload_n 0, 1) := by decide +kernel
theorem dX0_add_1 : decode cX0_add 1 = .ok (.getfield 30, 3) := by decide +kernel
theorem dX0_add_4 : decode cX0_add 4 = .ok (.bipush 6, 2) := by decide +kernel
theorem dX0_add_6 : decode cX0_add 6 = .ok (.if_icmp .ge 23, 3) := by decide +kernel
theorem dX0_add_9 : decode cX0_add 9 = .ok (.aload_n 0, 1) := by decide +kernel
theorem dX0_add_10 : decode cX0_add 10 = .ok (.getfield 9, 3) := by decide +kernel
theorem dX0_add_13 : decode cX0_add 13 = .ok (.aload_n 0, 1) := by decide +kernel
theorem dX0_add_14 : decode cX0_add 14 = .ok (.getfield 30, 3) := by decide +kernel
theorem dX0_add_17 : decode cX0_add 17 = .ok (.iload_n 1, 1) := by decide +kernel
theorem dX0_add_18 : decode cX0_add 18 = .ok (.iastore, 1) := by decide +kernel
theorem dX0_add_19 : decode cX0_add 19 = .ok (.aload_n 0, 1) := by decide +kernel
theorem dX0_add_20 : decode cX0_add 20 = .ok (.dup, 1) := by decide +kernel
theorem dX0_add_21 : decode cX0_add 21 = .ok (.getfield 30, 3) := by decide +kernel
theorem dX0_add_24 : decode cX0_add 24 = .ok (.iconst 1, 1) := by decide +kernel
theorem dX0_add_25 : decode cX0_add 25 = .ok (.iadd, 1) := by decide +kernel
theorem dX0_add_26 : decode cX0_add 26 = .ok (.putfield 30, 3) := by decide +kernel
theorem dX0_add_29 : decode cX0_add 29 = .ok (.return_, 1) := by decide +kernel
theorem dX1_init_0 : decode cX1_init 0 = .ok (.aload_n 0, 1) := by decide +kernel
theorem dX1_init_1 : decode cX1_init 1 = .ok (.invokespecial 3, 3) := by decide +kernel
theorem dX1_init_4 : decode cX1_init 4 = .ok (.aload_n 0, 1) := by decide +kernel
theorem dX1_init_5 : decode cX1_init 5 = .ok (.aload_n 1, 1) := by decide +kernel
theorem dX1_init_6 : decode cX1_init 6 = .ok (.putfield 9, 3) := by decide +kernel
theorem dX1_init_9 : decode cX1_init 9 = .ok (.aload_n 0, 1) := by decide +kernel
theorem dX1_init_10 : decode cX1_init 10 = .ok (.aload_n 2, 1) := by decide +kernel
theorem dX1_init_11 : decode cX1_init 11 = .ok (.putfield 15, 3) := by decide +kernel
theorem dX1_init_14 : decode cX1_init 14 = .ok (.aload_n 0, 1) := by decide +kernel
theorem dX1_init_15 : decode cX1_init 15 = .ok (.aload_n 3, 1) := by decide +kernel
theorem dX1_init_16 : decode cX1_init 16 = .ok (.putfield 19, 3) := by decide +kernel
theorem dX1_init_19 : decode cX1_init 19 = .ok (.aload_n 0, 1) := by decide +kernel
theorem dX1_init_20 : decode cX1_init 20 = .ok (.new 23, 3) := by decide +kernel
theorem dX1_init_23 : decode cX1_init 23 = .ok (.dup, 1) := by decide +kernel
theorem dX1_init_24 : decode cX1_init 24 = .ok (.aload_n 1, 1) := by decide +kernel
theorem dX1_init_25 : decode cX1_init 25 = .ok (.aload_n 2, 1) := by decide +kernel
theorem dX1_init_26 : decode cX1_init 26 = .ok (.invokespecial 25, 3) := by decide +kernel
theorem dX1_init_29 : decode cX1_init 29 = .ok (.putfield 28, 3) := by decide +kernel
theorem dX1_init_32 : decode cX1_init 32 = .ok (.aload_n 0, 1) := by decide +kernel
theorem dX1_init_33 : decode cX1_init 33 = .ok (.aload_n 1, 1) := by decide +kernel
theorem dX1_init_34 : decode cX1_init 34 = .ok (.getfield 32, 3) := by decide +kernel
theorem dX1_init_37 : decode cX1_init 37 = .ok (.putfield 38, 3) := by decide +kernel
theorem dX1_init_40 : decode cX1_init 40 = .ok (.return_, 1) := by decide +kernel
theorem dX1_roomFor_0 : decode cX1_roomFor 0 = .ok (.iconst 3, 1) := by decide +kernel
theorem dX1_roomFor_1 : decode cX1_roomFor 1 = .ok (.iload_n 1, 1) := by decide +kernel
theorem dX1_roomFor_2 : decode cX1_roomFor 2 = .ok (.sipush 1000, 3) := by decide +kernel
theorem dX1_roomFor_5 : decode cX1_roomFor 5 = .ok (.invokestatic 41, 3) := by decide +kernel
theorem dX1_roomFor_8 : decode cX1_roomFor 8 = .ok (.imul, 1) := by decide +kernel
theorem dX1_roomFor_9 : decode cX1_roomFor 9 = .ok (.sipush 1250, 3) := by decide +kernel
theorem dX1_roomFor_12 : decode cX1_roomFor 12 = .ok (.iadd, 1) := by decide +kernel
theorem dX1_roomFor_13 : decode cX1_roomFor 13 = .ok (.ireturn, 1) := by decide +kernel
theorem dX1_perform_0 : decode cX1_perform 0 = .ok (.aload_n 0, 1) := by decide +kernel
theorem dX1_perform_1 : decode cX1_perform 1 = .ok (.getfield 9, 3) := by decide +kernel
theorem dX1_perform_4 : decode cX1_perform 4 = .ok (.iload_n 1, 1) := by decide +kernel
theorem dX1_perform_5 : decode cX1_perform 5 = .ok (.invokevirtual 47, 3) := by decide +kernel
theorem dX1_perform_8 : decode cX1_perform 8 = .ok (.istore_n 2, 1) := by decide +kernel
theorem dX1_perform_9 : decode cX1_perform 9 = .ok (.aload_n 0, 1) := by decide +kernel
theorem dX1_perform_10 : decode cX1_perform 10 = .ok (.getfield 9, 3) := by decide +kernel
theorem dX1_perform_13 : decode cX1_perform 13 = .ok (.iload_n 1, 1) := by decide +kernel
theorem dX1_perform_14 : decode cX1_perform 14 = .ok (.invokevirtual 51, 3) := by decide +kernel
theorem dX1_perform_17 : decode cX1_perform 17 = .ok (.istore_n 3, 1) := by decide +kernel
theorem dX1_perform_18 : decode cX1_perform 18 = .ok (.aload_n 0, 1) := by decide +kernel
theorem dX1_perform_19 : decode cX1_perform 19 = .ok (.getfield 9, 3) := by decide +kernel
theorem dX1_perform_22 : decode cX1_perform 22 = .ok (.iload_n 1, 1) := by decide +kernel
theorem dX1_perform_23 : decode cX1_perform 23 = .ok (.invokevirtual 54, 3) := by decide +kernel
theorem dX1_perform_26 : decode cX1_perform 26 = .ok (.istore 4, 2) := by decide +kernel
theorem dX1_perform_28 : decode cX1_perform 28 = .ok (.aload_n 0, 1) := by decide +kernel
theorem dX1_perform_29 : decode cX1_perform 29 = .ok (.iconst (-1), 1) := by decide +kernel
theorem dX1_perform_30 : decode cX1_perform 30 = .ok (.putfield 57, 3) := by decide +kernel
theorem dX1_perform_33 : decode cX1_perform 33 = .ok (.aload_n 0, 1) := by decide +kernel
theorem dX1_perform_34 : decode cX1_perform 34 = .ok (.getfield 9, 3) := by decide +kernel
theorem dX1_perform_37 : decode cX1_perform 37 = .ok (.iload_n 1, 1) := by decide +kernel
theorem dX1_perform_38 : decode cX1_perform 38 = .ok (.invokevirtual 60, 3) := by decide +kernel
theorem dX1_perform_41 : decode cX1_perform 41 = .ok (.tableswitch 178 17 23 #[43, 60, 82, 99, 124, 149, 163], 43) := by decide +kernel
theorem dX1_perform_84 : decode cX1_perform 84 = .ok (.iload_n 2, 1) := by decide +kernel
theorem dX1_perform_85 : decode cX1_perform 85 = .ok (.iconst 2, 1) := by decide +kernel
theorem dX1_perform_86 : decode cX1_perform 86 = .ok (.if_icmp .ne 13, 3) := by decide +kernel
theorem dX1_perform_89 : decode cX1_perform 89 = .ok (.aload_n 0, 1) := by decide +kernel
theorem dX1_perform_90 : decode cX1_perform 90 = .ok (.iconst 0, 1) := by decide +kernel
theorem dX1_perform_91 : decode cX1_perform 91 = .ok (.iconst 0, 1) := by decide +kernel
theorem dX1_perform_92 : decode cX1_perform 92 = .ok (.iload_n 3, 1) := by decide +kernel
theorem dX1_perform_93 : decode cX1_perform 93 = .ok (.invokevirtual 63, 3) := by decide +kernel
theorem dX1_perform_96 : decode cX1_perform 96 = .ok (.goto 4, 3) := by decide +kernel
theorem dX1_perform_99 : decode cX1_perform 99 = .ok (.iconst 2, 1) := by decide +kernel
theorem dX1_perform_100 : decode cX1_perform 100 = .ok (.ireturn, 1) := by decide +kernel
theorem dX1_perform_101 : decode cX1_perform 101 = .ok (.iload_n 2, 1) := by decide +kernel
theorem dX1_perform_102 : decode cX1_perform 102 = .ok (.iconst 3, 1) := by decide +kernel
theorem dX1_perform_103 : decode cX1_perform 103 = .ok (.if_icmp .ne 18, 3) := by decide +kernel
theorem dX1_perform_106 : decode cX1_perform 106 = .ok (.aload_n 0, 1) := by decide +kernel
theorem dX1_perform_107 : decode cX1_perform 107 = .ok (.aload_n 0, 1) := by decide +kernel
theorem dX1_perform_108 : decode cX1_perform 108 = .ok (.iload_n 3, 1) := by decide +kernel
theorem dX1_perform_109 : decode cX1_perform 109 = .ok (.invokevirtual 67, 3) := by decide +kernel
theorem dX1_perform_112 : decode cX1_perform 112 = .ok (.iload_n 3, 1) := by decide +kernel
theorem dX1_perform_113 : decode cX1_perform 113 = .ok (.iload 4, 2) := by decide +kernel
theorem dX1_perform_115 : decode cX1_perform 115 = .ok (.invokevirtual 63, 3) := by decide +kernel
theorem dX1_perform_118 : decode cX1_perform 118 = .ok (.goto 4, 3) := by decide +kernel
theorem dX1_perform_121 : decode cX1_perform 121 = .ok (.iconst 2, 1) := by decide +kernel
theorem dX1_perform_122 : decode cX1_perform 122 = .ok (.ireturn, 1) := by decide +kernel
theorem dX1_perform_123 : decode cX1_perform 123 = .ok (.iload_n 2, 1) := by decide +kernel
theorem dX1_perform_124 : decode cX1_perform 124 = .ok (.iconst 3, 1) := by decide +kernel
theorem dX1_perform_125 : decode cX1_perform 125 = .ok (.if_icmp .ne 13, 3) := by decide +kernel
theorem dX1_perform_128 : decode cX1_perform 128 = .ok (.aload_n 0, 1) := by decide +kernel
theorem dX1_perform_129 : decode cX1_perform 129 = .ok (.iload_n 3, 1) := by decide +kernel
theorem dX1_perform_130 : decode cX1_perform 130 = .ok (.iload 4, 2) := by decide +kernel
theorem dX1_perform_132 : decode cX1_perform 132 = .ok (.invokevirtual 70, 3) := by decide +kernel
theorem dX1_perform_135 : decode cX1_perform 135 = .ok (.goto 4, 3) := by decide +kernel
theorem dX1_perform_138 : decode cX1_perform 138 = .ok (.iconst 2, 1) := by decide +kernel
theorem dX1_perform_139 : decode cX1_perform 139 = .ok (.ireturn, 1) := by decide +kernel
theorem dX1_perform_140 : decode cX1_perform 140 = .ok (.iload_n 2, 1) := by decide +kernel
theorem dX1_perform_141 : decode cX1_perform 141 = .ok (.iconst 4, 1) := by decide +kernel
theorem dX1_perform_142 : decode cX1_perform 142 = .ok (.if_icmp .ne 21, 3) := by decide +kernel
theorem dX1_perform_145 : decode cX1_perform 145 = .ok (.aload_n 0, 1) := by decide +kernel
theorem dX1_perform_146 : decode cX1_perform 146 = .ok (.iload_n 3, 1) := by decide +kernel
theorem dX1_perform_147 : decode cX1_perform 147 = .ok (.iload 4, 2) := by decide +kernel
theorem dX1_perform_149 : decode cX1_perform 149 = .ok (.aload_n 0, 1) := by decide +kernel
theorem dX1_perform_150 : decode cX1_perform 150 = .ok (.getfield 9, 3) := by decide +kernel
theorem dX1_perform_153 : decode cX1_perform 153 = .ok (.iload_n 1, 1) := by decide +kernel
theorem dX1_perform_154 : decode cX1_perform 154 = .ok (.invokevirtual 73, 3) := by decide +kernel
theorem dX1_perform_157 : decode cX1_perform 157 = .ok (.invokevirtual 76, 3) := by decide +kernel
theorem dX1_perform_160 : decode cX1_perform 160 = .ok (.goto 4, 3) := by decide +kernel
theorem dX1_perform_163 : decode cX1_perform 163 = .ok (.iconst 2, 1) := by decide +kernel
theorem dX1_perform_164 : decode cX1_perform 164 = .ok (.ireturn, 1) := by decide +kernel
theorem dX1_perform_165 : decode cX1_perform 165 = .ok (.iload_n 2, 1) := by decide +kernel
theorem dX1_perform_166 : decode cX1_perform 166 = .ok (.iconst 4, 1) := by decide +kernel
theorem dX1_perform_167 : decode cX1_perform 167 = .ok (.if_icmp .ne 21, 3) := by decide +kernel
theorem dX1_perform_170 : decode cX1_perform 170 = .ok (.aload_n 0, 1) := by decide +kernel
theorem dX1_perform_171 : decode cX1_perform 171 = .ok (.iload_n 3, 1) := by decide +kernel
theorem dX1_perform_172 : decode cX1_perform 172 = .ok (.iload 4, 2) := by decide +kernel
theorem dX1_perform_174 : decode cX1_perform 174 = .ok (.aload_n 0, 1) := by decide +kernel
theorem dX1_perform_175 : decode cX1_perform 175 = .ok (.getfield 9, 3) := by decide +kernel
theorem dX1_perform_178 : decode cX1_perform 178 = .ok (.iload_n 1, 1) := by decide +kernel
theorem dX1_perform_179 : decode cX1_perform 179 = .ok (.invokevirtual 73, 3) := by decide +kernel
theorem dX1_perform_182 : decode cX1_perform 182 = .ok (.invokevirtual 79, 3) := by decide +kernel
theorem dX1_perform_185 : decode cX1_perform 185 = .ok (.goto 4, 3) := by decide +kernel
theorem dX1_perform_188 : decode cX1_perform 188 = .ok (.iconst 2, 1) := by decide +kernel
theorem dX1_perform_189 : decode cX1_perform 189 = .ok (.ireturn, 1) := by decide +kernel
theorem dX1_perform_190 : decode cX1_perform 190 = .ok (.iload_n 2, 1) := by decide +kernel
theorem dX1_perform_191 : decode cX1_perform 191 = .ok (.iconst 1, 1) := by decide +kernel
theorem dX1_perform_192 : decode cX1_perform 192 = .ok (.if_icmp .ne 10, 3) := by decide +kernel
theorem dX1_perform_195 : decode cX1_perform 195 = .ok (.aload_n 0, 1) := by decide +kernel
theorem dX1_perform_196 : decode cX1_perform 196 = .ok (.invokevirtual 82, 3) := by decide +kernel
theorem dX1_perform_199 : decode cX1_perform 199 = .ok (.goto 4, 3) := by decide +kernel
theorem dX1_perform_202 : decode cX1_perform 202 = .ok (.iconst 2, 1) := by decide +kernel
theorem dX1_perform_203 : decode cX1_perform 203 = .ok (.ireturn, 1) := by decide +kernel
theorem dX1_perform_204 : decode cX1_perform 204 = .ok (.iload_n 2, 1) := by decide +kernel
theorem dX1_perform_205 : decode cX1_perform 205 = .ok (.iconst 2, 1) := by decide +kernel
theorem dX1_perform_206 : decode cX1_perform 206 = .ok (.if_icmp .ne 11, 3) := by decide +kernel
theorem dX1_perform_209 : decode cX1_perform 209 = .ok (.aload_n 0, 1) := by decide +kernel
theorem dX1_perform_210 : decode cX1_perform 210 = .ok (.iload_n 3, 1) := by decide +kernel
theorem dX1_perform_211 : decode cX1_perform 211 = .ok (.invokevirtual 86, 3) := by decide +kernel
theorem dX1_perform_214 : decode cX1_perform 214 = .ok (.goto 4, 3) := by decide +kernel
theorem dX1_perform_217 : decode cX1_perform 217 = .ok (.iconst 2, 1) := by decide +kernel
theorem dX1_perform_218 : decode cX1_perform 218 = .ok (.ireturn, 1) := by decide +kernel
theorem dX1_perform_219 : decode cX1_perform 219 = .ok (.iconst 2, 1) := by decide +kernel
theorem dX1_perform_220 : decode cX1_perform 220 = .ok (.ireturn, 1) := by decide +kernel
theorem dX1_evaluate_0 : decode cX1_evaluate 0 = .ok (.iload_n 1, 1) := by decide +kernel
theorem dX1_evaluate_1 : decode cX1_evaluate 1 = .ok (.iconst (-1), 1) := by decide +kernel
theorem dX1_evaluate_2 : decode cX1_evaluate 2 = .ok (.if_icmp .eq 17, 3) := by decide +kernel
theorem dX1_evaluate_5 : decode cX1_evaluate 5 = .ok (.aload_n 0, 1) := by decide +kernel
theorem dX1_evaluate_6 : decode cX1_evaluate 6 = .ok (.getfield 28, 3) := by decide +kernel
theorem dX1_evaluate_9 : decode cX1_evaluate 9 = .ok (.iload_n 3, 1) := by decide +kernel
theorem dX1_evaluate_10 : decode cX1_evaluate 10 = .ok (.iload_n 1, 1) := by decide +kernel
theorem dX1_evaluate_11 : decode cX1_evaluate 11 = .ok (.iconst (-1), 1) := by decide +kernel
theorem dX1_evaluate_12 : decode cX1_evaluate 12 = .ok (.iconst (-1), 1) := by decide +kernel
theorem dX1_evaluate_13 : decode cX1_evaluate 13 = .ok (.invokevirtual 89, 3) := by decide +kernel
theorem dX1_evaluate_16 : decode cX1_evaluate 16 = .ok (.ifCond .ne 5, 3) := by decide +kernel
theorem dX1_evaluate_19 : decode cX1_evaluate 19 = .ok (.iconst 2, 1) := by decide +kernel
theorem dX1_evaluate_20 : decode cX1_evaluate 20 = .ok (.ireturn, 1) := by decide +kernel
theorem dX1_evaluate_21 : decode cX1_evaluate 21 = .ok (.aload_n 0, 1) := by decide +kernel
theorem dX1_evaluate_22 : decode cX1_evaluate 22 = .ok (.getfield 19, 3) := by decide +kernel
theorem dX1_evaluate_25 : decode cX1_evaluate 25 = .ok (.iload_n 2, 1) := by decide +kernel
theorem dX1_evaluate_26 : decode cX1_evaluate 26 = .ok (.iload_n 3, 1) := by decide +kernel
theorem dX1_evaluate_27 : decode cX1_evaluate 27 = .ok (.invokevirtual 93, 3) := by decide +kernel
theorem dX1_evaluate_30 : decode cX1_evaluate 30 = .ok (.aload_n 0, 1) := by decide +kernel
theorem dX1_evaluate_31 : decode cX1_evaluate 31 = .ok (.getfield 19, 3) := by decide +kernel
theorem dX1_evaluate_34 : decode cX1_evaluate 34 = .ok (.invokevirtual 99, 3) := by decide +kernel
theorem dX1_evaluate_37 : decode cX1_evaluate 37 = .ok (.istore 4, 2) := by decide +kernel
theorem dX1_evaluate_39 : decode cX1_evaluate 39 = .ok (.aload_n 0, 1) := by decide +kernel
theorem dX1_evaluate_40 : decode cX1_evaluate 40 = .ok (.getfield 19, 3) := by decide +kernel
theorem dX1_evaluate_43 : decode cX1_evaluate 43 = .ok (.getfield 102, 3) := by decide +kernel
theorem dX1_evaluate_46 : decode cX1_evaluate 46 = .ok (.ifCond .eq 5, 3) := by decide +kernel
theorem dX1_evaluate_49 : decode cX1_evaluate 49 = .ok (.iconst 4, 1) := by decide +kernel
theorem dX1_evaluate_50 : decode cX1_evaluate 50 = .ok (.ireturn, 1) := by decide +kernel
theorem dX1_evaluate_51 : decode cX1_evaluate 51 = .ok (.aload_n 0, 1) := by decide +kernel
theorem dX1_evaluate_52 : decode cX1_evaluate 52 = .ok (.iload 4, 2) := by decide +kernel
theorem dX1_evaluate_54 : decode cX1_evaluate 54 = .ok (.putfield 57, 3) := by decide +kernel
theorem dX1_evaluate_57 : decode cX1_evaluate 57 = .ok (.iconst 0, 1) := by decide +kernel
theorem dX1_evaluate_58 : decode cX1_evaluate 58 = .ok (.ireturn, 1) := by decide +kernel
theorem dX1_boundVariables_0 : decode cX1_boundVariables 0 = .ok (.aload_n 0, 1) := by decide +kernel
theorem dX1_boundVariables_1 : decode cX1_boundVariables 1 = .ok (.getfield 9, 3) := by decide +kernel
theorem dX1_boundVariables_4 : decode cX1_boundVariables 4 = .ok (.iload_n 1, 1) := by decide +kernel
theorem dX1_boundVariables_5 : decode cX1_boundVariables 5 = .ok (.invokevirtual 47, 3) := by decide +kernel
theorem dX1_boundVariables_8 : decode cX1_boundVariables 8 = .ok (.istore_n 2, 1) := by decide +kernel
theorem dX1_boundVariables_9 : decode cX1_boundVariables 9 = .ok (.iconst 0, 1) := by decide +kernel
theorem dX1_boundVariables_10 : decode cX1_boundVariables 10 = .ok (.istore_n 3, 1) := by decide +kernel
theorem dX1_boundVariables_11 : decode cX1_boundVariables 11 = .ok (.iload_n 1, 1) := by decide +kernel
theorem dX1_boundVariables_12 : decode cX1_boundVariables 12 = .ok (.istore 4, 2) := by decide +kernel
theorem dX1_boundVariables_14 : decode cX1_boundVariables 14 = .ok (.iconst 0, 1) := by decide +kernel
theorem dX1_boundVariables_15 : decode cX1_boundVariables 15 = .ok (.istore 5, 2) := by decide +kernel
theorem dX1_boundVariables_17 : decode cX1_boundVariables 17 = .ok (.iload 5, 2) := by decide +kernel
theorem dX1_boundVariables_19 : decode cX1_boundVariables 19 = .ok (.iload_n 2, 1) := by decide +kernel
theorem dX1_boundVariables_20 : decode cX1_boundVariables 20 = .ok (.if_icmp .ge 93, 3) := by decide +kernel
theorem dX1_boundVariables_23 : decode cX1_boundVariables 23 = .ok (.aload_n 0, 1) := by decide +kernel
theorem dX1_boundVariables_24 : decode cX1_boundVariables 24 = .ok (.getfield 9, 3) := by decide +kernel
theorem dX1_boundVariables_27 : decode cX1_boundVariables 27 = .ok (.iload 4, 2) := by decide +kernel
theorem dX1_boundVariables_29 : decode cX1_boundVariables 29 = .ok (.invokevirtual 60, 3) := by decide +kernel
theorem dX1_boundVariables_32 : decode cX1_boundVariables 32 = .ok (.istore 6, 2) := by decide +kernel
theorem dX1_boundVariables_34 : decode cX1_boundVariables 34 = .ok (.aload_n 0, 1) := by decide +kernel
theorem dX1_boundVariables_35 : decode cX1_boundVariables 35 = .ok (.getfield 9, 3) := by decide +kernel
theorem dX1_boundVariables_38 : decode cX1_boundVariables 38 = .ok (.iload 6, 2) := by decide +kernel
theorem dX1_boundVariables_40 : decode cX1_boundVariables 40 = .ok (.invokevirtual 60, 3) := by decide +kernel
theorem dX1_boundVariables_43 : decode cX1_boundVariables 43 = .ok (.istore 7, 2) := by decide +kernel
theorem dX1_boundVariables_45 : decode cX1_boundVariables 45 = .ok (.aload_n 0, 1) := by decide +kernel
theorem dX1_boundVariables_46 : decode cX1_boundVariables 46 = .ok (.getfield 9, 3) := by decide +kernel
theorem dX1_boundVariables_49 : decode cX1_boundVariables 49 = .ok (.iload 6, 2) := by decide +kernel
theorem dX1_boundVariables_51 : decode cX1_boundVariables 51 = .ok (.invokevirtual 47, 3) := by decide +kernel
theorem dX1_boundVariables_54 : decode cX1_boundVariables 54 = .ok (.iconst 2, 1) := by decide +kernel
theorem dX1_boundVariables_55 : decode cX1_boundVariables 55 = .ok (.if_icmp .ne 28, 3) := by decide +kernel
theorem dX1_boundVariables_58 : decode cX1_boundVariables 58 = .ok (.aload_n 0, 1) := by decide +kernel
theorem dX1_boundVariables_59 : decode cX1_boundVariables 59 = .ok (.getfield 9, 3) := by decide +kernel
theorem dX1_boundVariables_62 : decode cX1_boundVariables 62 = .ok (.iload 7, 2) := by decide +kernel
theorem dX1_boundVariables_64 : decode cX1_boundVariables 64 = .ok (.invokevirtual 105, 3) := by decide +kernel
theorem dX1_boundVariables_67 : decode cX1_boundVariables 67 = .ok (.ifCond .eq 16, 3) := by decide +kernel
theorem dX1_boundVariables_70 : decode cX1_boundVariables 70 = .ok (.aload_n 0, 1) := by decide +kernel
theorem dX1_boundVariables_71 : decode cX1_boundVariables 71 = .ok (.getfield 9, 3) := by decide +kernel
theorem dX1_boundVariables_74 : decode cX1_boundVariables 74 = .ok (.iload 7, 2) := by decide +kernel
theorem dX1_boundVariables_76 : decode cX1_boundVariables 76 = .ok (.iload_n 3, 1) := by decide +kernel
theorem dX1_boundVariables_77 : decode cX1_boundVariables 77 = .ok (.invokevirtual 109, 3) := by decide +kernel
theorem dX1_boundVariables_80 : decode cX1_boundVariables 80 = .ok (.ifCond .eq 5, 3) := by decide +kernel
theorem dX1_boundVariables_83 : decode cX1_boundVariables 83 = .ok (.iconst (-1), 1) := by decide +kernel
theorem dX1_boundVariables_84 : decode cX1_boundVariables 84 = .ok (.ireturn, 1) := by decide +kernel
theorem dX1_boundVariables_85 : decode cX1_boundVariables 85 = .ok (.aload_n 0, 1) := by decide +kernel
theorem dX1_boundVariables_86 : decode cX1_boundVariables 86 = .ok (.getfield 9, 3) := by decide +kernel
theorem dX1_boundVariables_89 : decode cX1_boundVariables 89 = .ok (.iload 7, 2) := by decide +kernel
theorem dX1_boundVariables_91 : decode cX1_boundVariables 91 = .ok (.iload_n 3, 1) := by decide +kernel
theorem dX1_boundVariables_92 : decode cX1_boundVariables 92 = .ok (.invokevirtual 113, 3) := by decide +kernel
theorem dX1_boundVariables_95 : decode cX1_boundVariables 95 = .ok (.istore_n 3, 1) := by decide +kernel
theorem dX1_boundVariables_96 : decode cX1_boundVariables 96 = .ok (.aload_n 0, 1) := by decide +kernel
theorem dX1_boundVariables_97 : decode cX1_boundVariables 97 = .ok (.getfield 9, 3) := by decide +kernel
theorem dX1_boundVariables_100 : decode cX1_boundVariables 100 = .ok (.iload 4, 2) := by decide +kernel
theorem dX1_boundVariables_102 : decode cX1_boundVariables 102 = .ok (.invokevirtual 116, 3) := by decide +kernel
theorem dX1_boundVariables_105 : decode cX1_boundVariables 105 = .ok (.istore 4, 2) := by decide +kernel
theorem dX1_boundVariables_107 : decode cX1_boundVariables 107 = .ok (.iinc 5 1, 3) := by decide +kernel
theorem dX1_boundVariables_110 : decode cX1_boundVariables 110 = .ok (.goto (-93), 3) := by decide +kernel
theorem dX1_boundVariables_113 : decode cX1_boundVariables 113 = .ok (.iload_n 2, 1) := by decide +kernel
theorem dX1_boundVariables_114 : decode cX1_boundVariables 114 = .ok (.iconst (-1), 1) := by decide +kernel
theorem dX1_boundVariables_115 : decode cX1_boundVariables 115 = .ok (.if_icmp .ne 7, 3) := by decide +kernel
theorem dX1_boundVariables_118 : decode cX1_boundVariables 118 = .ok (.iconst (-1), 1) := by decide +kernel
theorem dX1_boundVariables_119 : decode cX1_boundVariables 119 = .ok (.goto 4, 3) := by decide +kernel
theorem dX1_boundVariables_122 : decode cX1_boundVariables 122 = .ok (.iload_n 3, 1) := by decide +kernel
theorem dX1_boundVariables_123 : decode cX1_boundVariables 123 = .ok (.ireturn, 1) := by decide +kernel
theorem dX1_map_0 : decode cX1_map 0 = .ok (.aload_n 0, 1) := by decide +kernel
theorem dX1_map_1 : decode cX1_map 1 = .ok (.getfield 9, 3) := by decide +kernel
theorem dX1_map_4 : decode cX1_map 4 = .ok (.iload_n 2, 1) := by decide +kernel
theorem dX1_map_5 : decode cX1_map 5 = .ok (.invokevirtual 47, 3) := by decide +kernel
theorem dX1_map_8 : decode cX1_map 8 = .ok (.istore_n 3, 1) := by decide +kernel
theorem dX1_map_9 : decode cX1_map 9 = .ok (.aload_n 0, 1) := by decide +kernel
theorem dX1_map_10 : decode cX1_map 10 = .ok (.iload_n 1, 1) := by decide +kernel
theorem dX1_map_11 : decode cX1_map 11 = .ok (.invokevirtual 119, 3) := by decide +kernel
theorem dX1_map_14 : decode cX1_map 14 = .ok (.ifCond .eq 8, 3) := by decide +kernel
theorem dX1_map_17 : decode cX1_map 17 = .ok (.iload_n 3, 1) := by decide +kernel
theorem dX1_map_18 : decode cX1_map 18 = .ok (.iconst (-1), 1) := by decide +kernel
theorem dX1_map_19 : decode cX1_map 19 = .ok (.if_icmp .ne 5, 3) := by decide +kernel
theorem dX1_map_22 : decode cX1_map 22 = .ok (.iconst 2, 1) := by decide +kernel
theorem dX1_map_23 : decode cX1_map 23 = .ok (.ireturn, 1) := by decide +kernel
theorem dX1_map_24 : decode cX1_map 24 = .ok (.aload_n 0, 1) := by decide +kernel
theorem dX1_map_25 : decode cX1_map 25 = .ok (.getfield 15, 3) := by decide +kernel
theorem dX1_map_28 : decode cX1_map 28 = .ok (.iload_n 1, 1) := by decide +kernel
theorem dX1_map_29 : decode cX1_map 29 = .ok (.invokevirtual 122, 3) := by decide +kernel
theorem dX1_map_32 : decode cX1_map 32 = .ok (.astore 4, 2) := by decide +kernel
theorem dX1_map_34 : decode cX1_map 34 = .ok (.aload 4, 2) := by decide +kernel
theorem dX1_map_36 : decode cX1_map 36 = .ok (.ifnonnull 5, 3) := by decide +kernel
theorem dX1_map_39 : decode cX1_map 39 = .ok (.iconst 3, 1) := by decide +kernel
theorem dX1_map_40 : decode cX1_map 40 = .ok (.ireturn, 1) := by decide +kernel
theorem dX1_map_41 : decode cX1_map 41 = .ok (.aload 4, 2) := by decide +kernel
theorem dX1_map_43 : decode cX1_map 43 = .ok (.getfield 128, 3) := by decide +kernel
theorem dX1_map_46 : decode cX1_map 46 = .ok (.iconst 1, 1) := by decide +kernel
theorem dX1_map_47 : decode cX1_map 47 = .ok (.if_icmp .eq 5, 3) := by decide +kernel
theorem dX1_map_50 : decode cX1_map 50 = .ok (.iconst 2, 1) := by decide +kernel
theorem dX1_map_51 : decode cX1_map 51 = .ok (.ireturn, 1) := by decide +kernel
theorem dX1_map_52 : decode cX1_map 52 = .ok (.iconst 0, 1) := by decide +kernel
theorem dX1_map_53 : decode cX1_map 53 = .ok (.istore 5, 2) := by decide +kernel
theorem dX1_map_55 : decode cX1_map 55 = .ok (.iload_n 2, 1) := by decide +kernel
theorem dX1_map_56 : decode cX1_map 56 = .ok (.istore 6, 2) := by decide +kernel
theorem dX1_map_58 : decode cX1_map 58 = .ok (.iconst 0, 1) := by decide +kernel
theorem dX1_map_59 : decode cX1_map 59 = .ok (.istore 7, 2) := by decide +kernel
theorem dX1_map_61 : decode cX1_map 61 = .ok (.iload 7, 2) := by decide +kernel
theorem dX1_map_63 : decode cX1_map 63 = .ok (.iload_n 3, 1) := by decide +kernel
theorem dX1_map_64 : decode cX1_map 64 = .ok (.if_icmp .ge 72, 3) := by decide +kernel
theorem dX1_map_67 : decode cX1_map 67 = .ok (.aload_n 0, 1) := by decide +kernel
theorem dX1_map_68 : decode cX1_map 68 = .ok (.getfield 19, 3) := by decide +kernel
theorem dX1_map_71 : decode cX1_map 71 = .ok (.aload 4, 2) := by decide +kernel
theorem dX1_map_73 : decode cX1_map 73 = .ok (.aload_n 0, 1) := by decide +kernel
theorem dX1_map_74 : decode cX1_map 74 = .ok (.getfield 9, 3) := by decide +kernel
theorem dX1_map_77 : decode cX1_map 77 = .ok (.iload 6, 2) := by decide +kernel
theorem dX1_map_79 : decode cX1_map 79 = .ok (.invokevirtual 60, 3) := by decide +kernel
theorem dX1_map_82 : decode cX1_map 82 = .ok (.invokevirtual 133, 3) := by decide +kernel
theorem dX1_map_85 : decode cX1_map 85 = .ok (.aload_n 0, 1) := by decide +kernel
theorem dX1_map_86 : decode cX1_map 86 = .ok (.getfield 19, 3) := by decide +kernel
theorem dX1_map_89 : decode cX1_map 89 = .ok (.invokevirtual 99, 3) := by decide +kernel
theorem dX1_map_92 : decode cX1_map 92 = .ok (.istore 8, 2) := by decide +kernel
theorem dX1_map_94 : decode cX1_map 94 = .ok (.aload_n 0, 1) := by decide +kernel
theorem dX1_map_95 : decode cX1_map 95 = .ok (.getfield 19, 3) := by decide +kernel
theorem dX1_map_98 : decode cX1_map 98 = .ok (.getfield 102, 3) := by decide +kernel
theorem dX1_map_101 : decode cX1_map 101 = .ok (.ifCond .eq 5, 3) := by decide +kernel
theorem dX1_map_104 : decode cX1_map 104 = .ok (.iconst 4, 1) := by decide +kernel
theorem dX1_map_105 : decode cX1_map 105 = .ok (.ireturn, 1) := by decide +kernel
theorem dX1_map_106 : decode cX1_map 106 = .ok (.aload_n 0, 1) := by decide +kernel
theorem dX1_map_107 : decode cX1_map 107 = .ok (.getfield 9, 3) := by decide +kernel
theorem dX1_map_110 : decode cX1_map 110 = .ok (.iload 8, 2) := by decide +kernel
theorem dX1_map_112 : decode cX1_map 112 = .ok (.iload 5, 2) := by decide +kernel
theorem dX1_map_114 : decode cX1_map 114 = .ok (.invokevirtual 113, 3) := by decide +kernel
theorem dX1_map_117 : decode cX1_map 117 = .ok (.istore 5, 2) := by decide +kernel
theorem dX1_map_119 : decode cX1_map 119 = .ok (.aload_n 0, 1) := by decide +kernel
theorem dX1_map_120 : decode cX1_map 120 = .ok (.getfield 9, 3) := by decide +kernel
theorem dX1_map_123 : decode cX1_map 123 = .ok (.iload 6, 2) := by decide +kernel
theorem dX1_map_125 : decode cX1_map 125 = .ok (.invokevirtual 116, 3) := by decide +kernel
theorem dX1_map_128 : decode cX1_map 128 = .ok (.istore 6, 2) := by decide +kernel
theorem dX1_map_130 : decode cX1_map 130 = .ok (.iinc 7 1, 3) := by decide +kernel
theorem dX1_map_133 : decode cX1_map 133 = .ok (.goto (-72), 3) := by decide +kernel
theorem dX1_map_136 : decode cX1_map 136 = .ok (.aload_n 0, 1) := by decide +kernel
theorem dX1_map_137 : decode cX1_map 137 = .ok (.aload_n 0, 1) := by decide +kernel
theorem dX1_map_138 : decode cX1_map 138 = .ok (.iload 5, 2) := by decide +kernel
theorem dX1_map_140 : decode cX1_map 140 = .ok (.iload_n 3, 1) := by decide +kernel
theorem dX1_map_141 : decode cX1_map 141 = .ok (.invokevirtual 137, 3) := by decide +kernel
theorem dX1_map_144 : decode cX1_map 144 = .ok (.putfield 57, 3) := by decide +kernel
theorem dX1_map_147 : decode cX1_map 147 = .ok (.iconst 0, 1) := by decide +kernel
theorem dX1_map_148 : decode cX1_map 148 = .ok (.ireturn, 1) := by decide +kernel
theorem dX1_reversed_0 : decode cX1_reversed 0 = .ok (.iconst 0, 1) := by decide +kernel
theorem dX1_reversed_1 : decode cX1_reversed 1 = .ok (.istore_n 3, 1) := by decide +kernel
theorem dX1_reversed_2 : decode cX1_reversed 2 = .ok (.iload_n 1, 1) := by decide +kernel
theorem dX1_reversed_3 : decode cX1_reversed 3 = .ok (.istore 4, 2) := by decide +kernel
theorem dX1_reversed_5 : decode cX1_reversed 5 = .ok (.iconst 0, 1) := by decide +kernel
theorem dX1_reversed_6 : decode cX1_reversed 6 = .ok (.istore 5, 2) := by decide +kernel
theorem dX1_reversed_8 : decode cX1_reversed 8 = .ok (.iload 5, 2) := by decide +kernel
theorem dX1_reversed_10 : decode cX1_reversed 10 = .ok (.iload_n 2, 1) := by decide +kernel
theorem dX1_reversed_11 : decode cX1_reversed 11 = .ok (.if_icmp .ge 38, 3) := by decide +kernel
theorem dX1_reversed_14 : decode cX1_reversed 14 = .ok (.aload_n 0, 1) := by decide +kernel
theorem dX1_reversed_15 : decode cX1_reversed 15 = .ok (.getfield 9, 3) := by decide +kernel
theorem dX1_reversed_18 : decode cX1_reversed 18 = .ok (.aload_n 0, 1) := by decide +kernel
theorem dX1_reversed_19 : decode cX1_reversed 19 = .ok (.getfield 9, 3) := by decide +kernel
theorem dX1_reversed_22 : decode cX1_reversed 22 = .ok (.iload 4, 2) := by decide +kernel
theorem dX1_reversed_24 : decode cX1_reversed 24 = .ok (.invokevirtual 60, 3) := by decide +kernel
theorem dX1_reversed_27 : decode cX1_reversed 27 = .ok (.iload_n 3, 1) := by decide +kernel
theorem dX1_reversed_28 : decode cX1_reversed 28 = .ok (.invokevirtual 113, 3) := by decide +kernel
theorem dX1_reversed_31 : decode cX1_reversed 31 = .ok (.istore_n 3, 1) := by decide +kernel
theorem dX1_reversed_32 : decode cX1_reversed 32 = .ok (.aload_n 0, 1) := by decide +kernel
theorem dX1_reversed_33 : decode cX1_reversed 33 = .ok (.getfield 9, 3) := by decide +kernel
theorem dX1_reversed_36 : decode cX1_reversed 36 = .ok (.iload 4, 2) := by decide +kernel
theorem dX1_reversed_38 : decode cX1_reversed 38 = .ok (.invokevirtual 116, 3) := by decide +kernel
theorem dX1_reversed_41 : decode cX1_reversed 41 = .ok (.istore 4, 2) := by decide +kernel
theorem dX1_reversed_43 : decode cX1_reversed 43 = .ok (.iinc 5 1, 3) := by decide +kernel
theorem dX1_reversed_46 : decode cX1_reversed 46 = .ok (.goto (-38), 3) := by decide +kernel
theorem dX1_reversed_49 : decode cX1_reversed 49 = .ok (.iload_n 3, 1) := by decide +kernel
theorem dX1_reversed_50 : decode cX1_reversed 50 = .ok (.ireturn, 1) := by decide +kernel
theorem dX1_define_0 : decode cX1_define 0 = .ok (.aload_n 0, 1) := by decide +kernel
theorem dX1_define_1 : decode cX1_define 1 = .ok (.iload_n 1, 1) := by decide +kernel
theorem dX1_define_2 : decode cX1_define 2 = .ok (.iload_n 2, 1) := by decide +kernel
theorem dX1_define_3 : decode cX1_define 3 = .ok (.iload_n 3, 1) := by decide +kernel
theorem dX1_define_4 : decode cX1_define 4 = .ok (.invokevirtual 140, 3) := by decide +kernel
theorem dX1_define_7 : decode cX1_define 7 = .ok (.ifCond .ne 5, 3) := by decide +kernel
theorem dX1_define_10 : decode cX1_define 10 = .ok (.iconst 2, 1) := by decide +kernel
theorem dX1_define_11 : decode cX1_define 11 = .ok (.ireturn, 1) := by decide +kernel
theorem dX1_define_12 : decode cX1_define 12 = .ok (.aload_n 0, 1) := by decide +kernel
theorem dX1_define_13 : decode cX1_define 13 = .ok (.getfield 15, 3) := by decide +kernel
theorem dX1_define_16 : decode cX1_define 16 = .ok (.iload_n 1, 1) := by decide +kernel
theorem dX1_define_17 : decode cX1_define 17 = .ok (.invokevirtual 122, 3) := by decide +kernel
theorem dX1_define_20 : decode cX1_define 20 = .ok (.ifnull 5, 3) := by decide +kernel
theorem dX1_define_23 : decode cX1_define 23 = .ok (.iconst 3, 1) := by decide +kernel
theorem dX1_define_24 : decode cX1_define 24 = .ok (.ireturn, 1) := by decide +kernel
theorem dX1_define_25 : decode cX1_define 25 = .ok (.aload_n 0, 1) := by decide +kernel
theorem dX1_define_26 : decode cX1_define 26 = .ok (.getfield 15, 3) := by decide +kernel
theorem dX1_define_29 : decode cX1_define 29 = .ok (.invokevirtual 144, 3) := by decide +kernel
theorem dX1_define_32 : decode cX1_define 32 = .ok (.ifCond .eq 6, 3) := by decide +kernel
theorem dX1_define_35 : decode cX1_define 35 = .ok (.bipush 8, 2) := by decide +kernel
theorem dX1_define_37 : decode cX1_define 37 = .ok (.ireturn, 1) := by decide +kernel
theorem dX1_define_38 : decode cX1_define 38 = .ok (.aload_n 0, 1) := by decide +kernel
theorem dX1_define_39 : decode cX1_define 39 = .ok (.getfield 15, 3) := by decide +kernel
theorem dX1_define_42 : decode cX1_define 42 = .ok (.new 129, 3) := by decide +kernel
theorem dX1_define_45 : decode cX1_define 45 = .ok (.dup, 1) := by decide +kernel
theorem dX1_define_46 : decode cX1_define 46 = .ok (.iload_n 1, 1) := by decide +kernel
theorem dX1_define_47 : decode cX1_define 47 = .ok (.aload_n 0, 1) := by decide +kernel
theorem dX1_define_48 : decode cX1_define 48 = .ok (.getfield 9, 3) := by decide +kernel
theorem dX1_define_51 : decode cX1_define 51 = .ok (.iload_n 2, 1) := by decide +kernel
theorem dX1_define_52 : decode cX1_define 52 = .ok (.invokevirtual 47, 3) := by decide +kernel
theorem dX1_define_55 : decode cX1_define 55 = .ok (.iload_n 2, 1) := by decide +kernel
theorem dX1_define_56 : decode cX1_define 56 = .ok (.iload_n 3, 1) := by decide +kernel
theorem dX1_define_57 : decode cX1_define 57 = .ok (.invokespecial 148, 3) := by decide +kernel
theorem dX1_define_60 : decode cX1_define 60 = .ok (.invokevirtual 151, 3) := by decide +kernel
theorem dX1_define_63 : decode cX1_define 63 = .ok (.aload_n 0, 1) := by decide +kernel
theorem dX1_define_64 : decode cX1_define 64 = .ok (.aload_n 0, 1) := by decide +kernel
theorem dX1_define_65 : decode cX1_define 65 = .ok (.getfield 9, 3) := by decide +kernel
theorem dX1_define_68 : decode cX1_define 68 = .ok (.getfield 32, 3) := by decide +kernel
theorem dX1_define_71 : decode cX1_define 71 = .ok (.putfield 38, 3) := by decide +kernel
theorem dX1_define_74 : decode cX1_define 74 = .ok (.iconst 0, 1) := by decide +kernel
theorem dX1_define_75 : decode cX1_define 75 = .ok (.ireturn, 1) := by decide +kernel
theorem dX1_defineAnew_0 : decode cX1_defineAnew 0 = .ok (.aload_n 0, 1) := by decide +kernel
theorem dX1_defineAnew_1 : decode cX1_defineAnew 1 = .ok (.iload_n 1, 1) := by decide +kernel
theorem dX1_defineAnew_2 : decode cX1_defineAnew 2 = .ok (.iload_n 2, 1) := by decide +kernel
theorem dX1_defineAnew_3 : decode cX1_defineAnew 3 = .ok (.iload_n 3, 1) := by decide +kernel
theorem dX1_defineAnew_4 : decode cX1_defineAnew 4 = .ok (.invokevirtual 140, 3) := by decide +kernel
theorem dX1_defineAnew_7 : decode cX1_defineAnew 7 = .ok (.ifCond .ne 5, 3) := by decide +kernel
theorem dX1_defineAnew_10 : decode cX1_defineAnew 10 = .ok (.iconst 2, 1) := by decide +kernel
theorem dX1_defineAnew_11 : decode cX1_defineAnew 11 = .ok (.ireturn, 1) := by decide +kernel
theorem dX1_defineAnew_12 : decode cX1_defineAnew 12 = .ok (.aload_n 0, 1) := by decide +kernel
theorem dX1_defineAnew_13 : decode cX1_defineAnew 13 = .ok (.getfield 15, 3) := by decide +kernel
theorem dX1_defineAnew_16 : decode cX1_defineAnew 16 = .ok (.iload_n 1, 1) := by decide +kernel
theorem dX1_defineAnew_17 : decode cX1_defineAnew 17 = .ok (.invokevirtual 122, 3) := by decide +kernel
theorem dX1_defineAnew_20 : decode cX1_defineAnew 20 = .ok (.astore 4, 2) := by decide +kernel
theorem dX1_defineAnew_22 : decode cX1_defineAnew 22 = .ok (.aload 4, 2) := by decide +kernel
theorem dX1_defineAnew_24 : decode cX1_defineAnew 24 = .ok (.ifnonnull 5, 3) := by decide +kernel
theorem dX1_defineAnew_27 : decode cX1_defineAnew 27 = .ok (.iconst 3, 1) := by decide +kernel
theorem dX1_defineAnew_28 : decode cX1_defineAnew 28 = .ok (.ireturn, 1) := by decide +kernel
theorem dX1_defineAnew_29 : decode cX1_defineAnew 29 = .ok (.aload 4, 2) := by decide +kernel
theorem dX1_defineAnew_31 : decode cX1_defineAnew 31 = .ok (.getfield 128, 3) := by decide +kernel
theorem dX1_defineAnew_34 : decode cX1_defineAnew 34 = .ok (.aload_n 0, 1) := by decide +kernel
theorem dX1_defineAnew_35 : decode cX1_defineAnew 35 = .ok (.getfield 9, 3) := by decide +kernel
theorem dX1_defineAnew_38 : decode cX1_defineAnew 38 = .ok (.iload_n 2, 1) := by decide +kernel
theorem dX1_defineAnew_39 : decode cX1_defineAnew 39 = .ok (.invokevirtual 47, 3) := by decide +kernel
theorem dX1_defineAnew_42 : decode cX1_defineAnew 42 = .ok (.if_icmp .eq 5, 3) := by decide +kernel
theorem dX1_defineAnew_45 : decode cX1_defineAnew 45 = .ok (.iconst 2, 1) := by decide +kernel
theorem dX1_defineAnew_46 : decode cX1_defineAnew 46 = .ok (.ireturn, 1) := by decide +kernel
theorem dX1_defineAnew_47 : decode cX1_defineAnew 47 = .ok (.aload 4, 2) := by decide +kernel
theorem dX1_defineAnew_49 : decode cX1_defineAnew 49 = .ok (.iload_n 2, 1) := by decide +kernel
theorem dX1_defineAnew_50 : decode cX1_defineAnew 50 = .ok (.putfield 155, 3) := by decide +kernel
theorem dX1_defineAnew_53 : decode cX1_defineAnew 53 = .ok (.aload 4, 2) := by decide +kernel
theorem dX1_defineAnew_55 : decode cX1_defineAnew 55 = .ok (.iload_n 3, 1) := by decide +kernel
theorem dX1_defineAnew_56 : decode cX1_defineAnew 56 = .ok (.putfield 158, 3) := by decide +kernel
theorem dX1_defineAnew_59 : decode cX1_defineAnew 59 = .ok (.aload_n 0, 1) := by decide +kernel
theorem dX1_defineAnew_60 : decode cX1_defineAnew 60 = .ok (.aload_n 0, 1) := by decide +kernel
theorem dX1_defineAnew_61 : decode cX1_defineAnew 61 = .ok (.getfield 9, 3) := by decide +kernel
theorem dX1_defineAnew_64 : decode cX1_defineAnew 64 = .ok (.getfield 32, 3) := by decide +kernel
theorem dX1_defineAnew_67 : decode cX1_defineAnew 67 = .ok (.putfield 38, 3) := by decide +kernel
theorem dX1_defineAnew_70 : decode cX1_defineAnew 70 = .ok (.iconst 0, 1) := by decide +kernel
theorem dX1_defineAnew_71 : decode cX1_defineAnew 71 = .ok (.ireturn, 1) := by decide +kernel
theorem dX1_isDefinition_0 : decode cX1_isDefinition 0 = .ok (.aload_n 0, 1) := by decide +kernel
theorem dX1_isDefinition_1 : decode cX1_isDefinition 1 = .ok (.iload_n 1, 1) := by decide +kernel
theorem dX1_isDefinition_2 : decode cX1_isDefinition 2 = .ok (.invokevirtual 119, 3) := by decide +kernel
theorem dX1_isDefinition_5 : decode cX1_isDefinition 5 = .ok (.ifCond .eq 36, 3) := by decide +kernel
theorem dX1_isDefinition_8 : decode cX1_isDefinition 8 = .ok (.aload_n 0, 1) := by decide +kernel
theorem dX1_isDefinition_9 : decode cX1_isDefinition 9 = .ok (.iload_n 2, 1) := by decide +kernel
theorem dX1_isDefinition_10 : decode cX1_isDefinition 10 = .ok (.invokevirtual 161, 3) := by decide +kernel
theorem dX1_isDefinition_13 : decode cX1_isDefinition 13 = .ok (.ifCond .eq 28, 3) := by decide +kernel
theorem dX1_isDefinition_16 : decode cX1_isDefinition 16 = .ok (.aload_n 0, 1) := by decide +kernel
theorem dX1_isDefinition_17 : decode cX1_isDefinition 17 = .ok (.getfield 28, 3) := by decide +kernel
theorem dX1_isDefinition_20 : decode cX1_isDefinition 20 = .ok (.iload_n 3, 1) := by decide +kernel
theorem dX1_isDefinition_21 : decode cX1_isDefinition 21 = .ok (.iload_n 2, 1) := by decide +kernel
theorem dX1_isDefinition_22 : decode cX1_isDefinition 22 = .ok (.iload_n 1, 1) := by decide +kernel
theorem dX1_isDefinition_23 : decode cX1_isDefinition 23 = .ok (.aload_n 0, 1) := by decide +kernel
theorem dX1_isDefinition_24 : decode cX1_isDefinition 24 = .ok (.getfield 9, 3) := by decide +kernel
theorem dX1_isDefinition_27 : decode cX1_isDefinition 27 = .ok (.iload_n 2, 1) := by decide +kernel
theorem dX1_isDefinition_28 : decode cX1_isDefinition 28 = .ok (.invokevirtual 47, 3) := by decide +kernel
theorem dX1_isDefinition_31 : decode cX1_isDefinition 31 = .ok (.invokevirtual 89, 3) := by decide +kernel
theorem dX1_isDefinition_34 : decode cX1_isDefinition 34 = .ok (.ifCond .eq 7, 3) := by decide +kernel
theorem dX1_isDefinition_37 : decode cX1_isDefinition 37 = .ok (.iconst 1, 1) := by decide +kernel
theorem dX1_isDefinition_38 : decode cX1_isDefinition 38 = .ok (.goto 4, 3) := by decide +kernel
theorem dX1_isDefinition_41 : decode cX1_isDefinition 41 = .ok (.iconst 0, 1) := by decide +kernel
theorem dX1_isDefinition_42 : decode cX1_isDefinition 42 = .ok (.ireturn, 1) := by decide +kernel
theorem dX1_undo_0 : decode cX1_undo 0 = .ok (.aload_n 0, 1) := by decide +kernel
theorem dX1_undo_1 : decode cX1_undo 1 = .ok (.getfield 15, 3) := by decide +kernel
theorem dX1_undo_4 : decode cX1_undo 4 = .ok (.aload_n 0, 1) := by decide +kernel
theorem dX1_undo_5 : decode cX1_undo 5 = .ok (.getfield 15, 3) := by decide +kernel
theorem dX1_undo_8 : decode cX1_undo 8 = .ok (.getfield 164, 3) := by decide +kernel
theorem dX1_undo_11 : decode cX1_undo 11 = .ok (.iconst 1, 1) := by decide +kernel
theorem dX1_undo_12 : decode cX1_undo 12 = .ok (.isub, 1) := by decide +kernel
theorem dX1_undo_13 : decode cX1_undo 13 = .ok (.invokevirtual 165, 3) := by decide +kernel
theorem dX1_undo_16 : decode cX1_undo 16 = .ok (.astore_n 1, 1) := by decide +kernel
theorem dX1_undo_17 : decode cX1_undo 17 = .ok (.aload_n 1, 1) := by decide +kernel
theorem dX1_undo_18 : decode cX1_undo 18 = .ok (.ifnonnull 5, 3) := by decide +kernel
theorem dX1_undo_21 : decode cX1_undo 21 = .ok (.iconst 3, 1) := by decide +kernel
theorem dX1_undo_22 : decode cX1_undo 22 = .ok (.ireturn, 1) := by decide +kernel
theorem dX1_undo_23 : decode cX1_undo 23 = .ok (.iconst 0, 1) := by decide +kernel
theorem dX1_undo_24 : decode cX1_undo 24 = .ok (.istore_n 2, 1) := by decide +kernel
theorem dX1_undo_25 : decode cX1_undo 25 = .ok (.iload_n 2, 1) := by decide +kernel
theorem dX1_undo_26 : decode cX1_undo 26 = .ok (.aload_n 0, 1) := by decide +kernel
theorem dX1_undo_27 : decode cX1_undo 27 = .ok (.getfield 15, 3) := by decide +kernel
theorem dX1_undo_30 : decode cX1_undo 30 = .ok (.getfield 164, 3) := by decide +kernel
theorem dX1_undo_33 : decode cX1_undo 33 = .ok (.iconst 1, 1) := by decide +kernel
theorem dX1_undo_34 : decode cX1_undo 34 = .ok (.isub, 1) := by decide +kernel
theorem dX1_undo_35 : decode cX1_undo 35 = .ok (.if_icmp .ge 42, 3) := by decide +kernel
theorem dX1_undo_38 : decode cX1_undo 38 = .ok (.aload_n 0, 1) := by decide +kernel
theorem dX1_undo_39 : decode cX1_undo 39 = .ok (.getfield 15, 3) := by decide +kernel
theorem dX1_undo_42 : decode cX1_undo 42 = .ok (.iload_n 2, 1) := by decide +kernel
theorem dX1_undo_43 : decode cX1_undo 43 = .ok (.invokevirtual 165, 3) := by decide +kernel
theorem dX1_undo_46 : decode cX1_undo 46 = .ok (.astore_n 3, 1) := by decide +kernel
theorem dX1_undo_47 : decode cX1_undo 47 = .ok (.aload_n 3, 1) := by decide +kernel
theorem dX1_undo_48 : decode cX1_undo 48 = .ok (.ifnull 23, 3) := by decide +kernel
theorem dX1_undo_51 : decode cX1_undo 51 = .ok (.aload_n 0, 1) := by decide +kernel
theorem dX1_undo_52 : decode cX1_undo 52 = .ok (.getfield 28, 3) := by decide +kernel
theorem dX1_undo_55 : decode cX1_undo 55 = .ok (.aload_n 1, 1) := by decide +kernel
theorem dX1_undo_56 : decode cX1_undo 56 = .ok (.getfield 168, 3) := by decide +kernel
theorem dX1_undo_59 : decode cX1_undo 59 = .ok (.aload_n 3, 1) := by decide +kernel
theorem dX1_undo_60 : decode cX1_undo 60 = .ok (.getfield 158, 3) := by decide +kernel
theorem dX1_undo_63 : decode cX1_undo 63 = .ok (.invokevirtual 171, 3) := by decide +kernel
theorem dX1_undo_66 : decode cX1_undo 66 = .ok (.ifCond .eq 5, 3) := by decide +kernel
theorem dX1_undo_69 : decode cX1_undo 69 = .ok (.iconst 3, 1) := by decide +kernel
theorem dX1_undo_70 : decode cX1_undo 70 = .ok (.ireturn, 1) := by decide +kernel
theorem dX1_undo_71 : decode cX1_undo 71 = .ok (.iinc 2 1, 3) := by decide +kernel
theorem dX1_undo_74 : decode cX1_undo 74 = .ok (.goto (-49), 3) := by decide +kernel
theorem dX1_undo_77 : decode cX1_undo 77 = .ok (.aload_n 0, 1) := by decide +kernel
theorem dX1_undo_78 : decode cX1_undo 78 = .ok (.getfield 15, 3) := by decide +kernel
theorem dX1_undo_81 : decode cX1_undo 81 = .ok (.invokevirtual 174, 3) := by decide +kernel
theorem dX1_undo_84 : decode cX1_undo 84 = .ok (.iconst 0, 1) := by decide +kernel
theorem dX1_undo_85 : decode cX1_undo 85 = .ok (.ireturn, 1) := by decide +kernel
theorem dX1_show_0 : decode cX1_show 0 = .ok (.aload_n 0, 1) := by decide +kernel
theorem dX1_show_1 : decode cX1_show 1 = .ok (.iload_n 1, 1) := by decide +kernel
theorem dX1_show_2 : decode cX1_show 2 = .ok (.invokevirtual 119, 3) := by decide +kernel
theorem dX1_show_5 : decode cX1_show 5 = .ok (.ifCond .ne 5, 3) := by decide +kernel
theorem dX1_show_8 : decode cX1_show 8 = .ok (.iconst 2, 1) := by decide +kernel
theorem dX1_show_9 : decode cX1_show 9 = .ok (.ireturn, 1) := by decide +kernel
theorem dX1_show_10 : decode cX1_show 10 = .ok (.aload_n 0, 1) := by decide +kernel
theorem dX1_show_11 : decode cX1_show 11 = .ok (.getfield 15, 3) := by decide +kernel
theorem dX1_show_14 : decode cX1_show 14 = .ok (.iload_n 1, 1) := by decide +kernel
theorem dX1_show_15 : decode cX1_show 15 = .ok (.invokevirtual 122, 3) := by decide +kernel
theorem dX1_show_18 : decode cX1_show 18 = .ok (.astore_n 2, 1) := by decide +kernel
theorem dX1_show_19 : decode cX1_show 19 = .ok (.aload_n 2, 1) := by decide +kernel
theorem dX1_show_20 : decode cX1_show 20 = .ok (.ifnonnull 5, 3) := by decide +kernel
theorem dX1_show_23 : decode cX1_show 23 = .ok (.iconst 3, 1) := by decide +kernel
theorem dX1_show_24 : decode cX1_show 24 = .ok (.ireturn, 1) := by decide +kernel
theorem dX1_show_25 : decode cX1_show 25 = .ok (.aload_n 0, 1) := by decide +kernel
theorem dX1_show_26 : decode cX1_show 26 = .ok (.getfield 9, 3) := by decide +kernel
theorem dX1_show_29 : decode cX1_show 29 = .ok (.aload_n 0, 1) := by decide +kernel
theorem dX1_show_30 : decode cX1_show 30 = .ok (.getfield 28, 3) := by decide +kernel
theorem dX1_show_33 : decode cX1_show 33 = .ok (.aload_n 2, 1) := by decide +kernel
theorem dX1_show_34 : decode cX1_show 34 = .ok (.getfield 158, 3) := by decide +kernel
theorem dX1_show_37 : decode cX1_show 37 = .ok (.invokevirtual 177, 3) := by decide +kernel
theorem dX1_show_40 : decode cX1_show 40 = .ok (.iconst 0, 1) := by decide +kernel
theorem dX1_show_41 : decode cX1_show 41 = .ok (.invokevirtual 113, 3) := by decide +kernel
theorem dX1_show_44 : decode cX1_show 44 = .ok (.istore_n 3, 1) := by decide +kernel
theorem dX1_show_45 : decode cX1_show 45 = .ok (.aload_n 0, 1) := by decide +kernel
theorem dX1_show_46 : decode cX1_show 46 = .ok (.getfield 9, 3) := by decide +kernel
theorem dX1_show_49 : decode cX1_show 49 = .ok (.aload_n 2, 1) := by decide +kernel
theorem dX1_show_50 : decode cX1_show 50 = .ok (.getfield 155, 3) := by decide +kernel
theorem dX1_show_53 : decode cX1_show 53 = .ok (.iload_n 3, 1) := by decide +kernel
theorem dX1_show_54 : decode cX1_show 54 = .ok (.invokevirtual 113, 3) := by decide +kernel
theorem dX1_show_57 : decode cX1_show 57 = .ok (.istore_n 3, 1) := by decide +kernel
theorem dX1_show_58 : decode cX1_show 58 = .ok (.aload_n 0, 1) := by decide +kernel
theorem dX1_show_59 : decode cX1_show 59 = .ok (.getfield 9, 3) := by decide +kernel
theorem dX1_show_62 : decode cX1_show 62 = .ok (.aload_n 2, 1) := by decide +kernel
theorem dX1_show_63 : decode cX1_show 63 = .ok (.getfield 168, 3) := by decide +kernel
theorem dX1_show_66 : decode cX1_show 66 = .ok (.iload_n 3, 1) := by decide +kernel
theorem dX1_show_67 : decode cX1_show 67 = .ok (.invokevirtual 113, 3) := by decide +kernel
theorem dX1_show_70 : decode cX1_show 70 = .ok (.istore_n 3, 1) := by decide +kernel
theorem dX1_show_71 : decode cX1_show 71 = .ok (.aload_n 0, 1) := by decide +kernel
theorem dX1_show_72 : decode cX1_show 72 = .ok (.aload_n 0, 1) := by decide +kernel
theorem dX1_show_73 : decode cX1_show 73 = .ok (.getfield 9, 3) := by decide +kernel
theorem dX1_show_76 : decode cX1_show 76 = .ok (.bipush 20, 2) := by decide +kernel
theorem dX1_show_78 : decode cX1_show 78 = .ok (.iload_n 3, 1) := by decide +kernel
theorem dX1_show_79 : decode cX1_show 79 = .ok (.invokevirtual 113, 3) := by decide +kernel
theorem dX1_show_82 : decode cX1_show 82 = .ok (.putfield 57, 3) := by decide +kernel
theorem dX1_show_85 : decode cX1_show 85 = .ok (.iconst 0, 1) := by decide +kernel
theorem dX1_show_86 : decode cX1_show 86 = .ok (.ireturn, 1) := by decide +kernel
theorem dX1_isFunctionName_0 : decode cX1_isFunctionName 0 = .ok (.aload_n 0, 1) := by decide +kernel
theorem dX1_isFunctionName_1 : decode cX1_isFunctionName 1 = .ok (.getfield 9, 3) := by decide +kernel
theorem dX1_isFunctionName_4 : decode cX1_isFunctionName 4 = .ok (.iload_n 1, 1) := by decide +kernel
theorem dX1_isFunctionName_5 : decode cX1_isFunctionName 5 = .ok (.invokevirtual 180, 3) := by decide +kernel
theorem dX1_isFunctionName_8 : decode cX1_isFunctionName 8 = .ok (.ifCond .eq 13, 3) := by decide +kernel
theorem dX1_isFunctionName_11 : decode cX1_isFunctionName 11 = .ok (.iload_n 1, 1) := by decide +kernel
theorem dX1_isFunctionName_12 : decode cX1_isFunctionName 12 = .ok (.bipush 16, 2) := by decide +kernel
theorem dX1_isFunctionName_14 : decode cX1_isFunctionName 14 = .ok (.if_icmp .le 7, 3) := by decide +kernel
theorem dX1_isFunctionName_17 : decode cX1_isFunctionName 17 = .ok (.iconst 1, 1) := by decide +kernel
theorem dX1_isFunctionName_18 : decode cX1_isFunctionName 18 = .ok (.goto 4, 3) := by decide +kernel
theorem dX1_isFunctionName_21 : decode cX1_isFunctionName 21 = .ok (.iconst 0, 1) := by decide +kernel
theorem dX1_isFunctionName_22 : decode cX1_isFunctionName 22 = .ok (.ireturn, 1) := by decide +kernel
theorem dX1_areParameters_0 : decode cX1_areParameters 0 = .ok (.aload_n 0, 1) := by decide +kernel
theorem dX1_areParameters_1 : decode cX1_areParameters 1 = .ok (.getfield 9, 3) := by decide +kernel
theorem dX1_areParameters_4 : decode cX1_areParameters 4 = .ok (.iload_n 1, 1) := by decide +kernel
theorem dX1_areParameters_5 : decode cX1_areParameters 5 = .ok (.invokevirtual 47, 3) := by decide +kernel
theorem dX1_areParameters_8 : decode cX1_areParameters 8 = .ok (.istore_n 2, 1) := by decide +kernel
theorem dX1_areParameters_9 : decode cX1_areParameters 9 = .ok (.iload_n 2, 1) := by decide +kernel
theorem dX1_areParameters_10 : decode cX1_areParameters 10 = .ok (.iconst (-1), 1) := by decide +kernel
theorem dX1_areParameters_11 : decode cX1_areParameters 11 = .ok (.if_icmp .eq 9, 3) := by decide +kernel
theorem dX1_areParameters_14 : decode cX1_areParameters 14 = .ok (.iload_n 2, 1) := by decide +kernel
theorem dX1_areParameters_15 : decode cX1_areParameters 15 = .ok (.bipush 6, 2) := by decide +kernel
theorem dX1_areParameters_17 : decode cX1_areParameters 17 = .ok (.if_icmp .le 5, 3) := by decide +kernel
theorem dX1_areParameters_20 : decode cX1_areParameters 20 = .ok (.iconst 0, 1) := by decide +kernel
theorem dX1_areParameters_21 : decode cX1_areParameters 21 = .ok (.ireturn, 1) := by decide +kernel
theorem dX1_areParameters_22 : decode cX1_areParameters 22 = .ok (.iload_n 1, 1) := by decide +kernel
theorem dX1_areParameters_23 : decode cX1_areParameters 23 = .ok (.istore_n 3, 1) := by decide +kernel
theorem dX1_areParameters_24 : decode cX1_areParameters 24 = .ok (.iconst 0, 1) := by decide +kernel
theorem dX1_areParameters_25 : decode cX1_areParameters 25 = .ok (.istore 4, 2) := by decide +kernel
theorem dX1_areParameters_27 : decode cX1_areParameters 27 = .ok (.iload 4, 2) := by decide +kernel
theorem dX1_areParameters_29 : decode cX1_areParameters 29 = .ok (.iload_n 2, 1) := by decide +kernel
theorem dX1_areParameters_30 : decode cX1_areParameters 30 = .ok (.if_icmp .ge 55, 3) := by decide +kernel
theorem dX1_areParameters_33 : decode cX1_areParameters 33 = .ok (.aload_n 0, 1) := by decide +kernel
theorem dX1_areParameters_34 : decode cX1_areParameters 34 = .ok (.getfield 9, 3) := by decide +kernel
theorem dX1_areParameters_37 : decode cX1_areParameters 37 = .ok (.iload_n 3, 1) := by decide +kernel
theorem dX1_areParameters_38 : decode cX1_areParameters 38 = .ok (.invokevirtual 60, 3) := by decide +kernel
theorem dX1_areParameters_41 : decode cX1_areParameters 41 = .ok (.istore 5, 2) := by decide +kernel
theorem dX1_areParameters_43 : decode cX1_areParameters 43 = .ok (.aload_n 0, 1) := by decide +kernel
theorem dX1_areParameters_44 : decode cX1_areParameters 44 = .ok (.getfield 9, 3) := by decide +kernel
theorem dX1_areParameters_47 : decode cX1_areParameters 47 = .ok (.iload_n 3, 1) := by decide +kernel
theorem dX1_areParameters_48 : decode cX1_areParameters 48 = .ok (.invokevirtual 116, 3) := by decide +kernel
theorem dX1_areParameters_51 : decode cX1_areParameters 51 = .ok (.istore_n 3, 1) := by decide +kernel
theorem dX1_areParameters_52 : decode cX1_areParameters 52 = .ok (.aload_n 0, 1) := by decide +kernel
theorem dX1_areParameters_53 : decode cX1_areParameters 53 = .ok (.getfield 9, 3) := by decide +kernel
theorem dX1_areParameters_56 : decode cX1_areParameters 56 = .ok (.iload 5, 2) := by decide +kernel
theorem dX1_areParameters_58 : decode cX1_areParameters 58 = .ok (.invokevirtual 105, 3) := by decide +kernel
theorem dX1_areParameters_61 : decode cX1_areParameters 61 = .ok (.ifCond .eq 16, 3) := by decide +kernel
theorem dX1_areParameters_64 : decode cX1_areParameters 64 = .ok (.aload_n 0, 1) := by decide +kernel
theorem dX1_areParameters_65 : decode cX1_areParameters 65 = .ok (.getfield 9, 3) := by decide +kernel
theorem dX1_areParameters_68 : decode cX1_areParameters 68 = .ok (.iload 5, 2) := by decide +kernel
theorem dX1_areParameters_70 : decode cX1_areParameters 70 = .ok (.iload_n 3, 1) := by decide +kernel
theorem dX1_areParameters_71 : decode cX1_areParameters 71 = .ok (.invokevirtual 109, 3) := by decide +kernel
theorem dX1_areParameters_74 : decode cX1_areParameters 74 = .ok (.ifCond .eq 5, 3) := by decide +kernel
theorem dX1_areParameters_77 : decode cX1_areParameters 77 = .ok (.iconst 0, 1) := by decide +kernel
theorem dX1_areParameters_78 : decode cX1_areParameters 78 = .ok (.ireturn, 1) := by decide +kernel
theorem dX1_areParameters_79 : decode cX1_areParameters 79 = .ok (.iinc 4 1, 3) := by decide +kernel
theorem dX1_areParameters_82 : decode cX1_areParameters 82 = .ok (.goto (-55), 3) := by decide +kernel
theorem dX1_areParameters_85 : decode cX1_areParameters 85 = .ok (.iconst 1, 1) := by decide +kernel
theorem dX1_areParameters_86 : decode cX1_areParameters 86 = .ok (.ireturn, 1) := by decide +kernel
theorem dX2_init_0 : decode cX2_init 0 = .ok (.aload_n 0, 1) := by decide +kernel
theorem dX2_init_1 : decode cX2_init 1 = .ok (.invokespecial 1, 3) := by decide +kernel
theorem dX2_init_4 : decode cX2_init 4 = .ok (.aload_n 0, 1) := by decide +kernel
theorem dX2_init_5 : decode cX2_init 5 = .ok (.iload_n 1, 1) := by decide +kernel
theorem dX2_init_6 : decode cX2_init 6 = .ok (.putfield 7, 3) := by decide +kernel
theorem dX2_init_9 : decode cX2_init 9 = .ok (.aload_n 0, 1) := by decide +kernel
theorem dX2_init_10 : decode cX2_init 10 = .ok (.iload_n 2, 1) := by decide +kernel
theorem dX2_init_11 : decode cX2_init 11 = .ok (.putfield 13, 3) := by decide +kernel
theorem dX2_init_14 : decode cX2_init 14 = .ok (.aload_n 0, 1) := by decide +kernel
theorem dX2_init_15 : decode cX2_init 15 = .ok (.iload_n 3, 1) := by decide +kernel
theorem dX2_init_16 : decode cX2_init 16 = .ok (.putfield 16, 3) := by decide +kernel
theorem dX2_init_19 : decode cX2_init 19 = .ok (.aload_n 0, 1) := by decide +kernel
theorem dX2_init_20 : decode cX2_init 20 = .ok (.iload 4, 2) := by decide +kernel
theorem dX2_init_22 : decode cX2_init 22 = .ok (.putfield 19, 3) := by decide +kernel
theorem dX2_init_25 : decode cX2_init 25 = .ok (.return_, 1) := by decide +kernel
theorem dX3_init_0 : decode cX3_init 0 = .ok (.aload_n 0, 1) := by decide +kernel
theorem dX3_init_1 : decode cX3_init 1 = .ok (.invokespecial 3, 3) := by decide +kernel
theorem dX3_init_4 : decode cX3_init 4 = .ok (.aload_n 0, 1) := by decide +kernel
theorem dX3_init_5 : decode cX3_init 5 = .ok (.sipush 300, 3) := by decide +kernel
theorem dX3_init_8 : decode cX3_init 8 = .ok (.anewarray 11, 3) := by decide +kernel
theorem dX3_init_11 : decode cX3_init 11 = .ok (.putfield 13, 3) := by decide +kernel
theorem dX3_init_14 : decode cX3_init 14 = .ok (.aload_n 0, 1) := by decide +kernel
theorem dX3_init_15 : decode cX3_init 15 = .ok (.sipush 1000, 3) := by decide +kernel
theorem dX3_init_18 : decode cX3_init 18 = .ok (.putfield 17, 3) := by decide +kernel
theorem dX3_init_21 : decode cX3_init 21 = .ok (.aload_n 0, 1) := by decide +kernel
theorem dX3_init_22 : decode cX3_init 22 = .ok (.aload_n 1, 1) := by decide +kernel
theorem dX3_init_23 : decode cX3_init 23 = .ok (.putfield 21, 3) := by decide +kernel
theorem dX3_init_26 : decode cX3_init 26 = .ok (.aload_n 0, 1) := by decide +kernel
theorem dX3_init_27 : decode cX3_init 27 = .ok (.aload_n 2, 1) := by decide +kernel
theorem dX3_init_28 : decode cX3_init 28 = .ok (.putfield 25, 3) := by decide +kernel
theorem dX3_init_31 : decode cX3_init 31 = .ok (.return_, 1) := by decide +kernel
theorem dX3_clear_0 : decode cX3_clear 0 = .ok (.aload_n 0, 1) := by decide +kernel
theorem dX3_clear_1 : decode cX3_clear 1 = .ok (.iconst 0, 1) := by decide +kernel
theorem dX3_clear_2 : decode cX3_clear 2 = .ok (.putfield 29, 3) := by decide +kernel
theorem dX3_clear_5 : decode cX3_clear 5 = .ok (.aload_n 0, 1) := by decide +kernel
theorem dX3_clear_6 : decode cX3_clear 6 = .ok (.iconst 0, 1) := by decide +kernel
theorem dX3_clear_7 : decode cX3_clear 7 = .ok (.putfield 32, 3) := by decide +kernel
theorem dX3_clear_10 : decode cX3_clear 10 = .ok (.return_, 1) := by decide +kernel
theorem dX3_beginWith_0 : decode cX3_beginWith 0 = .ok (.aload_n 0, 1) := by decide +kernel
theorem dX3_beginWith_1 : decode cX3_beginWith 1 = .ok (.iconst 0, 1) := by decide +kernel
theorem dX3_beginWith_2 : decode cX3_beginWith 2 = .ok (.putfield 35, 3) := by decide +kernel
theorem dX3_beginWith_5 : decode cX3_beginWith 5 = .ok (.aload_n 0, 1) := by decide +kernel
theorem dX3_beginWith_6 : decode cX3_beginWith 6 = .ok (.iload_n 1, 1) := by decide +kernel
theorem dX3_beginWith_7 : decode cX3_beginWith 7 = .ok (.putfield 38, 3) := by decide +kernel
theorem dX3_beginWith_10 : decode cX3_beginWith 10 = .ok (.aload_n 0, 1) := by decide +kernel
theorem dX3_beginWith_11 : decode cX3_beginWith 11 = .ok (.iload_n 2, 1) := by decide +kernel
theorem dX3_beginWith_12 : decode cX3_beginWith 12 = .ok (.aconst_null, 1) := by decide +kernel
theorem dX3_beginWith_13 : decode cX3_beginWith 13 = .ok (.invokevirtual 41, 3) := by decide +kernel
theorem dX3_beginWith_16 : decode cX3_beginWith 16 = .ok (.return_, 1) := by decide +kernel
theorem dX3_beginCall_0 : decode cX3_beginCall 0 = .ok (.aload_n 0, 1) := by decide +kernel
theorem dX3_beginCall_1 : decode cX3_beginCall 1 = .ok (.iconst 0, 1) := by decide +kernel
theorem dX3_beginCall_2 : decode cX3_beginCall 2 = .ok (.putfield 35, 3) := by decide +kernel
theorem dX3_beginCall_5 : decode cX3_beginCall 5 = .ok (.aload_n 0, 1) := by decide +kernel
theorem dX3_beginCall_6 : decode cX3_beginCall 6 = .ok (.aconst_null, 1) := by decide +kernel
theorem dX3_beginCall_7 : decode cX3_beginCall 7 = .ok (.putfield 45, 3) := by decide +kernel
theorem dX3_beginCall_10 : decode cX3_beginCall 10 = .ok (.aload_n 0, 1) := by decide +kernel
theorem dX3_beginCall_11 : decode cX3_beginCall 11 = .ok (.aload_n 1, 1) := by decide +kernel
theorem dX3_beginCall_12 : decode cX3_beginCall 12 = .ok (.getfield 49, 3) := by decide +kernel
theorem dX3_beginCall_15 : decode cX3_beginCall 15 = .ok (.iconst 0, 1) := by decide +kernel
theorem dX3_beginCall_16 : decode cX3_beginCall 16 = .ok (.invokevirtual 54, 3) := by decide +kernel
theorem dX3_beginCall_19 : decode cX3_beginCall 19 = .ok (.aload_n 0, 1) := by decide +kernel
theorem dX3_beginCall_20 : decode cX3_beginCall 20 = .ok (.getfield 32, 3) := by decide +kernel
theorem dX3_beginCall_23 : decode cX3_beginCall 23 = .ok (.ifCond .ne 22, 3) := by decide +kernel
theorem dX3_beginCall_26 : decode cX3_beginCall 26 = .ok (.aload_n 0, 1) := by decide +kernel
theorem dX3_beginCall_27 : decode cX3_beginCall 27 = .ok (.getfield 13, 3) := by decide +kernel
theorem dX3_beginCall_30 : decode cX3_beginCall 30 = .ok (.iconst 0, 1) := by decide +kernel
theorem dX3_beginCall_31 : decode cX3_beginCall 31 = .ok (.aaload, 1) := by decide +kernel
theorem dX3_beginCall_32 : decode cX3_beginCall 32 = .ok (.ifnull 13, 3) := by decide +kernel
theorem dX3_beginCall_35 : decode cX3_beginCall 35 = .ok (.aload_n 0, 1) := by decide +kernel
theorem dX3_beginCall_36 : decode cX3_beginCall 36 = .ok (.getfield 13, 3) := by decide +kernel
theorem dX3_beginCall_39 : decode cX3_beginCall 39 = .ok (.iconst 0, 1) := by decide +kernel
theorem dX3_beginCall_40 : decode cX3_beginCall 40 = .ok (.aaload, 1) := by decide +kernel
theorem dX3_beginCall_41 : decode cX3_beginCall 41 = .ok (.iload_n 2, 1) := by decide +kernel
theorem dX3_beginCall_42 : decode cX3_beginCall 42 = .ok (.invokevirtual 58, 3) := by decide +kernel
theorem dX3_beginCall_45 : decode cX3_beginCall 45 = .ok (.return_, 1) := by decide +kernel
theorem dX3_finish_0 : decode cX3_finish 0 = .ok (.iconst 0, 1) := by decide +kernel
theorem dX3_finish_1 : decode cX3_finish 1 = .ok (.istore_n 1, 1) := by decide +kernel
theorem dX3_finish_2 : decode cX3_finish 2 = .ok (.iload_n 1, 1) := by decide +kernel
theorem dX3_finish_3 : decode cX3_finish 3 = .ok (.ldc 62, 2) := by decide +kernel
theorem dX3_finish_5 : decode cX3_finish 5 = .ok (.if_icmp .ge 171, 3) := by decide +kernel
theorem dX3_finish_8 : decode cX3_finish 8 = .ok (.aload_n 0, 1) := by decide +kernel
theorem dX3_finish_9 : decode cX3_finish 9 = .ok (.getfield 32, 3) := by decide +kernel
theorem dX3_finish_12 : decode cX3_finish 12 = .ok (.ifCond .ne 164, 3) := by decide +kernel
theorem dX3_finish_15 : decode cX3_finish 15 = .ok (.aload_n 0, 1) := by decide +kernel
theorem dX3_finish_16 : decode cX3_finish 16 = .ok (.getfield 35, 3) := by decide +kernel
theorem dX3_finish_19 : decode cX3_finish 19 = .ok (.ifCond .le 27, 3) := by decide +kernel
theorem dX3_finish_22 : decode cX3_finish 22 = .ok (.aload_n 0, 1) := by decide +kernel
theorem dX3_finish_23 : decode cX3_finish 23 = .ok (.getfield 35, 3) := by decide +kernel
theorem dX3_finish_26 : decode cX3_finish 26 = .ok (.sipush 300, 3) := by decide +kernel
theorem dX3_finish_29 : decode cX3_finish 29 = .ok (.if_icmp .gt 17, 3) := by decide +kernel
theorem dX3_finish_32 : decode cX3_finish 32 = .ok (.aload_n 0, 1) := by decide +kernel
theorem dX3_finish_33 : decode cX3_finish 33 = .ok (.getfield 13, 3) := by decide +kernel
theorem dX3_finish_36 : decode cX3_finish 36 = .ok (.aload_n 0, 1) := by decide +kernel
theorem dX3_finish_37 : decode cX3_finish 37 = .ok (.getfield 35, 3) := by decide +kernel
theorem dX3_finish_40 : decode cX3_finish 40 = .ok (.iconst 1, 1) := by decide +kernel
theorem dX3_finish_41 : decode cX3_finish 41 = .ok (.isub, 1) := by decide +kernel
theorem dX3_finish_42 : decode cX3_finish 42 = .ok (.aaload, 1) := by decide +kernel
theorem dX3_finish_43 : decode cX3_finish 43 = .ok (.goto 4, 3) := by decide +kernel
theorem dX3_finish_46 : decode cX3_finish 46 = .ok (.aconst_null, 1) := by decide +kernel
theorem dX3_finish_47 : decode cX3_finish 47 = .ok (.astore_n 2, 1) := by decide +kernel
theorem dX3_finish_48 : decode cX3_finish 48 = .ok (.aload_n 0, 1) := by decide +kernel
theorem dX3_finish_49 : decode cX3_finish 49 = .ok (.getfield 63, 3) := by decide +kernel
theorem dX3_finish_52 : decode cX3_finish 52 = .ok (.ifCond .ne 10, 3) := by decide +kernel
theorem dX3_finish_55 : decode cX3_finish 55 = .ok (.aload_n 0, 1) := by decide +kernel
theorem dX3_finish_56 : decode cX3_finish 56 = .ok (.invokevirtual 66, 3) := by decide +kernel
theorem dX3_finish_59 : decode cX3_finish 59 = .ok (.goto 111, 3) := by decide +kernel
theorem dX3_finish_62 : decode cX3_finish 62 = .ok (.aload_n 2, 1) := by decide +kernel
theorem dX3_finish_63 : decode cX3_finish 63 = .ok (.ifnonnull 8, 3) := by decide +kernel
theorem dX3_finish_66 : decode cX3_finish 66 = .ok (.aload_n 0, 1) := by decide +kernel
theorem dX3_finish_67 : decode cX3_finish 67 = .ok (.getfield 69, 3) := by decide +kernel
theorem dX3_finish_70 : decode cX3_finish 70 = .ok (.ireturn, 1) := by decide +kernel
theorem dX3_finish_71 : decode cX3_finish 71 = .ok (.aload_n 0, 1) := by decide +kernel
theorem dX3_finish_72 : decode cX3_finish 72 = .ok (.getfield 63, 3) := by decide +kernel
theorem dX3_finish_75 : decode cX3_finish 75 = .ok (.iconst 1, 1) := by decide +kernel
theorem dX3_finish_76 : decode cX3_finish 76 = .ok (.if_icmp .ne 11, 3) := by decide +kernel
theorem dX3_finish_79 : decode cX3_finish 79 = .ok (.aload_n 0, 1) := by decide +kernel
theorem dX3_finish_80 : decode cX3_finish 80 = .ok (.aload_n 2, 1) := by decide +kernel
theorem dX3_finish_81 : decode cX3_finish 81 = .ok (.invokevirtual 72, 3) := by decide +kernel
theorem dX3_finish_84 : decode cX3_finish 84 = .ok (.goto 86, 3) := by decide +kernel
theorem dX3_finish_87 : decode cX3_finish 87 = .ok (.aload_n 0, 1) := by decide +kernel
theorem dX3_finish_88 : decode cX3_finish 88 = .ok (.getfield 21, 3) := by decide +kernel
theorem dX3_finish_91 : decode cX3_finish 91 = .ok (.aload_n 2, 1) := by decide +kernel
theorem dX3_finish_92 : decode cX3_finish 92 = .ok (.getfield 76, 3) := by decide +kernel
theorem dX3_finish_95 : decode cX3_finish 95 = .ok (.invokevirtual 79, 3) := by decide +kernel
theorem dX3_finish_98 : decode cX3_finish 98 = .ok (.ifCond .eq 40, 3) := by decide +kernel
theorem dX3_finish_101 : decode cX3_finish 101 = .ok (.aload_n 0, 1) := by decide +kernel
theorem dX3_finish_102 : decode cX3_finish 102 = .ok (.aload_n 0, 1) := by decide +kernel
theorem dX3_finish_103 : decode cX3_finish 103 = .ok (.getfield 21, 3) := by decide +kernel
theorem dX3_finish_106 : decode cX3_finish 106 = .ok (.aload_n 2, 1) := by decide +kernel
theorem dX3_finish_107 : decode cX3_finish 107 = .ok (.getfield 76, 3) := by decide +kernel
theorem dX3_finish_110 : decode cX3_finish 110 = .ok (.invokevirtual 85, 3) := by decide +kernel
theorem dX3_finish_113 : decode cX3_finish 113 = .ok (.aload_n 2, 1) := by decide +kernel
theorem dX3_finish_114 : decode cX3_finish 114 = .ok (.getfield 89, 3) := by decide +kernel
theorem dX3_finish_117 : decode cX3_finish 117 = .ok (.invokevirtual 41, 3) := by decide +kernel
theorem dX3_finish_120 : decode cX3_finish 120 = .ok (.aload_n 2, 1) := by decide +kernel
theorem dX3_finish_121 : decode cX3_finish 121 = .ok (.aload_n 0, 1) := by decide +kernel
theorem dX3_finish_122 : decode cX3_finish 122 = .ok (.getfield 21, 3) := by decide +kernel
theorem dX3_finish_125 : decode cX3_finish 125 = .ok (.aload_n 2, 1) := by decide +kernel
theorem dX3_finish_126 : decode cX3_finish 126 = .ok (.getfield 76, 3) := by decide +kernel
theorem dX3_finish_129 : decode cX3_finish 129 = .ok (.invokevirtual 90, 3) := by decide +kernel
theorem dX3_finish_132 : decode cX3_finish 132 = .ok (.putfield 76, 3) := by decide +kernel
theorem dX3_finish_135 : decode cX3_finish 135 = .ok (.goto 35, 3) := by decide +kernel
theorem dX3_finish_138 : decode cX3_finish 138 = .ok (.aload_n 2, 1) := by decide +kernel
theorem dX3_finish_139 : decode cX3_finish 139 = .ok (.getfield 93, 3) := by decide +kernel
theorem dX3_finish_142 : decode cX3_finish 142 = .ok (.ifnull 23, 3) := by decide +kernel
theorem dX3_finish_145 : decode cX3_finish 145 = .ok (.aload_n 2, 1) := by decide +kernel
theorem dX3_finish_146 : decode cX3_finish 146 = .ok (.iconst 1, 1) := by decide +kernel
theorem dX3_finish_147 : decode cX3_finish 147 = .ok (.putfield 97, 3) := by decide +kernel
theorem dX3_finish_150 : decode cX3_finish 150 = .ok (.aload_n 0, 1) := by decide +kernel
theorem dX3_finish_151 : decode cX3_finish 151 = .ok (.aload_n 2, 1) := by decide +kernel
theorem dX3_finish_152 : decode cX3_finish 152 = .ok (.getfield 93, 3) := by decide +kernel
theorem dX3_finish_155 : decode cX3_finish 155 = .ok (.getfield 101, 3) := by decide +kernel
theorem dX3_finish_158 : decode cX3_finish 158 = .ok (.aload_n 2, 1) := by decide +kernel
theorem dX3_finish_159 : decode cX3_finish 159 = .ok (.invokevirtual 41, 3) := by decide +kernel
theorem dX3_finish_162 : decode cX3_finish 162 = .ok (.goto 8, 3) := by decide +kernel
theorem dX3_finish_165 : decode cX3_finish 165 = .ok (.aload_n 0, 1) := by decide +kernel
theorem dX3_finish_166 : decode cX3_finish 166 = .ok (.aload_n 2, 1) := by decide +kernel
theorem dX3_finish_167 : decode cX3_finish 167 = .ok (.invokevirtual 104, 3) := by decide +kernel
theorem dX3_finish_170 : decode cX3_finish 170 = .ok (.iinc 1 1, 3) := by decide +kernel
theorem dX3_finish_173 : decode cX3_finish 173 = .ok (.goto (-171), 3) := by decide +kernel
theorem dX3_finish_176 : decode cX3_finish 176 = .ok (.iconst (-1), 1) := by decide +kernel
theorem dX3_finish_177 : decode cX3_finish 177 = .ok (.ireturn, 1) := by decide +kernel
theorem dX3_evaluateNext_0 : decode cX3_evaluateNext 0 = .ok (.aload_n 0, 1) := by decide +kernel
theorem dX3_evaluateNext_1 : decode cX3_evaluateNext 1 = .ok (.iload_n 1, 1) := by decide +kernel
theorem dX3_evaluateNext_2 : decode cX3_evaluateNext 2 = .ok (.putfield 107, 3) := by decide +kernel
theorem dX3_evaluateNext_5 : decode cX3_evaluateNext 5 = .ok (.aload_n 0, 1) := by decide +kernel
theorem dX3_evaluateNext_6 : decode cX3_evaluateNext 6 = .ok (.aload_n 2, 1) := by decide +kernel
theorem dX3_evaluateNext_7 : decode cX3_evaluateNext 7 = .ok (.putfield 45, 3) := by decide +kernel
theorem dX3_evaluateNext_10 : decode cX3_evaluateNext 10 = .ok (.aload_n 0, 1) := by decide +kernel
theorem dX3_evaluateNext_11 : decode cX3_evaluateNext 11 = .ok (.iconst 0, 1) := by decide +kernel
theorem dX3_evaluateNext_12 : decode cX3_evaluateNext 12 = .ok (.putfield 63, 3) := by decide +kernel
theorem dX3_evaluateNext_15 : decode cX3_evaluateNext 15 = .ok (.return_, 1) := by decide +kernel
theorem dX3_beginTerm_0 : decode cX3_beginTerm 0 = .ok (.aload_n 0, 1) := by decide +kernel
theorem dX3_beginTerm_1 : decode cX3_beginTerm 1 = .ok (.getfield 21, 3) := by decide +kernel
theorem dX3_beginTerm_4 : decode cX3_beginTerm 4 = .ok (.aload_n 0, 1) := by decide +kernel
theorem dX3_beginTerm_5 : decode cX3_beginTerm 5 = .ok (.getfield 107, 3) := by decide +kernel
theorem dX3_beginTerm_8 : decode cX3_beginTerm 8 = .ok (.invokevirtual 110, 3) := by decide +kernel
theorem dX3_beginTerm_11 : decode cX3_beginTerm 11 = .ok (.ifCond .eq 40, 3) := by decide +kernel
theorem dX3_beginTerm_14 : decode cX3_beginTerm 14 = .ok (.aload_n 0, 1) := by decide +kernel
theorem dX3_beginTerm_15 : decode cX3_beginTerm 15 = .ok (.aload_n 0, 1) := by decide +kernel
theorem dX3_beginTerm_16 : decode cX3_beginTerm 16 = .ok (.getfield 45, 3) := by decide +kernel
theorem dX3_beginTerm_19 : decode cX3_beginTerm 19 = .ok (.ifnonnull 14, 3) := by decide +kernel
theorem dX3_beginTerm_22 : decode cX3_beginTerm 22 = .ok (.aload_n 0, 1) := by decide +kernel
theorem dX3_beginTerm_23 : decode cX3_beginTerm 23 = .ok (.aload_n 0, 1) := by decide +kernel
theorem dX3_beginTerm_24 : decode cX3_beginTerm 24 = .ok (.getfield 107, 3) := by decide +kernel
theorem dX3_beginTerm_27 : decode cX3_beginTerm 27 = .ok (.invokevirtual 113, 3) := by decide +kernel
theorem dX3_beginTerm_30 : decode cX3_beginTerm 30 = .ok (.goto 15, 3) := by decide +kernel
theorem dX3_beginTerm_33 : decode cX3_beginTerm 33 = .ok (.aload_n 0, 1) := by decide +kernel
theorem dX3_beginTerm_34 : decode cX3_beginTerm 34 = .ok (.aload_n 0, 1) := by decide +kernel
theorem dX3_beginTerm_35 : decode cX3_beginTerm 35 = .ok (.getfield 45, 3) := by decide +kernel
theorem dX3_beginTerm_38 : decode cX3_beginTerm 38 = .ok (.aload_n 0, 1) := by decide +kernel
theorem dX3_beginTerm_39 : decode cX3_beginTerm 39 = .ok (.getfield 107, 3) := by decide +kernel
theorem dX3_beginTerm_42 : decode cX3_beginTerm 42 = .ok (.invokevirtual 116, 3) := by decide +kernel
theorem dX3_beginTerm_45 : decode cX3_beginTerm 45 = .ok (.invokevirtual 120, 3) := by decide +kernel
theorem dX3_beginTerm_48 : decode cX3_beginTerm 48 = .ok (.goto 87, 3) := by decide +kernel
theorem dX3_beginTerm_51 : decode cX3_beginTerm 51 = .ok (.aload_n 0, 1) := by decide +kernel
theorem dX3_beginTerm_52 : decode cX3_beginTerm 52 = .ok (.getfield 21, 3) := by decide +kernel
theorem dX3_beginTerm_55 : decode cX3_beginTerm 55 = .ok (.aload_n 0, 1) := by decide +kernel
theorem dX3_beginTerm_56 : decode cX3_beginTerm 56 = .ok (.getfield 107, 3) := by decide +kernel
theorem dX3_beginTerm_59 : decode cX3_beginTerm 59 = .ok (.invokevirtual 79, 3) := by decide +kernel
theorem dX3_beginTerm_62 : decode cX3_beginTerm 62 = .ok (.ifCond .ne 14, 3) := by decide +kernel
theorem dX3_beginTerm_65 : decode cX3_beginTerm 65 = .ok (.aload_n 0, 1) := by decide +kernel
theorem dX3_beginTerm_66 : decode cX3_beginTerm 66 = .ok (.aload_n 0, 1) := by decide +kernel
theorem dX3_beginTerm_67 : decode cX3_beginTerm 67 = .ok (.getfield 107, 3) := by decide +kernel
theorem dX3_beginTerm_70 : decode cX3_beginTerm 70 = .ok (.invokevirtual 120, 3) := by decide +kernel
theorem dX3_beginTerm_73 : decode cX3_beginTerm 73 = .ok (.goto 62, 3) := by decide +kernel
theorem dX3_beginTerm_76 : decode cX3_beginTerm 76 = .ok (.aload_n 0, 1) := by decide +kernel
theorem dX3_beginTerm_77 : decode cX3_beginTerm 77 = .ok (.getfield 21, 3) := by decide +kernel
theorem dX3_beginTerm_80 : decode cX3_beginTerm 80 = .ok (.aload_n 0, 1) := by decide +kernel
theorem dX3_beginTerm_81 : decode cX3_beginTerm 81 = .ok (.getfield 107, 3) := by decide +kernel
theorem dX3_beginTerm_84 : decode cX3_beginTerm 84 = .ok (.invokevirtual 85, 3) := by decide +kernel
theorem dX3_beginTerm_87 : decode cX3_beginTerm 87 = .ok (.iconst 2, 1) := by decide +kernel
theorem dX3_beginTerm_88 : decode cX3_beginTerm 88 = .ok (.if_icmp .ne 21, 3) := by decide +kernel
theorem dX3_beginTerm_91 : decode cX3_beginTerm 91 = .ok (.aload_n 0, 1) := by decide +kernel
theorem dX3_beginTerm_92 : decode cX3_beginTerm 92 = .ok (.aload_n 0, 1) := by decide +kernel
theorem dX3_beginTerm_93 : decode cX3_beginTerm 93 = .ok (.getfield 21, 3) := by decide +kernel
theorem dX3_beginTerm_96 : decode cX3_beginTerm 96 = .ok (.aload_n 0, 1) := by decide +kernel
theorem dX3_beginTerm_97 : decode cX3_beginTerm 97 = .ok (.getfield 107, 3) := by decide +kernel
theorem dX3_beginTerm_100 : decode cX3_beginTerm 100 = .ok (.invokevirtual 123, 3) := by decide +kernel
theorem dX3_beginTerm_103 : decode cX3_beginTerm 103 = .ok (.invokevirtual 120, 3) := by decide +kernel
theorem dX3_beginTerm_106 : decode cX3_beginTerm 106 = .ok (.goto 29, 3) := by decide +kernel
theorem dX3_beginTerm_109 : decode cX3_beginTerm 109 = .ok (.aload_n 0, 1) := by decide +kernel
theorem dX3_beginTerm_110 : decode cX3_beginTerm 110 = .ok (.aload_n 0, 1) := by decide +kernel
theorem dX3_beginTerm_111 : decode cX3_beginTerm 111 = .ok (.getfield 21, 3) := by decide +kernel
theorem dX3_beginTerm_114 : decode cX3_beginTerm 114 = .ok (.aload_n 0, 1) := by decide +kernel
theorem dX3_beginTerm_115 : decode cX3_beginTerm 115 = .ok (.getfield 107, 3) := by decide +kernel
theorem dX3_beginTerm_118 : decode cX3_beginTerm 118 = .ok (.invokevirtual 85, 3) := by decide +kernel
theorem dX3_beginTerm_121 : decode cX3_beginTerm 121 = .ok (.aload_n 0, 1) := by decide +kernel
theorem dX3_beginTerm_122 : decode cX3_beginTerm 122 = .ok (.getfield 21, 3) := by decide +kernel
theorem dX3_beginTerm_125 : decode cX3_beginTerm 125 = .ok (.aload_n 0, 1) := by decide +kernel
theorem dX3_beginTerm_126 : decode cX3_beginTerm 126 = .ok (.getfield 107, 3) := by decide +kernel
theorem dX3_beginTerm_129 : decode cX3_beginTerm 129 = .ok (.invokevirtual 90, 3) := by decide +kernel
theorem dX3_beginTerm_132 : decode cX3_beginTerm 132 = .ok (.invokevirtual 54, 3) := by decide +kernel
theorem dX3_beginTerm_135 : decode cX3_beginTerm 135 = .ok (.return_, 1) := by decide +kernel
theorem dX3_answer_0 : decode cX3_answer 0 = .ok (.aload_n 0, 1) := by decide +kernel
theorem dX3_answer_1 : decode cX3_answer 1 = .ok (.iload_n 1, 1) := by decide +kernel
theorem dX3_answer_2 : decode cX3_answer 2 = .ok (.putfield 69, 3) := by decide +kernel
theorem dX3_answer_5 : decode cX3_answer 5 = .ok (.aload_n 0, 1) := by decide +kernel
theorem dX3_answer_6 : decode cX3_answer 6 = .ok (.iconst 1, 1) := by decide +kernel
theorem dX3_answer_7 : decode cX3_answer 7 = .ok (.putfield 63, 3) := by decide +kernel
theorem dX3_answer_10 : decode cX3_answer 10 = .ok (.return_, 1) := by decide +kernel
theorem dX3_argumentOf_0 : decode cX3_argumentOf 0 = .ok (.aload_n 1, 1) := by decide +kernel
theorem dX3_argumentOf_1 : decode cX3_argumentOf 1 = .ok (.getfield 93, 3) := by decide +kernel
theorem dX3_argumentOf_4 : decode cX3_argumentOf 4 = .ok (.ifnonnull 7, 3) := by decide +kernel
theorem dX3_argumentOf_7 : decode cX3_argumentOf 7 = .ok (.iconst 0, 1) := by decide +kernel
theorem dX3_argumentOf_8 : decode cX3_argumentOf 8 = .ok (.goto 10, 3) := by decide +kernel
theorem dX3_argumentOf_11 : decode cX3_argumentOf 11 = .ok (.aload_n 1, 1) := by decide +kernel
theorem dX3_argumentOf_12 : decode cX3_argumentOf 12 = .ok (.getfield 93, 3) := by decide +kernel
theorem dX3_argumentOf_15 : decode cX3_argumentOf 15 = .ok (.getfield 126, 3) := by decide +kernel
theorem dX3_argumentOf_18 : decode cX3_argumentOf 18 = .ok (.istore_n 3, 1) := by decide +kernel
theorem dX3_argumentOf_19 : decode cX3_argumentOf 19 = .ok (.iconst 0, 1) := by decide +kernel
theorem dX3_argumentOf_20 : decode cX3_argumentOf 20 = .ok (.istore 4, 2) := by decide +kernel
theorem dX3_argumentOf_22 : decode cX3_argumentOf 22 = .ok (.iload 4, 2) := by decide +kernel
theorem dX3_argumentOf_24 : decode cX3_argumentOf 24 = .ok (.bipush 6, 2) := by decide +kernel
theorem dX3_argumentOf_26 : decode cX3_argumentOf 26 = .ok (.if_icmp .ge 38, 3) := by decide +kernel
theorem dX3_argumentOf_29 : decode cX3_argumentOf 29 = .ok (.aload_n 0, 1) := by decide +kernel
theorem dX3_argumentOf_30 : decode cX3_argumentOf 30 = .ok (.getfield 21, 3) := by decide +kernel
theorem dX3_argumentOf_33 : decode cX3_argumentOf 33 = .ok (.iload_n 3, 1) := by decide +kernel
theorem dX3_argumentOf_34 : decode cX3_argumentOf 34 = .ok (.invokevirtual 85, 3) := by decide +kernel
theorem dX3_argumentOf_37 : decode cX3_argumentOf 37 = .ok (.iload_n 2, 1) := by decide +kernel
theorem dX3_argumentOf_38 : decode cX3_argumentOf 38 = .ok (.if_icmp .ne 11, 3) := by decide +kernel
theorem dX3_argumentOf_41 : decode cX3_argumentOf 41 = .ok (.aload_n 1, 1) := by decide +kernel
theorem dX3_argumentOf_42 : decode cX3_argumentOf 42 = .ok (.getfield 129, 3) := by decide +kernel
theorem dX3_argumentOf_45 : decode cX3_argumentOf 45 = .ok (.iload 4, 2) := by decide +kernel
theorem dX3_argumentOf_47 : decode cX3_argumentOf 47 = .ok (.iaload, 1) := by decide +kernel
theorem dX3_argumentOf_48 : decode cX3_argumentOf 48 = .ok (.ireturn, 1) := by decide +kernel
theorem dX3_argumentOf_49 : decode cX3_argumentOf 49 = .ok (.aload_n 0, 1) := by decide +kernel
theorem dX3_argumentOf_50 : decode cX3_argumentOf 50 = .ok (.getfield 21, 3) := by decide +kernel
theorem dX3_argumentOf_53 : decode cX3_argumentOf 53 = .ok (.iload_n 3, 1) := by decide +kernel
theorem dX3_argumentOf_54 : decode cX3_argumentOf 54 = .ok (.invokevirtual 90, 3) := by decide +kernel
theorem dX3_argumentOf_57 : decode cX3_argumentOf 57 = .ok (.istore_n 3, 1) := by decide +kernel
theorem dX3_argumentOf_58 : decode cX3_argumentOf 58 = .ok (.iinc 4 1, 3) := by decide +kernel
theorem dX3_argumentOf_61 : decode cX3_argumentOf 61 = .ok (.goto (-39), 3) := by decide +kernel
theorem dX3_argumentOf_64 : decode cX3_argumentOf 64 = .ok (.iconst 0, 1) := by decide +kernel
theorem dX3_argumentOf_65 : decode cX3_argumentOf 65 = .ok (.ireturn, 1) := by decide +kernel
theorem dX3_boundValueOf_0 : decode cX3_boundValueOf 0 = .ok (.aload_n 0, 1) := by decide +kernel
theorem dX3_boundValueOf_1 : decode cX3_boundValueOf 1 = .ok (.getfield 38, 3) := by decide +kernel
theorem dX3_boundValueOf_4 : decode cX3_boundValueOf 4 = .ok (.istore_n 2, 1) := by decide +kernel
theorem dX3_boundValueOf_5 : decode cX3_boundValueOf 5 = .ok (.iconst 0, 1) := by decide +kernel
theorem dX3_boundValueOf_6 : decode cX3_boundValueOf 6 = .ok (.istore_n 3, 1) := by decide +kernel
theorem dX3_boundValueOf_7 : decode cX3_boundValueOf 7 = .ok (.iload_n 3, 1) := by decide +kernel
theorem dX3_boundValueOf_8 : decode cX3_boundValueOf 8 = .ok (.sipush 1000, 3) := by decide +kernel
theorem dX3_boundValueOf_11 : decode cX3_boundValueOf 11 = .ok (.if_icmp .ge 71, 3) := by decide +kernel
theorem dX3_boundValueOf_14 : decode cX3_boundValueOf 14 = .ok (.aload_n 0, 1) := by decide +kernel
theorem dX3_boundValueOf_15 : decode cX3_boundValueOf 15 = .ok (.getfield 21, 3) := by decide +kernel
theorem dX3_boundValueOf_18 : decode cX3_boundValueOf 18 = .ok (.iload_n 2, 1) := by decide +kernel
theorem dX3_boundValueOf_19 : decode cX3_boundValueOf 19 = .ok (.invokevirtual 79, 3) := by decide +kernel
theorem dX3_boundValueOf_22 : decode cX3_boundValueOf 22 = .ok (.ifCond .eq 60, 3) := by decide +kernel
theorem dX3_boundValueOf_25 : decode cX3_boundValueOf 25 = .ok (.aload_n 0, 1) := by decide +kernel
theorem dX3_boundValueOf_26 : decode cX3_boundValueOf 26 = .ok (.getfield 21, 3) := by decide +kernel
theorem dX3_boundValueOf_29 : decode cX3_boundValueOf 29 = .ok (.aload_n 0, 1) := by decide +kernel
theorem dX3_boundValueOf_30 : decode cX3_boundValueOf 30 = .ok (.getfield 21, 3) := by decide +kernel
theorem dX3_boundValueOf_33 : decode cX3_boundValueOf 33 = .ok (.iload_n 2, 1) := by decide +kernel
theorem dX3_boundValueOf_34 : decode cX3_boundValueOf 34 = .ok (.invokevirtual 85, 3) := by decide +kernel
theorem dX3_boundValueOf_37 : decode cX3_boundValueOf 37 = .ok (.invokevirtual 85, 3) := by decide +kernel
theorem dX3_boundValueOf_40 : decode cX3_boundValueOf 40 = .ok (.iload_n 1, 1) := by decide +kernel
theorem dX3_boundValueOf_41 : decode cX3_boundValueOf 41 = .ok (.if_icmp .ne 26, 3) := by decide +kernel
theorem dX3_boundValueOf_44 : decode cX3_boundValueOf 44 = .ok (.aload_n 0, 1) := by decide +kernel
theorem dX3_boundValueOf_45 : decode cX3_boundValueOf 45 = .ok (.getfield 21, 3) := by decide +kernel
theorem dX3_boundValueOf_48 : decode cX3_boundValueOf 48 = .ok (.aload_n 0, 1) := by decide +kernel
theorem dX3_boundValueOf_49 : decode cX3_boundValueOf 49 = .ok (.getfield 21, 3) := by decide +kernel
theorem dX3_boundValueOf_52 : decode cX3_boundValueOf 52 = .ok (.aload_n 0, 1) := by decide +kernel
theorem dX3_boundValueOf_53 : decode cX3_boundValueOf 53 = .ok (.getfield 21, 3) := by decide +kernel
theorem dX3_boundValueOf_56 : decode cX3_boundValueOf 56 = .ok (.iload_n 2, 1) := by decide +kernel
theorem dX3_boundValueOf_57 : decode cX3_boundValueOf 57 = .ok (.invokevirtual 85, 3) := by decide +kernel
theorem dX3_boundValueOf_60 : decode cX3_boundValueOf 60 = .ok (.invokevirtual 90, 3) := by decide +kernel
theorem dX3_boundValueOf_63 : decode cX3_boundValueOf 63 = .ok (.invokevirtual 85, 3) := by decide +kernel
theorem dX3_boundValueOf_66 : decode cX3_boundValueOf 66 = .ok (.ireturn, 1) := by decide +kernel
theorem dX3_boundValueOf_67 : decode cX3_boundValueOf 67 = .ok (.aload_n 0, 1) := by decide +kernel
theorem dX3_boundValueOf_68 : decode cX3_boundValueOf 68 = .ok (.getfield 21, 3) := by decide +kernel
theorem dX3_boundValueOf_71 : decode cX3_boundValueOf 71 = .ok (.iload_n 2, 1) := by decide +kernel
theorem dX3_boundValueOf_72 : decode cX3_boundValueOf 72 = .ok (.invokevirtual 90, 3) := by decide +kernel
theorem dX3_boundValueOf_75 : decode cX3_boundValueOf 75 = .ok (.istore_n 2, 1) := by decide +kernel
theorem dX3_boundValueOf_76 : decode cX3_boundValueOf 76 = .ok (.iinc 3 1, 3) := by decide +kernel
theorem dX3_boundValueOf_79 : decode cX3_boundValueOf 79 = .ok (.goto (-72), 3) := by decide +kernel
theorem dX3_boundValueOf_82 : decode cX3_boundValueOf 82 = .ok (.iconst 0, 1) := by decide +kernel
theorem dX3_boundValueOf_83 : decode cX3_boundValueOf 83 = .ok (.ireturn, 1) := by decide +kernel
theorem dX3_openCall_0 : decode cX3_openCall 0 = .ok (.aload_n 0, 1) := by decide +kernel
theorem dX3_openCall_1 : decode cX3_openCall 1 = .ok (.getfield 35, 3) := by decide +kernel
theorem dX3_openCall_4 : decode cX3_openCall 4 = .ok (.sipush 300, 3) := by decide +kernel
theorem dX3_openCall_7 : decode cX3_openCall 7 = .ok (.if_icmp .lt 9, 3) := by decide +kernel
theorem dX3_openCall_10 : decode cX3_openCall 10 = .ok (.aload_n 0, 1) := by decide +kernel
theorem dX3_openCall_11 : decode cX3_openCall 11 = .ok (.iconst 2, 1) := by decide +kernel
theorem dX3_openCall_12 : decode cX3_openCall 12 = .ok (.putfield 32, 3) := by decide +kernel
theorem dX3_openCall_15 : decode cX3_openCall 15 = .ok (.return_, 1) := by decide +kernel
theorem dX3_openCall_16 : decode cX3_openCall 16 = .ok (.aload_n 0, 1) := by decide +kernel
theorem dX3_openCall_17 : decode cX3_openCall 17 = .ok (.getfield 29, 3) := by decide +kernel
theorem dX3_openCall_20 : decode cX3_openCall 20 = .ok (.aload_n 0, 1) := by decide +kernel
theorem dX3_openCall_21 : decode cX3_openCall 21 = .ok (.getfield 17, 3) := by decide +kernel
theorem dX3_openCall_24 : decode cX3_openCall 24 = .ok (.if_icmp .lt 9, 3) := by decide +kernel
theorem dX3_openCall_27 : decode cX3_openCall 27 = .ok (.aload_n 0, 1) := by decide +kernel
theorem dX3_openCall_28 : decode cX3_openCall 28 = .ok (.iconst 1, 1) := by decide +kernel
theorem dX3_openCall_29 : decode cX3_openCall 29 = .ok (.putfield 32, 3) := by decide +kernel
theorem dX3_openCall_32 : decode cX3_openCall 32 = .ok (.return_, 1) := by decide +kernel
theorem dX3_openCall_33 : decode cX3_openCall 33 = .ok (.aload_n 0, 1) := by decide +kernel
theorem dX3_openCall_34 : decode cX3_openCall 34 = .ok (.dup, 1) := by decide +kernel
theorem dX3_openCall_35 : decode cX3_openCall 35 = .ok (.getfield 29, 3) := by decide +kernel
theorem dX3_openCall_38 : decode cX3_openCall 38 = .ok (.iconst 1, 1) := by decide +kernel
theorem dX3_openCall_39 : decode cX3_openCall 39 = .ok (.iadd, 1) := by decide +kernel
theorem dX3_openCall_40 : decode cX3_openCall 40 = .ok (.putfield 29, 3) := by decide +kernel
theorem dX3_openCall_43 : decode cX3_openCall 43 = .ok (.aload_n 0, 1) := by decide +kernel
theorem dX3_openCall_44 : decode cX3_openCall 44 = .ok (.getfield 13, 3) := by decide +kernel
theorem dX3_openCall_47 : decode cX3_openCall 47 = .ok (.aload_n 0, 1) := by decide +kernel
theorem dX3_openCall_48 : decode cX3_openCall 48 = .ok (.getfield 35, 3) := by decide +kernel
theorem dX3_openCall_51 : decode cX3_openCall 51 = .ok (.aaload, 1) := by decide +kernel
theorem dX3_openCall_52 : decode cX3_openCall 52 = .ok (.ifnonnull 19, 3) := by decide +kernel
theorem dX3_openCall_55 : decode cX3_openCall 55 = .ok (.aload_n 0, 1) := by decide +kernel
theorem dX3_openCall_56 : decode cX3_openCall 56 = .ok (.getfield 13, 3) := by decide +kernel
theorem dX3_openCall_59 : decode cX3_openCall 59 = .ok (.aload_n 0, 1) := by decide +kernel
theorem dX3_openCall_60 : decode cX3_openCall 60 = .ok (.getfield 35, 3) := by decide +kernel
theorem dX3_openCall_63 : decode cX3_openCall 63 = .ok (.new 11, 3) := by decide +kernel
theorem dX3_openCall_66 : decode cX3_openCall 66 = .ok (.dup, 1) := by decide +kernel
theorem dX3_openCall_67 : decode cX3_openCall 67 = .ok (.invokespecial 133, 3) := by decide +kernel
theorem dX3_openCall_70 : decode cX3_openCall 70 = .ok (.aastore, 1) := by decide +kernel
theorem dX3_openCall_71 : decode cX3_openCall 71 = .ok (.aload_n 0, 1) := by decide +kernel
theorem dX3_openCall_72 : decode cX3_openCall 72 = .ok (.getfield 13, 3) := by decide +kernel
theorem dX3_openCall_75 : decode cX3_openCall 75 = .ok (.aload_n 0, 1) := by decide +kernel
theorem dX3_openCall_76 : decode cX3_openCall 76 = .ok (.getfield 35, 3) := by decide +kernel
theorem dX3_openCall_79 : decode cX3_openCall 79 = .ok (.aaload, 1) := by decide +kernel
theorem dX3_openCall_80 : decode cX3_openCall 80 = .ok (.astore_n 3, 1) := by decide +kernel
theorem dX3_openCall_81 : decode cX3_openCall 81 = .ok (.aload_n 0, 1) := by decide +kernel
theorem dX3_openCall_82 : decode cX3_openCall 82 = .ok (.dup, 1) := by decide +kernel
theorem dX3_openCall_83 : decode cX3_openCall 83 = .ok (.getfield 35, 3) := by decide +kernel
theorem dX3_openCall_86 : decode cX3_openCall 86 = .ok (.iconst 1, 1) := by decide +kernel
theorem dX3_openCall_87 : decode cX3_openCall 87 = .ok (.iadd, 1) := by decide +kernel
theorem dX3_openCall_88 : decode cX3_openCall 88 = .ok (.putfield 35, 3) := by decide +kernel
theorem dX3_openCall_91 : decode cX3_openCall 91 = .ok (.aload_n 3, 1) := by decide +kernel
theorem dX3_openCall_92 : decode cX3_openCall 92 = .ok (.iload_n 1, 1) := by decide +kernel
theorem dX3_openCall_93 : decode cX3_openCall 93 = .ok (.aload_n 0, 1) := by decide +kernel
theorem dX3_openCall_94 : decode cX3_openCall 94 = .ok (.getfield 25, 3) := by decide +kernel
theorem dX3_openCall_97 : decode cX3_openCall 97 = .ok (.iload_n 1, 1) := by decide +kernel
theorem dX3_openCall_98 : decode cX3_openCall 98 = .ok (.invokevirtual 134, 3) := by decide +kernel
theorem dX3_openCall_101 : decode cX3_openCall 101 = .ok (.iload_n 2, 1) := by decide +kernel
theorem dX3_openCall_102 : decode cX3_openCall 102 = .ok (.aload_n 0, 1) := by decide +kernel
theorem dX3_openCall_103 : decode cX3_openCall 103 = .ok (.getfield 45, 3) := by decide +kernel
theorem dX3_openCall_106 : decode cX3_openCall 106 = .ok (.invokevirtual 140, 3) := by decide +kernel
theorem dX3_openCall_109 : decode cX3_openCall 109 = .ok (.aload_n 0, 1) := by decide +kernel
theorem dX3_openCall_110 : decode cX3_openCall 110 = .ok (.iconst 2, 1) := by decide +kernel
theorem dX3_openCall_111 : decode cX3_openCall 111 = .ok (.putfield 63, 3) := by decide +kernel
theorem dX3_openCall_114 : decode cX3_openCall 114 = .ok (.return_, 1) := by decide +kernel
theorem dX3_handOverValue_0 : decode cX3_handOverValue 0 = .ok (.aload_n 1, 1) := by decide +kernel
theorem dX3_handOverValue_1 : decode cX3_handOverValue 1 = .ok (.getfield 97, 3) := by decide +kernel
theorem dX3_handOverValue_4 : decode cX3_handOverValue 4 = .ok (.ifCond .eq 16, 3) := by decide +kernel
theorem dX3_handOverValue_7 : decode cX3_handOverValue 7 = .ok (.aload_n 0, 1) := by decide +kernel
theorem dX3_handOverValue_8 : decode cX3_handOverValue 8 = .ok (.dup, 1) := by decide +kernel
theorem dX3_handOverValue_9 : decode cX3_handOverValue 9 = .ok (.getfield 35, 3) := by decide +kernel
theorem dX3_handOverValue_12 : decode cX3_handOverValue 12 = .ok (.iconst 1, 1) := by decide +kernel
theorem dX3_handOverValue_13 : decode cX3_handOverValue 13 = .ok (.isub, 1) := by decide +kernel
theorem dX3_handOverValue_14 : decode cX3_handOverValue 14 = .ok (.putfield 35, 3) := by decide +kernel
theorem dX3_handOverValue_17 : decode cX3_handOverValue 17 = .ok (.goto 71, 3) := by decide +kernel
theorem dX3_handOverValue_20 : decode cX3_handOverValue 20 = .ok (.aload_n 1, 1) := by decide +kernel
theorem dX3_handOverValue_21 : decode cX3_handOverValue 21 = .ok (.getfield 144, 3) := by decide +kernel
theorem dX3_handOverValue_24 : decode cX3_handOverValue 24 = .ok (.iconst 3, 1) := by decide +kernel
theorem dX3_handOverValue_25 : decode cX3_handOverValue 25 = .ok (.if_icmp .ne 50, 3) := by decide +kernel
theorem dX3_handOverValue_28 : decode cX3_handOverValue 28 = .ok (.aload_n 1, 1) := by decide +kernel
theorem dX3_handOverValue_29 : decode cX3_handOverValue 29 = .ok (.iconst 1, 1) := by decide +kernel
theorem dX3_handOverValue_30 : decode cX3_handOverValue 30 = .ok (.putfield 97, 3) := by decide +kernel
theorem dX3_handOverValue_33 : decode cX3_handOverValue 33 = .ok (.aload_n 1, 1) := by decide +kernel
theorem dX3_handOverValue_34 : decode cX3_handOverValue 34 = .ok (.getfield 76, 3) := by decide +kernel
theorem dX3_handOverValue_37 : decode cX3_handOverValue 37 = .ok (.istore_n 2, 1) := by decide +kernel
theorem dX3_handOverValue_38 : decode cX3_handOverValue 38 = .ok (.aload_n 0, 1) := by decide +kernel
theorem dX3_handOverValue_39 : decode cX3_handOverValue 39 = .ok (.aload_n 0, 1) := by decide +kernel
theorem dX3_handOverValue_40 : decode cX3_handOverValue 40 = .ok (.getfield 69, 3) := by decide +kernel
theorem dX3_handOverValue_43 : decode cX3_handOverValue 43 = .ok (.ifCond .eq 14, 3) := by decide +kernel
theorem dX3_handOverValue_46 : decode cX3_handOverValue 46 = .ok (.aload_n 0, 1) := by decide +kernel
theorem dX3_handOverValue_47 : decode cX3_handOverValue 47 = .ok (.getfield 21, 3) := by decide +kernel
theorem dX3_handOverValue_50 : decode cX3_handOverValue 50 = .ok (.iload_n 2, 1) := by decide +kernel
theorem dX3_handOverValue_51 : decode cX3_handOverValue 51 = .ok (.invokevirtual 85, 3) := by decide +kernel
theorem dX3_handOverValue_54 : decode cX3_handOverValue 54 = .ok (.goto 11, 3) := by decide +kernel
theorem dX3_handOverValue_57 : decode cX3_handOverValue 57 = .ok (.aload_n 0, 1) := by decide +kernel
theorem dX3_handOverValue_58 : decode cX3_handOverValue 58 = .ok (.getfield 21, 3) := by decide +kernel
theorem dX3_handOverValue_61 : decode cX3_handOverValue 61 = .ok (.iload_n 2, 1) := by decide +kernel
theorem dX3_handOverValue_62 : decode cX3_handOverValue 62 = .ok (.invokevirtual 123, 3) := by decide +kernel
theorem dX3_handOverValue_65 : decode cX3_handOverValue 65 = .ok (.aload_n 1, 1) := by decide +kernel
theorem dX3_handOverValue_66 : decode cX3_handOverValue 66 = .ok (.getfield 89, 3) := by decide +kernel
theorem dX3_handOverValue_69 : decode cX3_handOverValue 69 = .ok (.invokevirtual 41, 3) := by decide +kernel
theorem dX3_handOverValue_72 : decode cX3_handOverValue 72 = .ok (.goto 16, 3) := by decide +kernel
theorem dX3_handOverValue_75 : decode cX3_handOverValue 75 = .ok (.aload_n 1, 1) := by decide +kernel
theorem dX3_handOverValue_76 : decode cX3_handOverValue 76 = .ok (.aload_n 0, 1) := by decide +kernel
theorem dX3_handOverValue_77 : decode cX3_handOverValue 77 = .ok (.getfield 69, 3) := by decide +kernel
theorem dX3_handOverValue_80 : decode cX3_handOverValue 80 = .ok (.invokevirtual 58, 3) := by decide +kernel
theorem dX3_handOverValue_83 : decode cX3_handOverValue 83 = .ok (.aload_n 0, 1) := by decide +kernel
theorem dX3_handOverValue_84 : decode cX3_handOverValue 84 = .ok (.iconst 2, 1) := by decide +kernel
theorem dX3_handOverValue_85 : decode cX3_handOverValue 85 = .ok (.putfield 63, 3) := by decide +kernel
theorem dX3_handOverValue_88 : decode cX3_handOverValue 88 = .ok (.return_, 1) := by decide +kernel
theorem dX3_applyBase_0 : decode cX3_applyBase 0 = .ok (.aload_n 1, 1) := by decide +kernel
theorem dX3_applyBase_1 : decode cX3_applyBase 1 = .ok (.getfield 129, 3) := by decide +kernel
theorem dX3_applyBase_4 : decode cX3_applyBase 4 = .ok (.iconst 0, 1) := by decide +kernel
theorem dX3_applyBase_5 : decode cX3_applyBase 5 = .ok (.iaload, 1) := by decide +kernel
theorem dX3_applyBase_6 : decode cX3_applyBase 6 = .ok (.istore_n 2, 1) := by decide +kernel
theorem dX3_applyBase_7 : decode cX3_applyBase 7 = .ok (.aload_n 1, 1) := by decide +kernel
theorem dX3_applyBase_8 : decode cX3_applyBase 8 = .ok (.getfield 129, 3) := by decide +kernel
theorem dX3_applyBase_11 : decode cX3_applyBase 11 = .ok (.iconst 1, 1) := by decide +kernel
theorem dX3_applyBase_12 : decode cX3_applyBase 12 = .ok (.iaload, 1) := by decide +kernel
theorem dX3_applyBase_13 : decode cX3_applyBase 13 = .ok (.istore_n 3, 1) := by decide +kernel
theorem dX3_applyBase_14 : decode cX3_applyBase 14 = .ok (.aload_n 0, 1) := by decide +kernel
theorem dX3_applyBase_15 : decode cX3_applyBase 15 = .ok (.dup, 1) := by decide +kernel
theorem dX3_applyBase_16 : decode cX3_applyBase 16 = .ok (.getfield 35, 3) := by decide +kernel
theorem dX3_applyBase_19 : decode cX3_applyBase 19 = .ok (.iconst 1, 1) := by decide +kernel
theorem dX3_applyBase_20 : decode cX3_applyBase 20 = .ok (.isub, 1) := by decide +kernel
theorem dX3_applyBase_21 : decode cX3_applyBase 21 = .ok (.putfield 35, 3) := by decide +kernel
theorem dX3_applyBase_24 : decode cX3_applyBase 24 = .ok (.aload_n 1, 1) := by decide +kernel
theorem dX3_applyBase_25 : decode cX3_applyBase 25 = .ok (.getfield 144, 3) := by decide +kernel
theorem dX3_applyBase_28 : decode cX3_applyBase 28 = .ok (.tableswitch 366 4 15 #[64, 84, 100, 123, 189, 224, 259, 277, 292, 307, 325, 343], 64) := by decide +kernel
theorem dX3_applyBase_92 : decode cX3_applyBase 92 = .ok (.aload_n 0, 1) := by decide +kernel
theorem dX3_applyBase_93 : decode cX3_applyBase 93 = .ok (.iload_n 2, 1) := by decide +kernel
theorem dX3_applyBase_94 : decode cX3_applyBase 94 = .ok (.iload_n 3, 1) := by decide +kernel
theorem dX3_applyBase_95 : decode cX3_applyBase 95 = .ok (.if_icmp .ne 7, 3) := by decide +kernel
theorem dX3_applyBase_98 : decode cX3_applyBase 98 = .ok (.iconst 1, 1) := by decide +kernel
theorem dX3_applyBase_99 : decode cX3_applyBase 99 = .ok (.goto 4, 3) := by decide +kernel
theorem dX3_applyBase_102 : decode cX3_applyBase 102 = .ok (.iconst 0, 1) := by decide +kernel
theorem dX3_applyBase_103 : decode cX3_applyBase 103 = .ok (.invokestatic 145, 3) := by decide +kernel
theorem dX3_applyBase_106 : decode cX3_applyBase 106 = .ok (.invokevirtual 120, 3) := by decide +kernel
theorem dX3_applyBase_109 : decode cX3_applyBase 109 = .ok (.goto 301, 3) := by decide +kernel
theorem dX3_applyBase_112 : decode cX3_applyBase 112 = .ok (.aload_n 0, 1) := by decide +kernel
theorem dX3_applyBase_113 : decode cX3_applyBase 113 = .ok (.aload_n 0, 1) := by decide +kernel
theorem dX3_applyBase_114 : decode cX3_applyBase 114 = .ok (.getfield 21, 3) := by decide +kernel
theorem dX3_applyBase_117 : decode cX3_applyBase 117 = .ok (.iload_n 2, 1) := by decide +kernel
theorem dX3_applyBase_118 : decode cX3_applyBase 118 = .ok (.iload_n 3, 1) := by decide +kernel
theorem dX3_applyBase_119 : decode cX3_applyBase 119 = .ok (.invokevirtual 149, 3) := by decide +kernel
theorem dX3_applyBase_122 : decode cX3_applyBase 122 = .ok (.invokevirtual 120, 3) := by decide +kernel
theorem dX3_applyBase_125 : decode cX3_applyBase 125 = .ok (.goto 285, 3) := by decide +kernel
theorem dX3_applyBase_128 : decode cX3_applyBase 128 = .ok (.aload_n 0, 1) := by decide +kernel
theorem dX3_applyBase_129 : decode cX3_applyBase 129 = .ok (.iload_n 2, 1) := by decide +kernel
theorem dX3_applyBase_130 : decode cX3_applyBase 130 = .ok (.ifCond .eq 7, 3) := by decide +kernel
theorem dX3_applyBase_133 : decode cX3_applyBase 133 = .ok (.iload_n 3, 1) := by decide +kernel
theorem dX3_applyBase_134 : decode cX3_applyBase 134 = .ok (.ifCond .eq 7, 3) := by decide +kernel
theorem dX3_applyBase_137 : decode cX3_applyBase 137 = .ok (.iconst 1, 1) := by decide +kernel
theorem dX3_applyBase_138 : decode cX3_applyBase 138 = .ok (.goto 4, 3) := by decide +kernel
theorem dX3_applyBase_141 : decode cX3_applyBase 141 = .ok (.iconst 0, 1) := by decide +kernel
theorem dX3_applyBase_142 : decode cX3_applyBase 142 = .ok (.invokestatic 145, 3) := by decide +kernel
theorem dX3_applyBase_145 : decode cX3_applyBase 145 = .ok (.invokevirtual 120, 3) := by decide +kernel
theorem dX3_applyBase_148 : decode cX3_applyBase 148 = .ok (.goto 262, 3) := by decide +kernel
theorem dX3_applyBase_151 : decode cX3_applyBase 151 = .ok (.aload_n 0, 1) := by decide +kernel
theorem dX3_applyBase_152 : decode cX3_applyBase 152 = .ok (.getfield 21, 3) := by decide +kernel
theorem dX3_applyBase_155 : decode cX3_applyBase 155 = .ok (.iload_n 2, 1) := by decide +kernel
theorem dX3_applyBase_156 : decode cX3_applyBase 156 = .ok (.invokevirtual 153, 3) := by decide +kernel
theorem dX3_applyBase_159 : decode cX3_applyBase 159 = .ok (.aload_n 0, 1) := by decide +kernel
theorem dX3_applyBase_160 : decode cX3_applyBase 160 = .ok (.getfield 21, 3) := by decide +kernel
theorem dX3_applyBase_163 : decode cX3_applyBase 163 = .ok (.iload_n 3, 1) := by decide +kernel
theorem dX3_applyBase_164 : decode cX3_applyBase 164 = .ok (.invokevirtual 153, 3) := by decide +kernel
theorem dX3_applyBase_167 : decode cX3_applyBase 167 = .ok (.ladd, 1) := by decide +kernel
theorem dX3_applyBase_168 : decode cX3_applyBase 168 = .ok (.lstore 4, 2) := by decide +kernel
theorem dX3_applyBase_170 : decode cX3_applyBase 170 = .ok (.aload_n 0, 1) := by decide +kernel
theorem dX3_applyBase_171 : decode cX3_applyBase 171 = .ok (.lload 4, 2) := by decide +kernel
theorem dX3_applyBase_173 : decode cX3_applyBase 173 = .ok (.ldc2_w 157, 3) := by decide +kernel
theorem dX3_applyBase_176 : decode cX3_applyBase 176 = .ok (.lcmp, 1) := by decide +kernel
theorem dX3_applyBase_177 : decode cX3_applyBase 177 = .ok (.ifCond .le 7, 3) := by decide +kernel
theorem dX3_applyBase_180 : decode cX3_applyBase 180 = .ok (.iconst 3, 1) := by decide +kernel
theorem dX3_applyBase_181 : decode cX3_applyBase 181 = .ok (.goto 4, 3) := by decide +kernel
theorem dX3_applyBase_184 : decode cX3_applyBase 184 = .ok (.iconst 0, 1) := by decide +kernel
theorem dX3_applyBase_185 : decode cX3_applyBase 185 = .ok (.putfield 32, 3) := by decide +kernel
theorem dX3_applyBase_188 : decode cX3_applyBase 188 = .ok (.aload_n 0, 1) := by decide +kernel
theorem dX3_applyBase_189 : decode cX3_applyBase 189 = .ok (.lload 4, 2) := by decide +kernel
theorem dX3_applyBase_191 : decode cX3_applyBase 191 = .ok (.ldc2_w 157, 3) := by decide +kernel
theorem dX3_applyBase_194 : decode cX3_applyBase 194 = .ok (.lcmp, 1) := by decide +kernel
theorem dX3_applyBase_195 : decode cX3_applyBase 195 = .ok (.ifCond .le 7, 3) := by decide +kernel
theorem dX3_applyBase_198 : decode cX3_applyBase 198 = .ok (.iconst 0, 1) := by decide +kernel
theorem dX3_applyBase_199 : decode cX3_applyBase 199 = .ok (.goto 12, 3) := by decide +kernel
theorem dX3_applyBase_202 : decode cX3_applyBase 202 = .ok (.aload_n 0, 1) := by decide +kernel
theorem dX3_applyBase_203 : decode cX3_applyBase 203 = .ok (.getfield 21, 3) := by decide +kernel
theorem dX3_applyBase_206 : decode cX3_applyBase 206 = .ok (.lload 4, 2) := by decide +kernel
theorem dX3_applyBase_208 : decode cX3_applyBase 208 = .ok (.invokevirtual 159, 3) := by decide +kernel
theorem dX3_applyBase_211 : decode cX3_applyBase 211 = .ok (.invokevirtual 120, 3) := by decide +kernel
theorem dX3_applyBase_214 : decode cX3_applyBase 214 = .ok (.goto 196, 3) := by decide +kernel
theorem dX3_applyBase_217 : decode cX3_applyBase 217 = .ok (.aload_n 0, 1) := by decide +kernel
theorem dX3_applyBase_218 : decode cX3_applyBase 218 = .ok (.aload_n 0, 1) := by decide +kernel
theorem dX3_applyBase_219 : decode cX3_applyBase 219 = .ok (.getfield 21, 3) := by decide +kernel
theorem dX3_applyBase_222 : decode cX3_applyBase 222 = .ok (.aload_n 0, 1) := by decide +kernel
theorem dX3_applyBase_223 : decode cX3_applyBase 223 = .ok (.getfield 21, 3) := by decide +kernel
theorem dX3_applyBase_226 : decode cX3_applyBase 226 = .ok (.iload_n 2, 1) := by decide +kernel
theorem dX3_applyBase_227 : decode cX3_applyBase 227 = .ok (.invokevirtual 153, 3) := by decide +kernel
theorem dX3_applyBase_230 : decode cX3_applyBase 230 = .ok (.aload_n 0, 1) := by decide +kernel
theorem dX3_applyBase_231 : decode cX3_applyBase 231 = .ok (.getfield 21, 3) := by decide +kernel
theorem dX3_applyBase_234 : decode cX3_applyBase 234 = .ok (.iload_n 3, 1) := by decide +kernel
theorem dX3_applyBase_235 : decode cX3_applyBase 235 = .ok (.invokevirtual 153, 3) := by decide +kernel
theorem dX3_applyBase_238 : decode cX3_applyBase 238 = .ok (.lsub, 1) := by decide +kernel
theorem dX3_applyBase_239 : decode cX3_applyBase 239 = .ok (.lconst 0, 1) := by decide +kernel
theorem dX3_applyBase_240 : decode cX3_applyBase 240 = .ok (.invokestatic 163, 3) := by decide +kernel
theorem dX3_applyBase_243 : decode cX3_applyBase 243 = .ok (.invokevirtual 159, 3) := by decide +kernel
theorem dX3_applyBase_246 : decode cX3_applyBase 246 = .ok (.invokevirtual 120, 3) := by decide +kernel
theorem dX3_applyBase_249 : decode cX3_applyBase 249 = .ok (.goto 161, 3) := by decide +kernel
theorem dX3_applyBase_252 : decode cX3_applyBase 252 = .ok (.aload_n 0, 1) := by decide +kernel
theorem dX3_applyBase_253 : decode cX3_applyBase 253 = .ok (.aload_n 0, 1) := by decide +kernel
theorem dX3_applyBase_254 : decode cX3_applyBase 254 = .ok (.getfield 21, 3) := by decide +kernel
theorem dX3_applyBase_257 : decode cX3_applyBase 257 = .ok (.iload_n 2, 1) := by decide +kernel
theorem dX3_applyBase_258 : decode cX3_applyBase 258 = .ok (.invokevirtual 153, 3) := by decide +kernel
theorem dX3_applyBase_261 : decode cX3_applyBase 261 = .ok (.aload_n 0, 1) := by decide +kernel
theorem dX3_applyBase_262 : decode cX3_applyBase 262 = .ok (.getfield 21, 3) := by decide +kernel
theorem dX3_applyBase_265 : decode cX3_applyBase 265 = .ok (.iload_n 3, 1) := by decide +kernel
theorem dX3_applyBase_266 : decode cX3_applyBase 266 = .ok (.invokevirtual 153, 3) := by decide +kernel
theorem dX3_applyBase_269 : decode cX3_applyBase 269 = .ok (.lcmp, 1) := by decide +kernel
theorem dX3_applyBase_270 : decode cX3_applyBase 270 = .ok (.ifCond .ge 7, 3) := by decide +kernel
theorem dX3_applyBase_273 : decode cX3_applyBase 273 = .ok (.iconst 1, 1) := by decide +kernel
theorem dX3_applyBase_274 : decode cX3_applyBase 274 = .ok (.goto 4, 3) := by decide +kernel
theorem dX3_applyBase_277 : decode cX3_applyBase 277 = .ok (.iconst 0, 1) := by decide +kernel
theorem dX3_applyBase_278 : decode cX3_applyBase 278 = .ok (.invokestatic 145, 3) := by decide +kernel
theorem dX3_applyBase_281 : decode cX3_applyBase 281 = .ok (.invokevirtual 120, 3) := by decide +kernel
theorem dX3_applyBase_284 : decode cX3_applyBase 284 = .ok (.goto 126, 3) := by decide +kernel
theorem dX3_applyBase_287 : decode cX3_applyBase 287 = .ok (.aload_n 0, 1) := by decide +kernel
theorem dX3_applyBase_288 : decode cX3_applyBase 288 = .ok (.aload_n 0, 1) := by decide +kernel
theorem dX3_applyBase_289 : decode cX3_applyBase 289 = .ok (.getfield 21, 3) := by decide +kernel
theorem dX3_applyBase_292 : decode cX3_applyBase 292 = .ok (.iload_n 2, 1) := by decide +kernel
theorem dX3_applyBase_293 : decode cX3_applyBase 293 = .ok (.invokevirtual 79, 3) := by decide +kernel
theorem dX3_applyBase_296 : decode cX3_applyBase 296 = .ok (.invokestatic 145, 3) := by decide +kernel
theorem dX3_applyBase_299 : decode cX3_applyBase 299 = .ok (.invokevirtual 120, 3) := by decide +kernel
theorem dX3_applyBase_302 : decode cX3_applyBase 302 = .ok (.goto 108, 3) := by decide +kernel
theorem dX3_applyBase_305 : decode cX3_applyBase 305 = .ok (.aload_n 0, 1) := by decide +kernel
theorem dX3_applyBase_306 : decode cX3_applyBase 306 = .ok (.aload_n 0, 1) := by decide +kernel
theorem dX3_applyBase_307 : decode cX3_applyBase 307 = .ok (.getfield 21, 3) := by decide +kernel
theorem dX3_applyBase_310 : decode cX3_applyBase 310 = .ok (.iload_n 2, 1) := by decide +kernel
theorem dX3_applyBase_311 : decode cX3_applyBase 311 = .ok (.invokevirtual 85, 3) := by decide +kernel
theorem dX3_applyBase_314 : decode cX3_applyBase 314 = .ok (.invokevirtual 120, 3) := by decide +kernel
theorem dX3_applyBase_317 : decode cX3_applyBase 317 = .ok (.goto 93, 3) := by decide +kernel
theorem dX3_applyBase_320 : decode cX3_applyBase 320 = .ok (.aload_n 0, 1) := by decide +kernel
theorem dX3_applyBase_321 : decode cX3_applyBase 321 = .ok (.aload_n 0, 1) := by decide +kernel
theorem dX3_applyBase_322 : decode cX3_applyBase 322 = .ok (.getfield 21, 3) := by decide +kernel
theorem dX3_applyBase_325 : decode cX3_applyBase 325 = .ok (.iload_n 2, 1) := by decide +kernel
theorem dX3_applyBase_326 : decode cX3_applyBase 326 = .ok (.invokevirtual 90, 3) := by decide +kernel
theorem dX3_applyBase_329 : decode cX3_applyBase 329 = .ok (.invokevirtual 120, 3) := by decide +kernel
theorem dX3_applyBase_332 : decode cX3_applyBase 332 = .ok (.goto 78, 3) := by decide +kernel
theorem dX3_applyBase_335 : decode cX3_applyBase 335 = .ok (.aload_n 0, 1) := by decide +kernel
theorem dX3_applyBase_336 : decode cX3_applyBase 336 = .ok (.aload_n 0, 1) := by decide +kernel
theorem dX3_applyBase_337 : decode cX3_applyBase 337 = .ok (.getfield 21, 3) := by decide +kernel
theorem dX3_applyBase_340 : decode cX3_applyBase 340 = .ok (.iload_n 2, 1) := by decide +kernel
theorem dX3_applyBase_341 : decode cX3_applyBase 341 = .ok (.invokevirtual 169, 3) := by decide +kernel
theorem dX3_applyBase_344 : decode cX3_applyBase 344 = .ok (.invokestatic 145, 3) := by decide +kernel
theorem dX3_applyBase_347 : decode cX3_applyBase 347 = .ok (.invokevirtual 120, 3) := by decide +kernel
theorem dX3_applyBase_350 : decode cX3_applyBase 350 = .ok (.goto 60, 3) := by decide +kernel
theorem dX3_applyBase_353 : decode cX3_applyBase 353 = .ok (.aload_n 0, 1) := by decide +kernel
theorem dX3_applyBase_354 : decode cX3_applyBase 354 = .ok (.aload_n 0, 1) := by decide +kernel
theorem dX3_applyBase_355 : decode cX3_applyBase 355 = .ok (.getfield 21, 3) := by decide +kernel
theorem dX3_applyBase_358 : decode cX3_applyBase 358 = .ok (.iload_n 2, 1) := by decide +kernel
theorem dX3_applyBase_359 : decode cX3_applyBase 359 = .ok (.invokevirtual 172, 3) := by decide +kernel
theorem dX3_applyBase_362 : decode cX3_applyBase 362 = .ok (.invokestatic 145, 3) := by decide +kernel
theorem dX3_applyBase_365 : decode cX3_applyBase 365 = .ok (.invokevirtual 120, 3) := by decide +kernel
theorem dX3_applyBase_368 : decode cX3_applyBase 368 = .ok (.goto 42, 3) := by decide +kernel
theorem dX3_applyBase_371 : decode cX3_applyBase 371 = .ok (.aload_n 0, 1) := by decide +kernel
theorem dX3_applyBase_372 : decode cX3_applyBase 372 = .ok (.aload_n 0, 1) := by decide +kernel
theorem dX3_applyBase_373 : decode cX3_applyBase 373 = .ok (.getfield 21, 3) := by decide +kernel
theorem dX3_applyBase_376 : decode cX3_applyBase 376 = .ok (.aload_n 0, 1) := by decide +kernel
theorem dX3_applyBase_377 : decode cX3_applyBase 377 = .ok (.getfield 21, 3) := by decide +kernel
theorem dX3_applyBase_380 : decode cX3_applyBase 380 = .ok (.iload_n 2, 1) := by decide +kernel
theorem dX3_applyBase_381 : decode cX3_applyBase 381 = .ok (.invokevirtual 175, 3) := by decide +kernel
theorem dX3_applyBase_384 : decode cX3_applyBase 384 = .ok (.i2l, 1) := by decide +kernel
theorem dX3_applyBase_385 : decode cX3_applyBase 385 = .ok (.invokevirtual 159, 3) := by decide +kernel
theorem dX3_applyBase_388 : decode cX3_applyBase 388 = .ok (.invokevirtual 120, 3) := by decide +kernel
theorem dX3_applyBase_391 : decode cX3_applyBase 391 = .ok (.goto 19, 3) := by decide +kernel
theorem dX3_applyBase_394 : decode cX3_applyBase 394 = .ok (.aload_n 0, 1) := by decide +kernel
theorem dX3_applyBase_395 : decode cX3_applyBase 395 = .ok (.iload_n 2, 1) := by decide +kernel
theorem dX3_applyBase_396 : decode cX3_applyBase 396 = .ok (.ifCond .ne 7, 3) := by decide +kernel
theorem dX3_applyBase_399 : decode cX3_applyBase 399 = .ok (.iconst 1, 1) := by decide +kernel
theorem dX3_applyBase_400 : decode cX3_applyBase 400 = .ok (.goto 4, 3) := by decide +kernel
theorem dX3_applyBase_403 : decode cX3_applyBase 403 = .ok (.iconst 0, 1) := by decide +kernel
theorem dX3_applyBase_404 : decode cX3_applyBase 404 = .ok (.invokestatic 145, 3) := by decide +kernel
theorem dX3_applyBase_407 : decode cX3_applyBase 407 = .ok (.invokevirtual 120, 3) := by decide +kernel
theorem dX3_applyBase_410 : decode cX3_applyBase 410 = .ok (.return_, 1) := by decide +kernel
theorem dX3_truth_0 : decode cX3_truth 0 = .ok (.iload_n 0, 1) := by decide +kernel
theorem dX3_truth_1 : decode cX3_truth 1 = .ok (.ifCond .eq 7, 3) := by decide +kernel
theorem dX3_truth_4 : decode cX3_truth 4 = .ok (.iconst 1, 1) := by decide +kernel
theorem dX3_truth_5 : decode cX3_truth 5 = .ok (.goto 4, 3) := by decide +kernel
theorem dX3_truth_8 : decode cX3_truth 8 = .ok (.iconst 0, 1) := by decide +kernel
theorem dX3_truth_9 : decode cX3_truth 9 = .ok (.ireturn, 1) := by decide +kernel
theorem dX4_init_0 : decode cX4_init 0 = .ok (.aload_n 0, 1) := by decide +kernel
theorem dX4_init_1 : decode cX4_init 1 = .ok (.invokespecial 3, 3) := by decide +kernel
theorem dX4_init_4 : decode cX4_init 4 = .ok (.aload_n 0, 1) := by decide +kernel
theorem dX4_init_5 : decode cX4_init 5 = .ok (.bipush 40, 2) := by decide +kernel
theorem dX4_init_7 : decode cX4_init 7 = .ok (.anewarray 9, 3) := by decide +kernel
theorem dX4_init_10 : decode cX4_init 10 = .ok (.putfield 11, 3) := by decide +kernel
theorem dX4_init_13 : decode cX4_init 13 = .ok (.return_, 1) := by decide +kernel
theorem dX4_find_0 : decode cX4_find 0 = .ok (.iconst 0, 1) := by decide +kernel
theorem dX4_find_1 : decode cX4_find 1 = .ok (.istore_n 2, 1) := by decide +kernel
theorem dX4_find_2 : decode cX4_find 2 = .ok (.iload_n 2, 1) := by decide +kernel
theorem dX4_find_3 : decode cX4_find 3 = .ok (.aload_n 0, 1) := by decide +kernel
theorem dX4_find_4 : decode cX4_find 4 = .ok (.getfield 17, 3) := by decide +kernel
theorem dX4_find_7 : decode cX4_find 7 = .ok (.if_icmp .ge 36, 3) := by decide +kernel
theorem dX4_find_10 : decode cX4_find 10 = .ok (.iload_n 2, 1) := by decide +kernel
theorem dX4_find_11 : decode cX4_find 11 = .ok (.bipush 40, 2) := by decide +kernel
theorem dX4_find_13 : decode cX4_find 13 = .ok (.if_icmp .ge 30, 3) := by decide +kernel
theorem dX4_find_16 : decode cX4_find 16 = .ok (.aload_n 0, 1) := by decide +kernel
theorem dX4_find_17 : decode cX4_find 17 = .ok (.getfield 11, 3) := by decide +kernel
theorem dX4_find_20 : decode cX4_find 20 = .ok (.iload_n 2, 1) := by decide +kernel
theorem dX4_find_21 : decode cX4_find 21 = .ok (.aaload, 1) := by decide +kernel
theorem dX4_find_22 : decode cX4_find 22 = .ok (.astore_n 3, 1) := by decide +kernel
theorem dX4_find_23 : decode cX4_find 23 = .ok (.aload_n 3, 1) := by decide +kernel
theorem dX4_find_24 : decode cX4_find 24 = .ok (.ifnull 13, 3) := by decide +kernel
theorem dX4_find_27 : decode cX4_find 27 = .ok (.aload_n 3, 1) := by decide +kernel
theorem dX4_find_28 : decode cX4_find 28 = .ok (.getfield 21, 3) := by decide +kernel
theorem dX4_find_31 : decode cX4_find 31 = .ok (.iload_n 1, 1) := by decide +kernel
theorem dX4_find_32 : decode cX4_find 32 = .ok (.if_icmp .ne 5, 3) := by decide +kernel
theorem dX4_find_35 : decode cX4_find 35 = .ok (.aload_n 3, 1) := by decide +kernel
theorem dX4_find_36 : decode cX4_find 36 = .ok (.areturn, 1) := by decide +kernel
theorem dX4_find_37 : decode cX4_find 37 = .ok (.iinc 2 1, 3) := by decide +kernel
theorem dX4_find_40 : decode cX4_find 40 = .ok (.goto (-38), 3) := by decide +kernel
theorem dX4_find_43 : decode cX4_find 43 = .ok (.aconst_null, 1) := by decide +kernel
theorem dX4_find_44 : decode cX4_find 44 = .ok (.areturn, 1) := by decide +kernel
theorem dX4_at_0 : decode cX4_at 0 = .ok (.iload_n 1, 1) := by decide +kernel
theorem dX4_at_1 : decode cX4_at 1 = .ok (.ifCond .lt 26, 3) := by decide +kernel
theorem dX4_at_4 : decode cX4_at 4 = .ok (.iload_n 1, 1) := by decide +kernel
theorem dX4_at_5 : decode cX4_at 5 = .ok (.aload_n 0, 1) := by decide +kernel
theorem dX4_at_6 : decode cX4_at 6 = .ok (.getfield 17, 3) := by decide +kernel
theorem dX4_at_9 : decode cX4_at 9 = .ok (.if_icmp .ge 18, 3) := by decide +kernel
theorem dX4_at_12 : decode cX4_at 12 = .ok (.iload_n 1, 1) := by decide +kernel
theorem dX4_at_13 : decode cX4_at 13 = .ok (.bipush 40, 2) := by decide +kernel
theorem dX4_at_15 : decode cX4_at 15 = .ok (.if_icmp .ge 12, 3) := by decide +kernel
theorem dX4_at_18 : decode cX4_at 18 = .ok (.aload_n 0, 1) := by decide +kernel
theorem dX4_at_19 : decode cX4_at 19 = .ok (.getfield 11, 3) := by decide +kernel
theorem dX4_at_22 : decode cX4_at 22 = .ok (.iload_n 1, 1) := by decide +kernel
theorem dX4_at_23 : decode cX4_at 23 = .ok (.aaload, 1) := by decide +kernel
theorem dX4_at_24 : decode cX4_at 24 = .ok (.goto 4, 3) := by decide +kernel
theorem dX4_at_27 : decode cX4_at 27 = .ok (.aconst_null, 1) := by decide +kernel
theorem dX4_at_28 : decode cX4_at 28 = .ok (.areturn, 1) := by decide +kernel
theorem dX4_isFull_0 : decode cX4_isFull 0 = .ok (.aload_n 0, 1) := by decide +kernel
theorem dX4_isFull_1 : decode cX4_isFull 1 = .ok (.getfield 17, 3) := by decide +kernel
theorem dX4_isFull_4 : decode cX4_isFull 4 = .ok (.bipush 40, 2) := by decide +kernel
theorem dX4_isFull_6 : decode cX4_isFull 6 = .ok (.if_icmp .lt 7, 3) := by decide +kernel
theorem dX4_isFull_9 : decode cX4_isFull 9 = .ok (.iconst 1, 1) := by decide +kernel
theorem dX4_isFull_10 : decode cX4_isFull 10 = .ok (.goto 4, 3) := by decide +kernel
theorem dX4_isFull_13 : decode cX4_isFull 13 = .ok (.iconst 0, 1) := by decide +kernel
theorem dX4_isFull_14 : decode cX4_isFull 14 = .ok (.ireturn, 1) := by decide +kernel
theorem dX4_add_0 : decode cX4_add 0 = .ok (.aload_n 0, 1) := by decide +kernel
theorem dX4_add_1 : decode cX4_add 1 = .ok (.invokevirtual 24, 3) := by decide +kernel
theorem dX4_add_4 : decode cX4_add 4 = .ok (.ifCond .ne 23, 3) := by decide +kernel
theorem dX4_add_7 : decode cX4_add 7 = .ok (.aload_n 0, 1) := by decide +kernel
theorem dX4_add_8 : decode cX4_add 8 = .ok (.getfield 11, 3) := by decide +kernel
theorem dX4_add_11 : decode cX4_add 11 = .ok (.aload_n 0, 1) := by decide +kernel
theorem dX4_add_12 : decode cX4_add 12 = .ok (.getfield 17, 3) := by decide +kernel
theorem dX4_add_15 : decode cX4_add 15 = .ok (.aload_n 1, 1) := by decide +kernel
theorem dX4_add_16 : decode cX4_add 16 = .ok (.aastore, 1) := by decide +kernel
theorem dX4_add_17 : decode cX4_add 17 = .ok (.aload_n 0, 1) := by decide +kernel
theorem dX4_add_18 : decode cX4_add 18 = .ok (.dup, 1) := by decide +kernel
theorem dX4_add_19 : decode cX4_add 19 = .ok (.getfield 17, 3) := by decide +kernel
theorem dX4_add_22 : decode cX4_add 22 = .ok (.iconst 1, 1) := by decide +kernel
theorem dX4_add_23 : decode cX4_add 23 = .ok (.iadd, 1) := by decide +kernel
theorem dX4_add_24 : decode cX4_add 24 = .ok (.putfield 17, 3) := by decide +kernel
theorem dX4_add_27 : decode cX4_add 27 = .ok (.return_, 1) := by decide +kernel
theorem dX4_removeLast_0 : decode cX4_removeLast 0 = .ok (.aload_n 0, 1) := by decide +kernel
theorem dX4_removeLast_1 : decode cX4_removeLast 1 = .ok (.getfield 17, 3) := by decide +kernel
theorem dX4_removeLast_4 : decode cX4_removeLast 4 = .ok (.ifCond .le 23, 3) := by decide +kernel
theorem dX4_removeLast_7 : decode cX4_removeLast 7 = .ok (.aload_n 0, 1) := by decide +kernel
theorem dX4_removeLast_8 : decode cX4_removeLast 8 = .ok (.dup, 1) := by decide +kernel
theorem dX4_removeLast_9 : decode cX4_removeLast 9 = .ok (.getfield 17, 3) := by decide +kernel
theorem dX4_removeLast_12 : decode cX4_removeLast 12 = .ok (.iconst 1, 1) := by decide +kernel
theorem dX4_removeLast_13 : decode cX4_removeLast 13 = .ok (.isub, 1) := by decide +kernel
theorem dX4_removeLast_14 : decode cX4_removeLast 14 = .ok (.putfield 17, 3) := by decide +kernel
theorem dX4_removeLast_17 : decode cX4_removeLast 17 = .ok (.aload_n 0, 1) := by decide +kernel
theorem dX4_removeLast_18 : decode cX4_removeLast 18 = .ok (.getfield 11, 3) := by decide +kernel
theorem dX4_removeLast_21 : decode cX4_removeLast 21 = .ok (.aload_n 0, 1) := by decide +kernel
theorem dX4_removeLast_22 : decode cX4_removeLast 22 = .ok (.getfield 17, 3) := by decide +kernel
theorem dX4_removeLast_25 : decode cX4_removeLast 25 = .ok (.aconst_null, 1) := by decide +kernel
theorem dX4_removeLast_26 : decode cX4_removeLast 26 = .ok (.aastore, 1) := by decide +kernel
theorem dX4_removeLast_27 : decode cX4_removeLast 27 = .ok (.return_, 1) := by decide +kernel
theorem dX5_init_0 : decode cX5_init 0 = .ok (.aload_n 0, 1) := by decide +kernel
theorem dX5_init_1 : decode cX5_init 1 = .ok (.invokespecial 3, 3) := by decide +kernel
theorem dX5_init_4 : decode cX5_init 4 = .ok (.aload_n 0, 1) := by decide +kernel
theorem dX5_init_5 : decode cX5_init 5 = .ok (.sipush 3000, 3) := by decide +kernel
theorem dX5_init_8 : decode cX5_init 8 = .ok (.newarray .char, 2) := by decide +kernel
theorem dX5_init_10 : decode cX5_init 10 = .ok (.putfield 9, 3) := by decide +kernel
theorem dX5_init_13 : decode cX5_init 13 = .ok (.aload_n 0, 1) := by decide +kernel
theorem dX5_init_14 : decode cX5_init 14 = .ok (.iconst (-1), 1) := by decide +kernel
theorem dX5_init_15 : decode cX5_init 15 = .ok (.putfield 15, 3) := by decide +kernel
theorem dX5_init_18 : decode cX5_init 18 = .ok (.aload_n 0, 1) := by decide +kernel
theorem dX5_init_19 : decode cX5_init 19 = .ok (.sipush 1000, 3) := by decide +kernel
theorem dX5_init_22 : decode cX5_init 22 = .ok (.newarray .int, 2) := by decide +kernel
theorem dX5_init_24 : decode cX5_init 24 = .ok (.putfield 19, 3) := by decide +kernel
theorem dX5_init_27 : decode cX5_init 27 = .ok (.aload_n 0, 1) := by decide +kernel
theorem dX5_init_28 : decode cX5_init 28 = .ok (.bipush 41, 2) := by decide +kernel
theorem dX5_init_30 : decode cX5_init 30 = .ok (.newarray .int, 2) := by decide +kernel
theorem dX5_init_32 : decode cX5_init 32 = .ok (.putfield 23, 3) := by decide +kernel
theorem dX5_init_35 : decode cX5_init 35 = .ok (.aload_n 0, 1) := by decide +kernel
theorem dX5_init_36 : decode cX5_init 36 = .ok (.bipush 41, 2) := by decide +kernel
theorem dX5_init_38 : decode cX5_init 38 = .ok (.newarray .int, 2) := by decide +kernel
theorem dX5_init_40 : decode cX5_init 40 = .ok (.putfield 26, 3) := by decide +kernel
theorem dX5_init_43 : decode cX5_init 43 = .ok (.aload_n 0, 1) := by decide +kernel
theorem dX5_init_44 : decode cX5_init 44 = .ok (.aload_n 1, 1) := by decide +kernel
theorem dX5_init_45 : decode cX5_init 45 = .ok (.putfield 29, 3) := by decide +kernel
theorem dX5_init_48 : decode cX5_init 48 = .ok (.return_, 1) := by decide +kernel
theorem dX5_append_0 : decode cX5_append 0 = .ok (.aload_n 0, 1) := by decide +kernel
theorem dX5_append_1 : decode cX5_append 1 = .ok (.getfield 33, 3) := by decide +kernel
theorem dX5_append_4 : decode cX5_append 4 = .ok (.sipush 3000, 3) := by decide +kernel
theorem dX5_append_7 : decode cX5_append 7 = .ok (.if_icmp .ge 23, 3) := by decide +kernel
theorem dX5_append_10 : decode cX5_append 10 = .ok (.aload_n 0, 1) := by decide +kernel
theorem dX5_append_11 : decode cX5_append 11 = .ok (.getfield 9, 3) := by decide +kernel
theorem dX5_append_14 : decode cX5_append 14 = .ok (.aload_n 0, 1) := by decide +kernel
theorem dX5_append_15 : decode cX5_append 15 = .ok (.getfield 33, 3) := by decide +kernel
theorem dX5_append_18 : decode cX5_append 18 = .ok (.iload_n 1, 1) := by decide +kernel
theorem dX5_append_19 : decode cX5_append 19 = .ok (.castore, 1) := by decide +kernel
theorem dX5_append_20 : decode cX5_append 20 = .ok (.aload_n 0, 1) := by decide +kernel
theorem dX5_append_21 : decode cX5_append 21 = .ok (.dup, 1) := by decide +kernel
theorem dX5_append_22 : decode cX5_append 22 = .ok (.getfield 33, 3) := by decide +kernel
theorem dX5_append_25 : decode cX5_append 25 = .ok (.iconst 1, 1) := by decide +kernel
theorem dX5_append_26 : decode cX5_append 26 = .ok (.iadd, 1) := by decide +kernel
theorem dX5_append_27 : decode cX5_append 27 = .ok (.putfield 33, 3) := by decide +kernel
theorem dX5_append_30 : decode cX5_append 30 = .ok (.return_, 1) := by decide +kernel
theorem dX5_clear_0 : decode cX5_clear 0 = .ok (.aload_n 0, 1) := by decide +kernel
theorem dX5_clear_1 : decode cX5_clear 1 = .ok (.iconst 0, 1) := by decide +kernel
theorem dX5_clear_2 : decode cX5_clear 2 = .ok (.putfield 33, 3) := by decide +kernel
theorem dX5_clear_5 : decode cX5_clear 5 = .ok (.aload_n 0, 1) := by decide +kernel
theorem dX5_clear_6 : decode cX5_clear 6 = .ok (.iconst 0, 1) := by decide +kernel
theorem dX5_clear_7 : decode cX5_clear 7 = .ok (.putfield 36, 3) := by decide +kernel
theorem dX5_clear_10 : decode cX5_clear 10 = .ok (.aload_n 0, 1) := by decide +kernel
theorem dX5_clear_11 : decode cX5_clear 11 = .ok (.iconst (-1), 1) := by decide +kernel
theorem dX5_clear_12 : decode cX5_clear 12 = .ok (.putfield 15, 3) := by decide +kernel
theorem dX5_clear_15 : decode cX5_clear 15 = .ok (.aload_n 0, 1) := by decide +kernel
theorem dX5_clear_16 : decode cX5_clear 16 = .ok (.iconst 0, 1) := by decide +kernel
theorem dX5_clear_17 : decode cX5_clear 17 = .ok (.putfield 39, 3) := by decide +kernel
theorem dX5_clear_20 : decode cX5_clear 20 = .ok (.aload_n 0, 1) := by decide +kernel
theorem dX5_clear_21 : decode cX5_clear 21 = .ok (.iconst 0, 1) := by decide +kernel
theorem dX5_clear_22 : decode cX5_clear 22 = .ok (.putfield 42, 3) := by decide +kernel
theorem dX5_clear_25 : decode cX5_clear 25 = .ok (.aload_n 0, 1) := by decide +kernel
theorem dX5_clear_26 : decode cX5_clear 26 = .ok (.iconst 0, 1) := by decide +kernel
theorem dX5_clear_27 : decode cX5_clear 27 = .ok (.putfield 45, 3) := by decide +kernel
theorem dX5_clear_30 : decode cX5_clear 30 = .ok (.aload_n 0, 1) := by decide +kernel
theorem dX5_clear_31 : decode cX5_clear 31 = .ok (.getfield 26, 3) := by decide +kernel
theorem dX5_clear_34 : decode cX5_clear 34 = .ok (.iconst 0, 1) := by decide +kernel
theorem dX5_clear_35 : decode cX5_clear 35 = .ok (.iconst 0, 1) := by decide +kernel
theorem dX5_clear_36 : decode cX5_clear 36 = .ok (.iastore, 1) := by decide +kernel
theorem dX5_clear_37 : decode cX5_clear 37 = .ok (.return_, 1) := by decide +kernel
theorem dX5_read_0 : decode cX5_read 0 = .ok (.aload_n 0, 1) := by decide +kernel
theorem dX5_read_1 : decode cX5_read 1 = .ok (.getfield 33, 3) := by decide +kernel
theorem dX5_read_4 : decode cX5_read 4 = .ok (.istore_n 1, 1) := by decide +kernel
theorem dX5_read_5 : decode cX5_read 5 = .ok (.aload_n 0, 1) := by decide +kernel
theorem dX5_read_6 : decode cX5_read 6 = .ok (.invokevirtual 48, 3) := by decide +kernel
theorem dX5_read_9 : decode cX5_read 9 = .ok (.aload_n 0, 1) := by decide +kernel
theorem dX5_read_10 : decode cX5_read 10 = .ok (.iconst 0, 1) := by decide +kernel
theorem dX5_read_11 : decode cX5_read 11 = .ok (.iload_n 1, 1) := by decide +kernel
theorem dX5_read_12 : decode cX5_read 12 = .ok (.invokevirtual 51, 3) := by decide +kernel
theorem dX5_read_15 : decode cX5_read 15 = .ok (.istore_n 2, 1) := by decide +kernel
theorem dX5_read_16 : decode cX5_read 16 = .ok (.iconst 0, 1) := by decide +kernel
theorem dX5_read_17 : decode cX5_read 17 = .ok (.istore_n 3, 1) := by decide +kernel
theorem dX5_read_18 : decode cX5_read 18 = .ok (.iload_n 3, 1) := by decide +kernel
theorem dX5_read_19 : decode cX5_read 19 = .ok (.sipush 1000, 3) := by decide +kernel
theorem dX5_read_22 : decode cX5_read 22 = .ok (.if_icmp .gt 65, 3) := by decide +kernel
theorem dX5_read_25 : decode cX5_read 25 = .ok (.iload_n 2, 1) := by decide +kernel
theorem dX5_read_26 : decode cX5_read 26 = .ok (.iload_n 1, 1) := by decide +kernel
theorem dX5_read_27 : decode cX5_read 27 = .ok (.if_icmp .ge 60, 3) := by decide +kernel
theorem dX5_read_30 : decode cX5_read 30 = .ok (.aload_n 0, 1) := by decide +kernel
theorem dX5_read_31 : decode cX5_read 31 = .ok (.getfield 36, 3) := by decide +kernel
theorem dX5_read_34 : decode cX5_read 34 = .ok (.ifCond .ne 53, 3) := by decide +kernel
theorem dX5_read_37 : decode cX5_read 37 = .ok (.aload_n 0, 1) := by decide +kernel
theorem dX5_read_38 : decode cX5_read 38 = .ok (.iload_n 2, 1) := by decide +kernel
theorem dX5_read_39 : decode cX5_read 39 = .ok (.iload_n 1, 1) := by decide +kernel
theorem dX5_read_40 : decode cX5_read 40 = .ok (.invokevirtual 55, 3) := by decide +kernel
theorem dX5_read_43 : decode cX5_read 43 = .ok (.istore 4, 2) := by decide +kernel
theorem dX5_read_45 : decode cX5_read 45 = .ok (.aload_n 0, 1) := by decide +kernel
theorem dX5_read_46 : decode cX5_read 46 = .ok (.aload_n 0, 1) := by decide +kernel
theorem dX5_read_47 : decode cX5_read 47 = .ok (.iload_n 2, 1) := by decide +kernel
theorem dX5_read_48 : decode cX5_read 48 = .ok (.iload 4, 2) := by decide +kernel
theorem dX5_read_50 : decode cX5_read 50 = .ok (.invokevirtual 58, 3) := by decide +kernel
theorem dX5_read_53 : decode cX5_read 53 = .ok (.putfield 36, 3) := by decide +kernel
theorem dX5_read_56 : decode cX5_read 56 = .ok (.aload_n 0, 1) := by decide +kernel
theorem dX5_read_57 : decode cX5_read 57 = .ok (.getfield 36, 3) := by decide +kernel
theorem dX5_read_60 : decode cX5_read 60 = .ok (.ifCond .ne 21, 3) := by decide +kernel
theorem dX5_read_63 : decode cX5_read 63 = .ok (.aload_n 0, 1) := by decide +kernel
theorem dX5_read_64 : decode cX5_read 64 = .ok (.aload_n 0, 1) := by decide +kernel
theorem dX5_read_65 : decode cX5_read 65 = .ok (.getfield 9, 3) := by decide +kernel
theorem dX5_read_68 : decode cX5_read 68 = .ok (.iload_n 2, 1) := by decide +kernel
theorem dX5_read_69 : decode cX5_read 69 = .ok (.caload, 1) := by decide +kernel
theorem dX5_read_70 : decode cX5_read 70 = .ok (.invokevirtual 61, 3) := by decide +kernel
theorem dX5_read_73 : decode cX5_read 73 = .ok (.aload_n 0, 1) := by decide +kernel
theorem dX5_read_74 : decode cX5_read 74 = .ok (.iload 4, 2) := by decide +kernel
theorem dX5_read_76 : decode cX5_read 76 = .ok (.iload_n 1, 1) := by decide +kernel
theorem dX5_read_77 : decode cX5_read 77 = .ok (.invokevirtual 51, 3) := by decide +kernel
theorem dX5_read_80 : decode cX5_read 80 = .ok (.istore_n 2, 1) := by decide +kernel
theorem dX5_read_81 : decode cX5_read 81 = .ok (.iinc 3 1, 3) := by decide +kernel
theorem dX5_read_84 : decode cX5_read 84 = .ok (.goto (-66), 3) := by decide +kernel
theorem dX5_read_87 : decode cX5_read 87 = .ok (.aload_n 0, 1) := by decide +kernel
theorem dX5_read_88 : decode cX5_read 88 = .ok (.getfield 36, 3) := by decide +kernel
theorem dX5_read_91 : decode cX5_read 91 = .ok (.ifCond .ne 18, 3) := by decide +kernel
theorem dX5_read_94 : decode cX5_read 94 = .ok (.aload_n 0, 1) := by decide +kernel
theorem dX5_read_95 : decode cX5_read 95 = .ok (.getfield 26, 3) := by decide +kernel
theorem dX5_read_98 : decode cX5_read 98 = .ok (.iconst 0, 1) := by decide +kernel
theorem dX5_read_99 : decode cX5_read 99 = .ok (.iaload, 1) := by decide +kernel
theorem dX5_read_100 : decode cX5_read 100 = .ok (.iconst 1, 1) := by decide +kernel
theorem dX5_read_101 : decode cX5_read 101 = .ok (.if_icmp .eq 8, 3) := by decide +kernel
theorem dX5_read_104 : decode cX5_read 104 = .ok (.aload_n 0, 1) := by decide +kernel
theorem dX5_read_105 : decode cX5_read 105 = .ok (.iconst 3, 1) := by decide +kernel
theorem dX5_read_106 : decode cX5_read 106 = .ok (.putfield 36, 3) := by decide +kernel
theorem dX5_read_109 : decode cX5_read 109 = .ok (.aload_n 0, 1) := by decide +kernel
theorem dX5_read_110 : decode cX5_read 110 = .ok (.getfield 36, 3) := by decide +kernel
theorem dX5_read_113 : decode cX5_read 113 = .ok (.ifCond .eq 10, 3) := by decide +kernel
theorem dX5_read_116 : decode cX5_read 116 = .ok (.aload_n 0, 1) := by decide +kernel
theorem dX5_read_117 : decode cX5_read 117 = .ok (.iload_n 2, 1) := by decide +kernel
theorem dX5_read_118 : decode cX5_read 118 = .ok (.putfield 15, 3) := by decide +kernel
theorem dX5_read_121 : decode cX5_read 121 = .ok (.iconst (-1), 1) := by decide +kernel
theorem dX5_read_122 : decode cX5_read 122 = .ok (.ireturn, 1) := by decide +kernel
theorem dX5_read_123 : decode cX5_read 123 = .ok (.aload_n 0, 1) := by decide +kernel
theorem dX5_read_124 : decode cX5_read 124 = .ok (.getfield 19, 3) := by decide +kernel
theorem dX5_read_127 : decode cX5_read 127 = .ok (.iconst 0, 1) := by decide +kernel
theorem dX5_read_128 : decode cX5_read 128 = .ok (.iaload, 1) := by decide +kernel
theorem dX5_read_129 : decode cX5_read 129 = .ok (.ireturn, 1) := by decide +kernel
theorem dX5_behindBlanks_0 : decode cX5_behindBlanks 0 = .ok (.iconst 0, 1) := by decide +kernel
theorem dX5_behindBlanks_1 : decode cX5_behindBlanks 1 = .ok (.istore_n 3, 1) := by decide +kernel
theorem dX5_behindBlanks_2 : decode cX5_behindBlanks 2 = .ok (.iload_n 1, 1) := by decide +kernel
theorem dX5_behindBlanks_3 : decode cX5_behindBlanks 3 = .ok (.istore 4, 2) := by decide +kernel
theorem dX5_behindBlanks_5 : decode cX5_behindBlanks 5 = .ok (.iload 4, 2) := by decide +kernel
theorem dX5_behindBlanks_7 : decode cX5_behindBlanks 7 = .ok (.iload_n 2, 1) := by decide +kernel
theorem dX5_behindBlanks_8 : decode cX5_behindBlanks 8 = .ok (.if_icmp .ge 56, 3) := by decide +kernel
theorem dX5_behindBlanks_11 : decode cX5_behindBlanks 11 = .ok (.aload_n 0, 1) := by decide +kernel
theorem dX5_behindBlanks_12 : decode cX5_behindBlanks 12 = .ok (.getfield 9, 3) := by decide +kernel
theorem dX5_behindBlanks_15 : decode cX5_behindBlanks 15 = .ok (.iload 4, 2) := by decide +kernel
theorem dX5_behindBlanks_17 : decode cX5_behindBlanks 17 = .ok (.caload, 1) := by decide +kernel
theorem dX5_behindBlanks_18 : decode cX5_behindBlanks 18 = .ok (.istore 5, 2) := by decide +kernel
theorem dX5_behindBlanks_20 : decode cX5_behindBlanks 20 = .ok (.iload 5, 2) := by decide +kernel
theorem dX5_behindBlanks_22 : decode cX5_behindBlanks 22 = .ok (.bipush 10, 2) := by decide +kernel
theorem dX5_behindBlanks_24 : decode cX5_behindBlanks 24 = .ok (.if_icmp .ne 8, 3) := by decide +kernel
theorem dX5_behindBlanks_27 : decode cX5_behindBlanks 27 = .ok (.iconst 0, 1) := by decide +kernel
theorem dX5_behindBlanks_28 : decode cX5_behindBlanks 28 = .ok (.istore_n 3, 1) := by decide +kernel
theorem dX5_behindBlanks_29 : decode cX5_behindBlanks 29 = .ok (.goto 29, 3) := by decide +kernel
theorem dX5_behindBlanks_32 : decode cX5_behindBlanks 32 = .ok (.iload 5, 2) := by decide +kernel
theorem dX5_behindBlanks_34 : decode cX5_behindBlanks 34 = .ok (.bipush 59, 2) := by decide +kernel
theorem dX5_behindBlanks_36 : decode cX5_behindBlanks 36 = .ok (.if_icmp .ne 8, 3) := by decide +kernel
theorem dX5_behindBlanks_39 : decode cX5_behindBlanks 39 = .ok (.iconst 1, 1) := by decide +kernel
theorem dX5_behindBlanks_40 : decode cX5_behindBlanks 40 = .ok (.istore_n 3, 1) := by decide +kernel
theorem dX5_behindBlanks_41 : decode cX5_behindBlanks 41 = .ok (.goto 17, 3) := by decide +kernel
theorem dX5_behindBlanks_44 : decode cX5_behindBlanks 44 = .ok (.iload 5, 2) := by decide +kernel
theorem dX5_behindBlanks_46 : decode cX5_behindBlanks 46 = .ok (.bipush 32, 2) := by decide +kernel
theorem dX5_behindBlanks_48 : decode cX5_behindBlanks 48 = .ok (.if_icmp .eq 10, 3) := by decide +kernel
theorem dX5_behindBlanks_51 : decode cX5_behindBlanks 51 = .ok (.iload_n 3, 1) := by decide +kernel
theorem dX5_behindBlanks_52 : decode cX5_behindBlanks 52 = .ok (.ifCond .ne 6, 3) := by decide +kernel
theorem dX5_behindBlanks_55 : decode cX5_behindBlanks 55 = .ok (.iload 4, 2) := by decide +kernel
theorem dX5_behindBlanks_57 : decode cX5_behindBlanks 57 = .ok (.ireturn, 1) := by decide +kernel
theorem dX5_behindBlanks_58 : decode cX5_behindBlanks 58 = .ok (.iinc 4 1, 3) := by decide +kernel
theorem dX5_behindBlanks_61 : decode cX5_behindBlanks 61 = .ok (.goto (-56), 3) := by decide +kernel
theorem dX5_behindBlanks_64 : decode cX5_behindBlanks 64 = .ok (.iload_n 2, 1) := by decide +kernel
theorem dX5_behindBlanks_65 : decode cX5_behindBlanks 65 = .ok (.ireturn, 1) := by decide +kernel
theorem dX5_behindWord_0 : decode cX5_behindWord 0 = .ok (.iload_n 1, 1) := by decide +kernel
theorem dX5_behindWord_1 : decode cX5_behindWord 1 = .ok (.istore_n 3, 1) := by decide +kernel
theorem dX5_behindWord_2 : decode cX5_behindWord 2 = .ok (.iload_n 3, 1) := by decide +kernel
theorem dX5_behindWord_3 : decode cX5_behindWord 3 = .ok (.iload_n 2, 1) := by decide +kernel
theorem dX5_behindWord_4 : decode cX5_behindWord 4 = .ok (.if_icmp .ge 21, 3) := by decide +kernel
theorem dX5_behindWord_7 : decode cX5_behindWord 7 = .ok (.aload_n 0, 1) := by decide +kernel
theorem dX5_behindWord_8 : decode cX5_behindWord 8 = .ok (.getfield 9, 3) := by decide +kernel
theorem dX5_behindWord_11 : decode cX5_behindWord 11 = .ok (.iload_n 3, 1) := by decide +kernel
theorem dX5_behindWord_12 : decode cX5_behindWord 12 = .ok (.caload, 1) := by decide +kernel
theorem dX5_behindWord_13 : decode cX5_behindWord 13 = .ok (.invokestatic 65, 3) := by decide +kernel
theorem dX5_behindWord_16 : decode cX5_behindWord 16 = .ok (.ifCond .eq 9, 3) := by decide +kernel
theorem dX5_behindWord_19 : decode cX5_behindWord 19 = .ok (.iinc 3 1, 3) := by decide +kernel
theorem dX5_behindWord_22 : decode cX5_behindWord 22 = .ok (.goto (-20), 3) := by decide +kernel
theorem dX5_behindWord_25 : decode cX5_behindWord 25 = .ok (.iload_n 3, 1) := by decide +kernel
theorem dX5_behindWord_26 : decode cX5_behindWord 26 = .ok (.iload_n 1, 1) := by decide +kernel
theorem dX5_behindWord_27 : decode cX5_behindWord 27 = .ok (.if_icmp .ne 9, 3) := by decide +kernel
theorem dX5_behindWord_30 : decode cX5_behindWord 30 = .ok (.iload_n 1, 1) := by decide +kernel
theorem dX5_behindWord_31 : decode cX5_behindWord 31 = .ok (.iconst 1, 1) := by decide +kernel
theorem dX5_behindWord_32 : decode cX5_behindWord 32 = .ok (.iadd, 1) := by decide +kernel
theorem dX5_behindWord_33 : decode cX5_behindWord 33 = .ok (.goto 4, 3) := by decide +kernel
theorem dX5_behindWord_36 : decode cX5_behindWord 36 = .ok (.iload_n 3, 1) := by decide +kernel
theorem dX5_behindWord_37 : decode cX5_behindWord 37 = .ok (.ireturn, 1) := by decide +kernel
theorem dX5_faultOfWord_0 : decode cX5_faultOfWord 0 = .ok (.aload_n 0, 1) := by decide +kernel
theorem dX5_faultOfWord_1 : decode cX5_faultOfWord 1 = .ok (.getfield 9, 3) := by decide +kernel
theorem dX5_faultOfWord_4 : decode cX5_faultOfWord 4 = .ok (.iload_n 1, 1) := by decide +kernel
theorem dX5_faultOfWord_5 : decode cX5_faultOfWord 5 = .ok (.caload, 1) := by decide +kernel
theorem dX5_faultOfWord_6 : decode cX5_faultOfWord 6 = .ok (.istore_n 3, 1) := by decide +kernel
theorem dX5_faultOfWord_7 : decode cX5_faultOfWord 7 = .ok (.iload_n 3, 1) := by decide +kernel
theorem dX5_faultOfWord_8 : decode cX5_faultOfWord 8 = .ok (.bipush 40, 2) := by decide +kernel
theorem dX5_faultOfWord_10 : decode cX5_faultOfWord 10 = .ok (.if_icmp .eq 9, 3) := by decide +kernel
theorem dX5_faultOfWord_13 : decode cX5_faultOfWord 13 = .ok (.iload_n 3, 1) := by decide +kernel
theorem dX5_faultOfWord_14 : decode cX5_faultOfWord 14 = .ok (.bipush 39, 2) := by decide +kernel
theorem dX5_faultOfWord_16 : decode cX5_faultOfWord 16 = .ok (.if_icmp .ne 7, 3) := by decide +kernel
theorem dX5_faultOfWord_19 : decode cX5_faultOfWord 19 = .ok (.iconst 1, 1) := by decide +kernel
theorem dX5_faultOfWord_20 : decode cX5_faultOfWord 20 = .ok (.goto 4, 3) := by decide +kernel
theorem dX5_faultOfWord_23 : decode cX5_faultOfWord 23 = .ok (.iconst 0, 1) := by decide +kernel
theorem dX5_faultOfWord_24 : decode cX5_faultOfWord 24 = .ok (.istore 4, 2) := by decide +kernel
theorem dX5_faultOfWord_26 : decode cX5_faultOfWord 26 = .ok (.iload 4, 2) := by decide +kernel
theorem dX5_faultOfWord_28 : decode cX5_faultOfWord 28 = .ok (.ifCond .ne 24, 3) := by decide +kernel
theorem dX5_faultOfWord_31 : decode cX5_faultOfWord 31 = .ok (.iload_n 3, 1) := by decide +kernel
theorem dX5_faultOfWord_32 : decode cX5_faultOfWord 32 = .ok (.bipush 41, 2) := by decide +kernel
theorem dX5_faultOfWord_34 : decode cX5_faultOfWord 34 = .ok (.if_icmp .eq 18, 3) := by decide +kernel
theorem dX5_faultOfWord_37 : decode cX5_faultOfWord 37 = .ok (.iload_n 3, 1) := by decide +kernel
theorem dX5_faultOfWord_38 : decode cX5_faultOfWord 38 = .ok (.bipush 46, 2) := by decide +kernel
theorem dX5_faultOfWord_40 : decode cX5_faultOfWord 40 = .ok (.if_icmp .eq 12, 3) := by decide +kernel
theorem dX5_faultOfWord_43 : decode cX5_faultOfWord 43 = .ok (.iload_n 3, 1) := by decide +kernel
theorem dX5_faultOfWord_44 : decode cX5_faultOfWord 44 = .ok (.invokestatic 65, 3) := by decide +kernel
theorem dX5_faultOfWord_47 : decode cX5_faultOfWord 47 = .ok (.ifCond .ne 5, 3) := by decide +kernel
theorem dX5_faultOfWord_50 : decode cX5_faultOfWord 50 = .ok (.iconst 1, 1) := by decide +kernel
theorem dX5_faultOfWord_51 : decode cX5_faultOfWord 51 = .ok (.ireturn, 1) := by decide +kernel
theorem dX5_faultOfWord_52 : decode cX5_faultOfWord 52 = .ok (.iload_n 3, 1) := by decide +kernel
theorem dX5_faultOfWord_53 : decode cX5_faultOfWord 53 = .ok (.invokestatic 65, 3) := by decide +kernel
theorem dX5_faultOfWord_56 : decode cX5_faultOfWord 56 = .ok (.ifCond .eq 14, 3) := by decide +kernel
theorem dX5_faultOfWord_59 : decode cX5_faultOfWord 59 = .ok (.aload_n 0, 1) := by decide +kernel
theorem dX5_faultOfWord_60 : decode cX5_faultOfWord 60 = .ok (.iload_n 1, 1) := by decide +kernel
theorem dX5_faultOfWord_61 : decode cX5_faultOfWord 61 = .ok (.iload_n 2, 1) := by decide +kernel
theorem dX5_faultOfWord_62 : decode cX5_faultOfWord 62 = .ok (.invokevirtual 69, 3) := by decide +kernel
theorem dX5_faultOfWord_65 : decode cX5_faultOfWord 65 = .ok (.ifCond .ne 5, 3) := by decide +kernel
theorem dX5_faultOfWord_68 : decode cX5_faultOfWord 68 = .ok (.iconst 2, 1) := by decide +kernel
theorem dX5_faultOfWord_69 : decode cX5_faultOfWord 69 = .ok (.ireturn, 1) := by decide +kernel
theorem dX5_faultOfWord_70 : decode cX5_faultOfWord 70 = .ok (.aload_n 0, 1) := by decide +kernel
theorem dX5_faultOfWord_71 : decode cX5_faultOfWord 71 = .ok (.iload_n 3, 1) := by decide +kernel
theorem dX5_faultOfWord_72 : decode cX5_faultOfWord 72 = .ok (.invokevirtual 73, 3) := by decide +kernel
theorem dX5_faultOfWord_75 : decode cX5_faultOfWord 75 = .ok (.ifCond .ne 5, 3) := by decide +kernel
theorem dX5_faultOfWord_78 : decode cX5_faultOfWord 78 = .ok (.iconst 3, 1) := by decide +kernel
theorem dX5_faultOfWord_79 : decode cX5_faultOfWord 79 = .ok (.ireturn, 1) := by decide +kernel
theorem dX5_faultOfWord_80 : decode cX5_faultOfWord 80 = .ok (.iload 4, 2) := by decide +kernel
theorem dX5_faultOfWord_82 : decode cX5_faultOfWord 82 = .ok (.ifCond .eq 14, 3) := by decide +kernel
theorem dX5_faultOfWord_85 : decode cX5_faultOfWord 85 = .ok (.aload_n 0, 1) := by decide +kernel
theorem dX5_faultOfWord_86 : decode cX5_faultOfWord 86 = .ok (.getfield 42, 3) := by decide +kernel
theorem dX5_faultOfWord_89 : decode cX5_faultOfWord 89 = .ok (.bipush 40, 2) := by decide +kernel
theorem dX5_faultOfWord_91 : decode cX5_faultOfWord 91 = .ok (.if_icmp .lt 5, 3) := by decide +kernel
theorem dX5_faultOfWord_94 : decode cX5_faultOfWord 94 = .ok (.iconst 4, 1) := by decide +kernel
theorem dX5_faultOfWord_95 : decode cX5_faultOfWord 95 = .ok (.ireturn, 1) := by decide +kernel
theorem dX5_faultOfWord_96 : decode cX5_faultOfWord 96 = .ok (.aload_n 0, 1) := by decide +kernel
theorem dX5_faultOfWord_97 : decode cX5_faultOfWord 97 = .ok (.getfield 45, 3) := by decide +kernel
theorem dX5_faultOfWord_100 : decode cX5_faultOfWord 100 = .ok (.sipush 1000, 3) := by decide +kernel
theorem dX5_faultOfWord_103 : decode cX5_faultOfWord 103 = .ok (.if_icmp .lt 7, 3) := by decide +kernel
theorem dX5_faultOfWord_106 : decode cX5_faultOfWord 106 = .ok (.iconst 5, 1) := by decide +kernel
theorem dX5_faultOfWord_107 : decode cX5_faultOfWord 107 = .ok (.goto 4, 3) := by decide +kernel
theorem dX5_faultOfWord_110 : decode cX5_faultOfWord 110 = .ok (.iconst 0, 1) := by decide +kernel
theorem dX5_faultOfWord_111 : decode cX5_faultOfWord 111 = .ok (.ireturn, 1) := by decide +kernel
theorem dX5_isAtomLetter_0 : decode cX5_isAtomLetter 0 = .ok (.ldc 76, 2) := by decide +kernel
theorem dX5_isAtomLetter_2 : decode cX5_isAtomLetter 2 = .ok (.iload_n 0, 1) := by decide +kernel
theorem dX5_isAtomLetter_3 : decode cX5_isAtomLetter 3 = .ok (.invokevirtual 78, 3) := by decide +kernel
theorem dX5_isAtomLetter_6 : decode cX5_isAtomLetter 6 = .ok (.ifCond .le 7, 3) := by decide +kernel
theorem dX5_isAtomLetter_9 : decode cX5_isAtomLetter 9 = .ok (.iconst 1, 1) := by decide +kernel
theorem dX5_isAtomLetter_10 : decode cX5_isAtomLetter 10 = .ok (.goto 4, 3) := by decide +kernel
theorem dX5_isAtomLetter_13 : decode cX5_isAtomLetter 13 = .ok (.iconst 0, 1) := by decide +kernel
theorem dX5_isAtomLetter_14 : decode cX5_isAtomLetter 14 = .ok (.ireturn, 1) := by decide +kernel
theorem dX5_scanAtom_0 : decode cX5_scanAtom 0 = .ok (.aload_n 0, 1) := by decide +kernel
theorem dX5_scanAtom_1 : decode cX5_scanAtom 1 = .ok (.iconst 1, 1) := by decide +kernel
theorem dX5_scanAtom_2 : decode cX5_scanAtom 2 = .ok (.putfield 84, 3) := by decide +kernel
theorem dX5_scanAtom_5 : decode cX5_scanAtom 5 = .ok (.aload_n 0, 1) := by decide +kernel
theorem dX5_scanAtom_6 : decode cX5_scanAtom 6 = .ok (.lconst 0, 1) := by decide +kernel
theorem dX5_scanAtom_7 : decode cX5_scanAtom 7 = .ok (.putfield 88, 3) := by decide +kernel
theorem dX5_scanAtom_10 : decode cX5_scanAtom 10 = .ok (.aload_n 0, 1) := by decide +kernel
theorem dX5_scanAtom_11 : decode cX5_scanAtom 11 = .ok (.lconst 0, 1) := by decide +kernel
theorem dX5_scanAtom_12 : decode cX5_scanAtom 12 = .ok (.putfield 92, 3) := by decide +kernel
theorem dX5_scanAtom_15 : decode cX5_scanAtom 15 = .ok (.iload_n 1, 1) := by decide +kernel
theorem dX5_scanAtom_16 : decode cX5_scanAtom 16 = .ok (.istore_n 3, 1) := by decide +kernel
theorem dX5_scanAtom_17 : decode cX5_scanAtom 17 = .ok (.iload_n 3, 1) := by decide +kernel
theorem dX5_scanAtom_18 : decode cX5_scanAtom 18 = .ok (.iload_n 2, 1) := by decide +kernel
theorem dX5_scanAtom_19 : decode cX5_scanAtom 19 = .ok (.if_icmp .ge 110, 3) := by decide +kernel
theorem dX5_scanAtom_22 : decode cX5_scanAtom 22 = .ok (.aload_n 0, 1) := by decide +kernel
theorem dX5_scanAtom_23 : decode cX5_scanAtom 23 = .ok (.getfield 9, 3) := by decide +kernel
theorem dX5_scanAtom_26 : decode cX5_scanAtom 26 = .ok (.iload_n 3, 1) := by decide +kernel
theorem dX5_scanAtom_27 : decode cX5_scanAtom 27 = .ok (.caload, 1) := by decide +kernel
theorem dX5_scanAtom_28 : decode cX5_scanAtom 28 = .ok (.bipush 48, 2) := by decide +kernel
theorem dX5_scanAtom_30 : decode cX5_scanAtom 30 = .ok (.isub, 1) := by decide +kernel
theorem dX5_scanAtom_31 : decode cX5_scanAtom 31 = .ok (.istore 4, 2) := by decide +kernel
theorem dX5_scanAtom_33 : decode cX5_scanAtom 33 = .ok (.aload_n 0, 1) := by decide +kernel
theorem dX5_scanAtom_34 : decode cX5_scanAtom 34 = .ok (.aload_n 0, 1) := by decide +kernel
theorem dX5_scanAtom_35 : decode cX5_scanAtom 35 = .ok (.getfield 92, 3) := by decide +kernel
theorem dX5_scanAtom_38 : decode cX5_scanAtom 38 = .ok (.ldc2_w 95, 3) := by decide +kernel
theorem dX5_scanAtom_41 : decode cX5_scanAtom 41 = .ok (.lmul, 1) := by decide +kernel
theorem dX5_scanAtom_42 : decode cX5_scanAtom 42 = .ok (.ldc 76, 2) := by decide +kernel
theorem dX5_scanAtom_44 : decode cX5_scanAtom 44 = .ok (.aload_n 0, 1) := by decide +kernel
theorem dX5_scanAtom_45 : decode cX5_scanAtom 45 = .ok (.getfield 9, 3) := by decide +kernel
theorem dX5_scanAtom_48 : decode cX5_scanAtom 48 = .ok (.iload_n 3, 1) := by decide +kernel
theorem dX5_scanAtom_49 : decode cX5_scanAtom 49 = .ok (.caload, 1) := by decide +kernel
theorem dX5_scanAtom_50 : decode cX5_scanAtom 50 = .ok (.invokevirtual 78, 3) := by decide +kernel
theorem dX5_scanAtom_53 : decode cX5_scanAtom 53 = .ok (.i2l, 1) := by decide +kernel
theorem dX5_scanAtom_54 : decode cX5_scanAtom 54 = .ok (.ladd, 1) := by decide +kernel
theorem dX5_scanAtom_55 : decode cX5_scanAtom 55 = .ok (.putfield 92, 3) := by decide +kernel
theorem dX5_scanAtom_58 : decode cX5_scanAtom 58 = .ok (.iload 4, 2) := by decide +kernel
theorem dX5_scanAtom_60 : decode cX5_scanAtom 60 = .ok (.ifCond .lt 10, 3) := by decide +kernel
theorem dX5_scanAtom_63 : decode cX5_scanAtom 63 = .ok (.iload 4, 2) := by decide +kernel
theorem dX5_scanAtom_65 : decode cX5_scanAtom 65 = .ok (.bipush 9, 2) := by decide +kernel
theorem dX5_scanAtom_67 : decode cX5_scanAtom 67 = .ok (.if_icmp .le 11, 3) := by decide +kernel
theorem dX5_scanAtom_70 : decode cX5_scanAtom 70 = .ok (.aload_n 0, 1) := by decide +kernel
theorem dX5_scanAtom_71 : decode cX5_scanAtom 71 = .ok (.iconst 0, 1) := by decide +kernel
theorem dX5_scanAtom_72 : decode cX5_scanAtom 72 = .ok (.putfield 84, 3) := by decide +kernel
theorem dX5_scanAtom_75 : decode cX5_scanAtom 75 = .ok (.goto 48, 3) := by decide +kernel
theorem dX5_scanAtom_78 : decode cX5_scanAtom 78 = .ok (.aload_n 0, 1) := by decide +kernel
theorem dX5_scanAtom_79 : decode cX5_scanAtom 79 = .ok (.getfield 88, 3) := by decide +kernel
theorem dX5_scanAtom_82 : decode cX5_scanAtom 82 = .ok (.ldc2_w 97, 3) := by decide +kernel
theorem dX5_scanAtom_85 : decode cX5_scanAtom 85 = .ok (.iload 4, 2) := by decide +kernel
theorem dX5_scanAtom_87 : decode cX5_scanAtom 87 = .ok (.i2l, 1) := by decide +kernel
theorem dX5_scanAtom_88 : decode cX5_scanAtom 88 = .ok (.lsub, 1) := by decide +kernel
theorem dX5_scanAtom_89 : decode cX5_scanAtom 89 = .ok (.ldc2_w 99, 3) := by decide +kernel
theorem dX5_scanAtom_92 : decode cX5_scanAtom 92 = .ok (.ldiv, 1) := by decide +kernel
theorem dX5_scanAtom_93 : decode cX5_scanAtom 93 = .ok (.lcmp, 1) := by decide +kernel
theorem dX5_scanAtom_94 : decode cX5_scanAtom 94 = .ok (.ifCond .le 13, 3) := by decide +kernel
theorem dX5_scanAtom_97 : decode cX5_scanAtom 97 = .ok (.aload_n 0, 1) := by decide +kernel
theorem dX5_scanAtom_98 : decode cX5_scanAtom 98 = .ok (.ldc2_w 101, 3) := by decide +kernel
theorem dX5_scanAtom_101 : decode cX5_scanAtom 101 = .ok (.putfield 88, 3) := by decide +kernel
theorem dX5_scanAtom_104 : decode cX5_scanAtom 104 = .ok (.goto 19, 3) := by decide +kernel
theorem dX5_scanAtom_107 : decode cX5_scanAtom 107 = .ok (.aload_n 0, 1) := by decide +kernel
theorem dX5_scanAtom_108 : decode cX5_scanAtom 108 = .ok (.aload_n 0, 1) := by decide +kernel
theorem dX5_scanAtom_109 : decode cX5_scanAtom 109 = .ok (.getfield 88, 3) := by decide +kernel
theorem dX5_scanAtom_112 : decode cX5_scanAtom 112 = .ok (.ldc2_w 99, 3) := by decide +kernel
theorem dX5_scanAtom_115 : decode cX5_scanAtom 115 = .ok (.lmul, 1) := by decide +kernel
theorem dX5_scanAtom_116 : decode cX5_scanAtom 116 = .ok (.iload 4, 2) := by decide +kernel
theorem dX5_scanAtom_118 : decode cX5_scanAtom 118 = .ok (.i2l, 1) := by decide +kernel
theorem dX5_scanAtom_119 : decode cX5_scanAtom 119 = .ok (.ladd, 1) := by decide +kernel
theorem dX5_scanAtom_120 : decode cX5_scanAtom 120 = .ok (.putfield 88, 3) := by decide +kernel
theorem dX5_scanAtom_123 : decode cX5_scanAtom 123 = .ok (.iinc 3 1, 3) := by decide +kernel
theorem dX5_scanAtom_126 : decode cX5_scanAtom 126 = .ok (.goto (-109), 3) := by decide +kernel
theorem dX5_scanAtom_129 : decode cX5_scanAtom 129 = .ok (.aload_n 0, 1) := by decide +kernel
theorem dX5_scanAtom_130 : decode cX5_scanAtom 130 = .ok (.getfield 84, 3) := by decide +kernel
theorem dX5_scanAtom_133 : decode cX5_scanAtom 133 = .ok (.ifCond .eq 22, 3) := by decide +kernel
theorem dX5_scanAtom_136 : decode cX5_scanAtom 136 = .ok (.aload_n 0, 1) := by decide +kernel
theorem dX5_scanAtom_137 : decode cX5_scanAtom 137 = .ok (.getfield 88, 3) := by decide +kernel
theorem dX5_scanAtom_140 : decode cX5_scanAtom 140 = .ok (.ldc2_w 97, 3) := by decide +kernel
theorem dX5_scanAtom_143 : decode cX5_scanAtom 143 = .ok (.lcmp, 1) := by decide +kernel
theorem dX5_scanAtom_144 : decode cX5_scanAtom 144 = .ok (.ifCond .gt 7, 3) := by decide +kernel
theorem dX5_scanAtom_147 : decode cX5_scanAtom 147 = .ok (.iconst 1, 1) := by decide +kernel
theorem dX5_scanAtom_148 : decode cX5_scanAtom 148 = .ok (.goto 20, 3) := by decide +kernel
theorem dX5_scanAtom_151 : decode cX5_scanAtom 151 = .ok (.iconst 0, 1) := by decide +kernel
theorem dX5_scanAtom_152 : decode cX5_scanAtom 152 = .ok (.goto 16, 3) := by decide +kernel
theorem dX5_scanAtom_155 : decode cX5_scanAtom 155 = .ok (.iload_n 2, 1) := by decide +kernel
theorem dX5_scanAtom_156 : decode cX5_scanAtom 156 = .ok (.iload_n 1, 1) := by decide +kernel
theorem dX5_scanAtom_157 : decode cX5_scanAtom 157 = .ok (.isub, 1) := by decide +kernel
theorem dX5_scanAtom_158 : decode cX5_scanAtom 158 = .ok (.bipush 11, 2) := by decide +kernel
theorem dX5_scanAtom_160 : decode cX5_scanAtom 160 = .ok (.if_icmp .gt 7, 3) := by decide +kernel
theorem dX5_scanAtom_163 : decode cX5_scanAtom 163 = .ok (.iconst 1, 1) := by decide +kernel
theorem dX5_scanAtom_164 : decode cX5_scanAtom 164 = .ok (.goto 4, 3) := by decide +kernel
theorem dX5_scanAtom_167 : decode cX5_scanAtom 167 = .ok (.iconst 0, 1) := by decide +kernel
theorem dX5_scanAtom_168 : decode cX5_scanAtom 168 = .ok (.ireturn, 1) := by decide +kernel
theorem dX5_mayStand_0 : decode cX5_mayStand 0 = .ok (.aload_n 0, 1) := by decide +kernel
theorem dX5_mayStand_1 : decode cX5_mayStand 1 = .ok (.getfield 26, 3) := by decide +kernel
theorem dX5_mayStand_4 : decode cX5_mayStand 4 = .ok (.aload_n 0, 1) := by decide +kernel
theorem dX5_mayStand_5 : decode cX5_mayStand 5 = .ok (.getfield 42, 3) := by decide +kernel
theorem dX5_mayStand_8 : decode cX5_mayStand 8 = .ok (.iaload, 1) := by decide +kernel
theorem dX5_mayStand_9 : decode cX5_mayStand 9 = .ok (.istore_n 2, 1) := by decide +kernel
theorem dX5_mayStand_10 : decode cX5_mayStand 10 = .ok (.iload_n 1, 1) := by decide +kernel
theorem dX5_mayStand_11 : decode cX5_mayStand 11 = .ok (.bipush 41, 2) := by decide +kernel
theorem dX5_mayStand_13 : decode cX5_mayStand 13 = .ok (.if_icmp .ne 24, 3) := by decide +kernel
theorem dX5_mayStand_16 : decode cX5_mayStand 16 = .ok (.iload_n 2, 1) := by decide +kernel
theorem dX5_mayStand_17 : decode cX5_mayStand 17 = .ok (.iconst 2, 1) := by decide +kernel
theorem dX5_mayStand_18 : decode cX5_mayStand 18 = .ok (.if_icmp .eq 13, 3) := by decide +kernel
theorem dX5_mayStand_21 : decode cX5_mayStand 21 = .ok (.iload_n 2, 1) := by decide +kernel
theorem dX5_mayStand_22 : decode cX5_mayStand 22 = .ok (.iconst 3, 1) := by decide +kernel
theorem dX5_mayStand_23 : decode cX5_mayStand 23 = .ok (.if_icmp .eq 8, 3) := by decide +kernel
theorem dX5_mayStand_26 : decode cX5_mayStand 26 = .ok (.iload_n 2, 1) := by decide +kernel
theorem dX5_mayStand_27 : decode cX5_mayStand 27 = .ok (.iconst 5, 1) := by decide +kernel
theorem dX5_mayStand_28 : decode cX5_mayStand 28 = .ok (.if_icmp .ne 7, 3) := by decide +kernel
theorem dX5_mayStand_31 : decode cX5_mayStand 31 = .ok (.iconst 1, 1) := by decide +kernel
theorem dX5_mayStand_32 : decode cX5_mayStand 32 = .ok (.goto 4, 3) := by decide +kernel
theorem dX5_mayStand_35 : decode cX5_mayStand 35 = .ok (.iconst 0, 1) := by decide +kernel
theorem dX5_mayStand_36 : decode cX5_mayStand 36 = .ok (.ireturn, 1) := by decide +kernel
theorem dX5_mayStand_37 : decode cX5_mayStand 37 = .ok (.iload_n 1, 1) := by decide +kernel
theorem dX5_mayStand_38 : decode cX5_mayStand 38 = .ok (.bipush 46, 2) := by decide +kernel
theorem dX5_mayStand_40 : decode cX5_mayStand 40 = .ok (.if_icmp .ne 14, 3) := by decide +kernel
theorem dX5_mayStand_43 : decode cX5_mayStand 43 = .ok (.iload_n 2, 1) := by decide +kernel
theorem dX5_mayStand_44 : decode cX5_mayStand 44 = .ok (.iconst 3, 1) := by decide +kernel
theorem dX5_mayStand_45 : decode cX5_mayStand 45 = .ok (.if_icmp .ne 7, 3) := by decide +kernel
theorem dX5_mayStand_48 : decode cX5_mayStand 48 = .ok (.iconst 1, 1) := by decide +kernel
theorem dX5_mayStand_49 : decode cX5_mayStand 49 = .ok (.goto 4, 3) := by decide +kernel
theorem dX5_mayStand_52 : decode cX5_mayStand 52 = .ok (.iconst 0, 1) := by decide +kernel
theorem dX5_mayStand_53 : decode cX5_mayStand 53 = .ok (.ireturn, 1) := by decide +kernel
theorem dX5_mayStand_54 : decode cX5_mayStand 54 = .ok (.iload_n 2, 1) := by decide +kernel
theorem dX5_mayStand_55 : decode cX5_mayStand 55 = .ok (.iconst 5, 1) := by decide +kernel
theorem dX5_mayStand_56 : decode cX5_mayStand 56 = .ok (.if_icmp .eq 12, 3) := by decide +kernel
theorem dX5_mayStand_59 : decode cX5_mayStand 59 = .ok (.iload_n 2, 1) := by decide +kernel
theorem dX5_mayStand_60 : decode cX5_mayStand 60 = .ok (.iconst 1, 1) := by decide +kernel
theorem dX5_mayStand_61 : decode cX5_mayStand 61 = .ok (.if_icmp .eq 7, 3) := by decide +kernel
theorem dX5_mayStand_64 : decode cX5_mayStand 64 = .ok (.iconst 1, 1) := by decide +kernel
theorem dX5_mayStand_65 : decode cX5_mayStand 65 = .ok (.goto 4, 3) := by decide +kernel
theorem dX5_mayStand_68 : decode cX5_mayStand 68 = .ok (.iconst 0, 1) := by decide +kernel
theorem dX5_mayStand_69 : decode cX5_mayStand 69 = .ok (.ireturn, 1) := by decide +kernel
theorem dX5_take_0 : decode cX5_take 0 = .ok (.aload_n 0, 1) := by decide +kernel
theorem dX5_take_1 : decode cX5_take 1 = .ok (.dup, 1) := by decide +kernel
theorem dX5_take_2 : decode cX5_take 2 = .ok (.getfield 45, 3) := by decide +kernel
theorem dX5_take_5 : decode cX5_take 5 = .ok (.iconst 1, 1) := by decide +kernel
theorem dX5_take_6 : decode cX5_take 6 = .ok (.iadd, 1) := by decide +kernel
theorem dX5_take_7 : decode cX5_take 7 = .ok (.putfield 45, 3) := by decide +kernel
theorem dX5_take_10 : decode cX5_take 10 = .ok (.iload_n 1, 1) := by decide +kernel
theorem dX5_take_11 : decode cX5_take 11 = .ok (.tableswitch 82 39 46 #[53, 45, 75, 82, 82, 82, 82, 62], 45) := by decide +kernel
theorem dX5_take_56 : decode cX5_take 56 = .ok (.aload_n 0, 1) := by decide +kernel
theorem dX5_take_57 : decode cX5_take 57 = .ok (.iconst 2, 1) := by decide +kernel
theorem dX5_take_58 : decode cX5_take 58 = .ok (.invokevirtual 103, 3) := by decide +kernel
theorem dX5_take_61 : decode cX5_take 61 = .ok (.goto 68, 3) := by decide +kernel
theorem dX5_take_64 : decode cX5_take 64 = .ok (.aload_n 0, 1) := by decide +kernel
theorem dX5_take_65 : decode cX5_take 65 = .ok (.bipush 6, 2) := by decide +kernel
theorem dX5_take_67 : decode cX5_take 67 = .ok (.invokevirtual 103, 3) := by decide +kernel
theorem dX5_take_70 : decode cX5_take 70 = .ok (.goto 59, 3) := by decide +kernel
theorem dX5_take_73 : decode cX5_take 73 = .ok (.aload_n 0, 1) := by decide +kernel
theorem dX5_take_74 : decode cX5_take 74 = .ok (.getfield 26, 3) := by decide +kernel
theorem dX5_take_77 : decode cX5_take 77 = .ok (.aload_n 0, 1) := by decide +kernel
theorem dX5_take_78 : decode cX5_take 78 = .ok (.getfield 42, 3) := by decide +kernel
theorem dX5_take_81 : decode cX5_take 81 = .ok (.iconst 4, 1) := by decide +kernel
theorem dX5_take_82 : decode cX5_take 82 = .ok (.iastore, 1) := by decide +kernel
theorem dX5_take_83 : decode cX5_take 83 = .ok (.goto 46, 3) := by decide +kernel
theorem dX5_take_86 : decode cX5_take 86 = .ok (.aload_n 0, 1) := by decide +kernel
theorem dX5_take_87 : decode cX5_take 87 = .ok (.invokevirtual 107, 3) := by decide +kernel
theorem dX5_take_90 : decode cX5_take 90 = .ok (.goto 39, 3) := by decide +kernel
theorem dX5_take_93 : decode cX5_take 93 = .ok (.aload_n 0, 1) := by decide +kernel
theorem dX5_take_94 : decode cX5_take 94 = .ok (.aload_n 0, 1) := by decide +kernel
theorem dX5_take_95 : decode cX5_take 95 = .ok (.getfield 84, 3) := by decide +kernel
theorem dX5_take_98 : decode cX5_take 98 = .ok (.ifCond .eq 17, 3) := by decide +kernel
theorem dX5_take_101 : decode cX5_take 101 = .ok (.aload_n 0, 1) := by decide +kernel
theorem dX5_take_102 : decode cX5_take 102 = .ok (.getfield 29, 3) := by decide +kernel
theorem dX5_take_105 : decode cX5_take 105 = .ok (.aload_n 0, 1) := by decide +kernel
theorem dX5_take_106 : decode cX5_take 106 = .ok (.getfield 88, 3) := by decide +kernel
theorem dX5_take_109 : decode cX5_take 109 = .ok (.invokevirtual 110, 3) := by decide +kernel
theorem dX5_take_112 : decode cX5_take 112 = .ok (.goto 14, 3) := by decide +kernel
theorem dX5_take_115 : decode cX5_take 115 = .ok (.aload_n 0, 1) := by decide +kernel
theorem dX5_take_116 : decode cX5_take 116 = .ok (.getfield 29, 3) := by decide +kernel
theorem dX5_take_119 : decode cX5_take 119 = .ok (.aload_n 0, 1) := by decide +kernel
theorem dX5_take_120 : decode cX5_take 120 = .ok (.getfield 92, 3) := by decide +kernel
theorem dX5_take_123 : decode cX5_take 123 = .ok (.invokevirtual 116, 3) := by decide +kernel
theorem dX5_take_126 : decode cX5_take 126 = .ok (.invokevirtual 119, 3) := by decide +kernel
theorem dX5_take_129 : decode cX5_take 129 = .ok (.return_, 1) := by decide +kernel
theorem dX5_openAt_0 : decode cX5_openAt 0 = .ok (.aload_n 0, 1) := by decide +kernel
theorem dX5_openAt_1 : decode cX5_openAt 1 = .ok (.getfield 42, 3) := by decide +kernel
theorem dX5_openAt_4 : decode cX5_openAt 4 = .ok (.bipush 40, 2) := by decide +kernel
theorem dX5_openAt_6 : decode cX5_openAt 6 = .ok (.if_icmp .ge 36, 3) := by decide +kernel
theorem dX5_openAt_9 : decode cX5_openAt 9 = .ok (.aload_n 0, 1) := by decide +kernel
theorem dX5_openAt_10 : decode cX5_openAt 10 = .ok (.dup, 1) := by decide +kernel
theorem dX5_openAt_11 : decode cX5_openAt 11 = .ok (.getfield 42, 3) := by decide +kernel
theorem dX5_openAt_14 : decode cX5_openAt 14 = .ok (.iconst 1, 1) := by decide +kernel
theorem dX5_openAt_15 : decode cX5_openAt 15 = .ok (.iadd, 1) := by decide +kernel
theorem dX5_openAt_16 : decode cX5_openAt 16 = .ok (.putfield 42, 3) := by decide +kernel
theorem dX5_openAt_19 : decode cX5_openAt 19 = .ok (.aload_n 0, 1) := by decide +kernel
theorem dX5_openAt_20 : decode cX5_openAt 20 = .ok (.getfield 26, 3) := by decide +kernel
theorem dX5_openAt_23 : decode cX5_openAt 23 = .ok (.aload_n 0, 1) := by decide +kernel
theorem dX5_openAt_24 : decode cX5_openAt 24 = .ok (.getfield 42, 3) := by decide +kernel
theorem dX5_openAt_27 : decode cX5_openAt 27 = .ok (.iload_n 1, 1) := by decide +kernel
theorem dX5_openAt_28 : decode cX5_openAt 28 = .ok (.iastore, 1) := by decide +kernel
theorem dX5_openAt_29 : decode cX5_openAt 29 = .ok (.aload_n 0, 1) := by decide +kernel
theorem dX5_openAt_30 : decode cX5_openAt 30 = .ok (.getfield 23, 3) := by decide +kernel
theorem dX5_openAt_33 : decode cX5_openAt 33 = .ok (.aload_n 0, 1) := by decide +kernel
theorem dX5_openAt_34 : decode cX5_openAt 34 = .ok (.getfield 42, 3) := by decide +kernel
theorem dX5_openAt_37 : decode cX5_openAt 37 = .ok (.aload_n 0, 1) := by decide +kernel
theorem dX5_openAt_38 : decode cX5_openAt 38 = .ok (.getfield 39, 3) := by decide +kernel
theorem dX5_openAt_41 : decode cX5_openAt 41 = .ok (.iastore, 1) := by decide +kernel
theorem dX5_openAt_42 : decode cX5_openAt 42 = .ok (.return_, 1) := by decide +kernel
theorem dX5_closeList_0 : decode cX5_closeList 0 = .ok (.iconst 0, 1) := by decide +kernel
theorem dX5_closeList_1 : decode cX5_closeList 1 = .ok (.istore_n 1, 1) := by decide +kernel
theorem dX5_closeList_2 : decode cX5_closeList 2 = .ok (.aload_n 0, 1) := by decide +kernel
theorem dX5_closeList_3 : decode cX5_closeList 3 = .ok (.getfield 26, 3) := by decide +kernel
theorem dX5_closeList_6 : decode cX5_closeList 6 = .ok (.aload_n 0, 1) := by decide +kernel
theorem dX5_closeList_7 : decode cX5_closeList 7 = .ok (.getfield 42, 3) := by decide +kernel
theorem dX5_closeList_10 : decode cX5_closeList 10 = .ok (.iaload, 1) := by decide +kernel
theorem dX5_closeList_11 : decode cX5_closeList 11 = .ok (.iconst 5, 1) := by decide +kernel
theorem dX5_closeList_12 : decode cX5_closeList 12 = .ok (.if_icmp .ne 30, 3) := by decide +kernel
theorem dX5_closeList_15 : decode cX5_closeList 15 = .ok (.aload_n 0, 1) := by decide +kernel
theorem dX5_closeList_16 : decode cX5_closeList 16 = .ok (.getfield 39, 3) := by decide +kernel
theorem dX5_closeList_19 : decode cX5_closeList 19 = .ok (.ifCond .le 23, 3) := by decide +kernel
theorem dX5_closeList_22 : decode cX5_closeList 22 = .ok (.aload_n 0, 1) := by decide +kernel
theorem dX5_closeList_23 : decode cX5_closeList 23 = .ok (.dup, 1) := by decide +kernel
theorem dX5_closeList_24 : decode cX5_closeList 24 = .ok (.getfield 39, 3) := by decide +kernel
theorem dX5_closeList_27 : decode cX5_closeList 27 = .ok (.iconst 1, 1) := by decide +kernel
theorem dX5_closeList_28 : decode cX5_closeList 28 = .ok (.isub, 1) := by decide +kernel
theorem dX5_closeList_29 : decode cX5_closeList 29 = .ok (.putfield 39, 3) := by decide +kernel
theorem dX5_closeList_32 : decode cX5_closeList 32 = .ok (.aload_n 0, 1) := by decide +kernel
theorem dX5_closeList_33 : decode cX5_closeList 33 = .ok (.getfield 19, 3) := by decide +kernel
theorem dX5_closeList_36 : decode cX5_closeList 36 = .ok (.aload_n 0, 1) := by decide +kernel
theorem dX5_closeList_37 : decode cX5_closeList 37 = .ok (.getfield 39, 3) := by decide +kernel
theorem dX5_closeList_40 : decode cX5_closeList 40 = .ok (.iaload, 1) := by decide +kernel
theorem dX5_closeList_41 : decode cX5_closeList 41 = .ok (.istore_n 1, 1) := by decide +kernel
theorem dX5_closeList_42 : decode cX5_closeList 42 = .ok (.aload_n 0, 1) := by decide +kernel
theorem dX5_closeList_43 : decode cX5_closeList 43 = .ok (.getfield 39, 3) := by decide +kernel
theorem dX5_closeList_46 : decode cX5_closeList 46 = .ok (.aload_n 0, 1) := by decide +kernel
theorem dX5_closeList_47 : decode cX5_closeList 47 = .ok (.getfield 23, 3) := by decide +kernel
theorem dX5_closeList_50 : decode cX5_closeList 50 = .ok (.aload_n 0, 1) := by decide +kernel
theorem dX5_closeList_51 : decode cX5_closeList 51 = .ok (.getfield 42, 3) := by decide +kernel
theorem dX5_closeList_54 : decode cX5_closeList 54 = .ok (.iaload, 1) := by decide +kernel
theorem dX5_closeList_55 : decode cX5_closeList 55 = .ok (.if_icmp .le 41, 3) := by decide +kernel
theorem dX5_closeList_58 : decode cX5_closeList 58 = .ok (.aload_n 0, 1) := by decide +kernel
theorem dX5_closeList_59 : decode cX5_closeList 59 = .ok (.getfield 39, 3) := by decide +kernel
theorem dX5_closeList_62 : decode cX5_closeList 62 = .ok (.ifCond .le 34, 3) := by decide +kernel
theorem dX5_closeList_65 : decode cX5_closeList 65 = .ok (.aload_n 0, 1) := by decide +kernel
theorem dX5_closeList_66 : decode cX5_closeList 66 = .ok (.dup, 1) := by decide +kernel
theorem dX5_closeList_67 : decode cX5_closeList 67 = .ok (.getfield 39, 3) := by decide +kernel
theorem dX5_closeList_70 : decode cX5_closeList 70 = .ok (.iconst 1, 1) := by decide +kernel
theorem dX5_closeList_71 : decode cX5_closeList 71 = .ok (.isub, 1) := by decide +kernel
theorem dX5_closeList_72 : decode cX5_closeList 72 = .ok (.putfield 39, 3) := by decide +kernel
theorem dX5_closeList_75 : decode cX5_closeList 75 = .ok (.aload_n 0, 1) := by decide +kernel
theorem dX5_closeList_76 : decode cX5_closeList 76 = .ok (.getfield 29, 3) := by decide +kernel
theorem dX5_closeList_79 : decode cX5_closeList 79 = .ok (.aload_n 0, 1) := by decide +kernel
theorem dX5_closeList_80 : decode cX5_closeList 80 = .ok (.getfield 19, 3) := by decide +kernel
theorem dX5_closeList_83 : decode cX5_closeList 83 = .ok (.aload_n 0, 1) := by decide +kernel
theorem dX5_closeList_84 : decode cX5_closeList 84 = .ok (.getfield 39, 3) := by decide +kernel
theorem dX5_closeList_87 : decode cX5_closeList 87 = .ok (.iaload, 1) := by decide +kernel
theorem dX5_closeList_88 : decode cX5_closeList 88 = .ok (.iload_n 1, 1) := by decide +kernel
theorem dX5_closeList_89 : decode cX5_closeList 89 = .ok (.invokevirtual 122, 3) := by decide +kernel
theorem dX5_closeList_92 : decode cX5_closeList 92 = .ok (.istore_n 1, 1) := by decide +kernel
theorem dX5_closeList_93 : decode cX5_closeList 93 = .ok (.goto (-51), 3) := by decide +kernel
theorem dX5_closeList_96 : decode cX5_closeList 96 = .ok (.aload_n 0, 1) := by decide +kernel
theorem dX5_closeList_97 : decode cX5_closeList 97 = .ok (.getfield 42, 3) := by decide +kernel
theorem dX5_closeList_100 : decode cX5_closeList 100 = .ok (.ifCond .le 13, 3) := by decide +kernel
theorem dX5_closeList_103 : decode cX5_closeList 103 = .ok (.aload_n 0, 1) := by decide +kernel
theorem dX5_closeList_104 : decode cX5_closeList 104 = .ok (.dup, 1) := by decide +kernel
theorem dX5_closeList_105 : decode cX5_closeList 105 = .ok (.getfield 42, 3) := by decide +kernel
theorem dX5_closeList_108 : decode cX5_closeList 108 = .ok (.iconst 1, 1) := by decide +kernel
theorem dX5_closeList_109 : decode cX5_closeList 109 = .ok (.isub, 1) := by decide +kernel
theorem dX5_closeList_110 : decode cX5_closeList 110 = .ok (.putfield 42, 3) := by decide +kernel
theorem dX5_closeList_113 : decode cX5_closeList 113 = .ok (.aload_n 0, 1) := by decide +kernel
theorem dX5_closeList_114 : decode cX5_closeList 114 = .ok (.iload_n 1, 1) := by decide +kernel
theorem dX5_closeList_115 : decode cX5_closeList 115 = .ok (.invokevirtual 119, 3) := by decide +kernel
theorem dX5_closeList_118 : decode cX5_closeList 118 = .ok (.return_, 1) := by decide +kernel
theorem dX5_finish_0 : decode cX5_finish 0 = .ok (.iload_n 1, 1) := by decide +kernel
theorem dX5_finish_1 : decode cX5_finish 1 = .ok (.istore_n 2, 1) := by decide +kernel
theorem dX5_finish_2 : decode cX5_finish 2 = .ok (.aload_n 0, 1) := by decide +kernel
theorem dX5_finish_3 : decode cX5_finish 3 = .ok (.getfield 42, 3) := by decide +kernel
theorem dX5_finish_6 : decode cX5_finish 6 = .ok (.ifCond .le 48, 3) := by decide +kernel
theorem dX5_finish_9 : decode cX5_finish 9 = .ok (.aload_n 0, 1) := by decide +kernel
theorem dX5_finish_10 : decode cX5_finish 10 = .ok (.getfield 26, 3) := by decide +kernel
theorem dX5_finish_13 : decode cX5_finish 13 = .ok (.aload_n 0, 1) := by decide +kernel
theorem dX5_finish_14 : decode cX5_finish 14 = .ok (.getfield 42, 3) := by decide +kernel
theorem dX5_finish_17 : decode cX5_finish 17 = .ok (.iaload, 1) := by decide +kernel
theorem dX5_finish_18 : decode cX5_finish 18 = .ok (.bipush 6, 2) := by decide +kernel
theorem dX5_finish_20 : decode cX5_finish 20 = .ok (.if_icmp .ne 34, 3) := by decide +kernel
theorem dX5_finish_23 : decode cX5_finish 23 = .ok (.aload_n 0, 1) := by decide +kernel
theorem dX5_finish_24 : decode cX5_finish 24 = .ok (.dup, 1) := by decide +kernel
theorem dX5_finish_25 : decode cX5_finish 25 = .ok (.getfield 42, 3) := by decide +kernel
theorem dX5_finish_28 : decode cX5_finish 28 = .ok (.iconst 1, 1) := by decide +kernel
theorem dX5_finish_29 : decode cX5_finish 29 = .ok (.isub, 1) := by decide +kernel
theorem dX5_finish_30 : decode cX5_finish 30 = .ok (.putfield 42, 3) := by decide +kernel
theorem dX5_finish_33 : decode cX5_finish 33 = .ok (.aload_n 0, 1) := by decide +kernel
theorem dX5_finish_34 : decode cX5_finish 34 = .ok (.getfield 29, 3) := by decide +kernel
theorem dX5_finish_37 : decode cX5_finish 37 = .ok (.iconst 2, 1) := by decide +kernel
theorem dX5_finish_38 : decode cX5_finish 38 = .ok (.aload_n 0, 1) := by decide +kernel
theorem dX5_finish_39 : decode cX5_finish 39 = .ok (.getfield 29, 3) := by decide +kernel
theorem dX5_finish_42 : decode cX5_finish 42 = .ok (.iload_n 2, 1) := by decide +kernel
theorem dX5_finish_43 : decode cX5_finish 43 = .ok (.iconst 0, 1) := by decide +kernel
theorem dX5_finish_44 : decode cX5_finish 44 = .ok (.invokevirtual 122, 3) := by decide +kernel
theorem dX5_finish_47 : decode cX5_finish 47 = .ok (.invokevirtual 122, 3) := by decide +kernel
theorem dX5_finish_50 : decode cX5_finish 50 = .ok (.istore_n 2, 1) := by decide +kernel
theorem dX5_finish_51 : decode cX5_finish 51 = .ok (.goto (-49), 3) := by decide +kernel
theorem dX5_finish_54 : decode cX5_finish 54 = .ok (.aload_n 0, 1) := by decide +kernel
theorem dX5_finish_55 : decode cX5_finish 55 = .ok (.getfield 39, 3) := by decide +kernel
theorem dX5_finish_58 : decode cX5_finish 58 = .ok (.sipush 1000, 3) := by decide +kernel
theorem dX5_finish_61 : decode cX5_finish 61 = .ok (.if_icmp .ge 23, 3) := by decide +kernel
theorem dX5_finish_64 : decode cX5_finish 64 = .ok (.aload_n 0, 1) := by decide +kernel
theorem dX5_finish_65 : decode cX5_finish 65 = .ok (.getfield 19, 3) := by decide +kernel
theorem dX5_finish_68 : decode cX5_finish 68 = .ok (.aload_n 0, 1) := by decide +kernel
theorem dX5_finish_69 : decode cX5_finish 69 = .ok (.getfield 39, 3) := by decide +kernel
theorem dX5_finish_72 : decode cX5_finish 72 = .ok (.iload_n 2, 1) := by decide +kernel
theorem dX5_finish_73 : decode cX5_finish 73 = .ok (.iastore, 1) := by decide +kernel
theorem dX5_finish_74 : decode cX5_finish 74 = .ok (.aload_n 0, 1) := by decide +kernel
theorem dX5_finish_75 : decode cX5_finish 75 = .ok (.dup, 1) := by decide +kernel
theorem dX5_finish_76 : decode cX5_finish 76 = .ok (.getfield 39, 3) := by decide +kernel
theorem dX5_finish_79 : decode cX5_finish 79 = .ok (.iconst 1, 1) := by decide +kernel
theorem dX5_finish_80 : decode cX5_finish 80 = .ok (.iadd, 1) := by decide +kernel
theorem dX5_finish_81 : decode cX5_finish 81 = .ok (.putfield 39, 3) := by decide +kernel
theorem dX5_finish_84 : decode cX5_finish 84 = .ok (.aload_n 0, 1) := by decide +kernel
theorem dX5_finish_85 : decode cX5_finish 85 = .ok (.getfield 26, 3) := by decide +kernel
theorem dX5_finish_88 : decode cX5_finish 88 = .ok (.aload_n 0, 1) := by decide +kernel
theorem dX5_finish_89 : decode cX5_finish 89 = .ok (.getfield 42, 3) := by decide +kernel
theorem dX5_finish_92 : decode cX5_finish 92 = .ok (.iaload, 1) := by decide +kernel
theorem dX5_finish_93 : decode cX5_finish 93 = .ok (.ifCond .ne 16, 3) := by decide +kernel
theorem dX5_finish_96 : decode cX5_finish 96 = .ok (.aload_n 0, 1) := by decide +kernel
theorem dX5_finish_97 : decode cX5_finish 97 = .ok (.getfield 26, 3) := by decide +kernel
theorem dX5_finish_100 : decode cX5_finish 100 = .ok (.aload_n 0, 1) := by decide +kernel
theorem dX5_finish_101 : decode cX5_finish 101 = .ok (.getfield 42, 3) := by decide +kernel
theorem dX5_finish_104 : decode cX5_finish 104 = .ok (.iconst 1, 1) := by decide +kernel
theorem dX5_finish_105 : decode cX5_finish 105 = .ok (.iastore, 1) := by decide +kernel
theorem dX5_finish_106 : decode cX5_finish 106 = .ok (.goto 30, 3) := by decide +kernel
theorem dX5_finish_109 : decode cX5_finish 109 = .ok (.aload_n 0, 1) := by decide +kernel
theorem dX5_finish_110 : decode cX5_finish 110 = .ok (.getfield 26, 3) := by decide +kernel
theorem dX5_finish_113 : decode cX5_finish 113 = .ok (.aload_n 0, 1) := by decide +kernel
theorem dX5_finish_114 : decode cX5_finish 114 = .ok (.getfield 42, 3) := by decide +kernel
theorem dX5_finish_117 : decode cX5_finish 117 = .ok (.aload_n 0, 1) := by decide +kernel
theorem dX5_finish_118 : decode cX5_finish 118 = .ok (.getfield 26, 3) := by decide +kernel
theorem dX5_finish_121 : decode cX5_finish 121 = .ok (.aload_n 0, 1) := by decide +kernel
theorem dX5_finish_122 : decode cX5_finish 122 = .ok (.getfield 42, 3) := by decide +kernel
theorem dX5_finish_125 : decode cX5_finish 125 = .ok (.iaload, 1) := by decide +kernel
theorem dX5_finish_126 : decode cX5_finish 126 = .ok (.iconst 4, 1) := by decide +kernel
theorem dX5_finish_127 : decode cX5_finish 127 = .ok (.if_icmp .ne 7, 3) := by decide +kernel
theorem dX5_finish_130 : decode cX5_finish 130 = .ok (.iconst 5, 1) := by decide +kernel
theorem dX5_finish_131 : decode cX5_finish 131 = .ok (.goto 4, 3) := by decide +kernel
theorem dX5_finish_134 : decode cX5_finish 134 = .ok (.iconst 3, 1) := by decide +kernel
theorem dX5_finish_135 : decode cX5_finish 135 = .ok (.iastore, 1) := by decide +kernel
theorem dX5_finish_136 : decode cX5_finish 136 = .ok (.return_, 1) := by decide +kernel
theorem dX6_init_0 : decode cX6_init 0 = .ok (.aload_n 0, 1) := by decide +kernel
theorem dX6_init_1 : decode cX6_init 1 = .ok (.invokespecial 3, 3) := by decide +kernel
theorem dX6_init_4 : decode cX6_init 4 = .ok (.aload_n 0, 1) := by decide +kernel
theorem dX6_init_5 : decode cX6_init 5 = .ok (.sipush 2048, 3) := by decide +kernel
theorem dX6_init_8 : decode cX6_init 8 = .ok (.newarray .long, 2) := by decide +kernel
theorem dX6_init_10 : decode cX6_init 10 = .ok (.putfield 11, 3) := by decide +kernel
theorem dX6_init_13 : decode cX6_init 13 = .ok (.aload_n 0, 1) := by decide +kernel
theorem dX6_init_14 : decode cX6_init 14 = .ok (.sipush 2048, 3) := by decide +kernel
theorem dX6_init_17 : decode cX6_init 17 = .ok (.newarray .int, 2) := by decide +kernel
theorem dX6_init_19 : decode cX6_init 19 = .ok (.putfield 15, 3) := by decide +kernel
theorem dX6_init_22 : decode cX6_init 22 = .ok (.aload_n 0, 1) := by decide +kernel
theorem dX6_init_23 : decode cX6_init 23 = .ok (.sipush 2048, 3) := by decide +kernel
theorem dX6_init_26 : decode cX6_init 26 = .ok (.newarray .int, 2) := by decide +kernel
theorem dX6_init_28 : decode cX6_init 28 = .ok (.putfield 19, 3) := by decide +kernel
theorem dX6_init_31 : decode cX6_init 31 = .ok (.aload_n 0, 1) := by decide +kernel
theorem dX6_init_32 : decode cX6_init 32 = .ok (.sipush 2048, 3) := by decide +kernel
theorem dX6_init_35 : decode cX6_init 35 = .ok (.newarray .int, 2) := by decide +kernel
theorem dX6_init_37 : decode cX6_init 37 = .ok (.putfield 22, 3) := by decide +kernel
theorem dX6_init_40 : decode cX6_init 40 = .ok (.aload_n 0, 1) := by decide +kernel
theorem dX6_init_41 : decode cX6_init 41 = .ok (.sipush 1024, 3) := by decide +kernel
theorem dX6_init_44 : decode cX6_init 44 = .ok (.newarray .int, 2) := by decide +kernel
theorem dX6_init_46 : decode cX6_init 46 = .ok (.putfield 25, 3) := by decide +kernel
theorem dX6_init_49 : decode cX6_init 49 = .ok (.aload_n 0, 1) := by decide +kernel
theorem dX6_init_50 : decode cX6_init 50 = .ok (.getfield 25, 3) := by decide +kernel
theorem dX6_init_53 : decode cX6_init 53 = .ok (.iconst (-1), 1) := by decide +kernel
theorem dX6_init_54 : decode cX6_init 54 = .ok (.invokestatic 28, 3) := by decide +kernel
theorem dX6_init_57 : decode cX6_init 57 = .ok (.lconst 0, 1) := by decide +kernel
theorem dX6_init_58 : decode cX6_init 58 = .ok (.lstore_n 1, 1) := by decide +kernel
theorem dX6_init_59 : decode cX6_init 59 = .ok (.iconst 0, 1) := by decide +kernel
theorem dX6_init_60 : decode cX6_init 60 = .ok (.istore_n 3, 1) := by decide +kernel
theorem dX6_init_61 : decode cX6_init 61 = .ok (.iload_n 3, 1) := by decide +kernel
theorem dX6_init_62 : decode cX6_init 62 = .ok (.ldc 34, 2) := by decide +kernel
theorem dX6_init_64 : decode cX6_init 64 = .ok (.invokevirtual 36, 3) := by decide +kernel
theorem dX6_init_67 : decode cX6_init 67 = .ok (.if_icmp .ge 51, 3) := by decide +kernel
theorem dX6_init_70 : decode cX6_init 70 = .ok (.ldc 42, 2) := by decide +kernel
theorem dX6_init_72 : decode cX6_init 72 = .ok (.ldc 34, 2) := by decide +kernel
theorem dX6_init_74 : decode cX6_init 74 = .ok (.iload_n 3, 1) := by decide +kernel
theorem dX6_init_75 : decode cX6_init 75 = .ok (.invokevirtual 44, 3) := by decide +kernel
theorem dX6_init_78 : decode cX6_init 78 = .ok (.invokevirtual 48, 3) := by decide +kernel
theorem dX6_init_81 : decode cX6_init 81 = .ok (.istore 4, 2) := by decide +kernel
theorem dX6_init_83 : decode cX6_init 83 = .ok (.iload 4, 2) := by decide +kernel
theorem dX6_init_85 : decode cX6_init 85 = .ok (.ifCond .le 16, 3) := by decide +kernel
theorem dX6_init_88 : decode cX6_init 88 = .ok (.lload_n 1, 1) := by decide +kernel
theorem dX6_init_89 : decode cX6_init 89 = .ok (.ldc2_w 52, 3) := by decide +kernel
theorem dX6_init_92 : decode cX6_init 92 = .ok (.lmul, 1) := by decide +kernel
theorem dX6_init_93 : decode cX6_init 93 = .ok (.iload 4, 2) := by decide +kernel
theorem dX6_init_95 : decode cX6_init 95 = .ok (.i2l, 1) := by decide +kernel
theorem dX6_init_96 : decode cX6_init 96 = .ok (.ladd, 1) := by decide +kernel
theorem dX6_init_97 : decode cX6_init 97 = .ok (.lstore_n 1, 1) := by decide +kernel
theorem dX6_init_98 : decode cX6_init 98 = .ok (.goto 14, 3) := by decide +kernel
theorem dX6_init_101 : decode cX6_init 101 = .ok (.aload_n 0, 1) := by decide +kernel
theorem dX6_init_102 : decode cX6_init 102 = .ok (.lload_n 1, 1) := by decide +kernel
theorem dX6_init_103 : decode cX6_init 103 = .ok (.bipush (-2), 2) := by decide +kernel
theorem dX6_init_105 : decode cX6_init 105 = .ok (.iconst 0, 1) := by decide +kernel
theorem dX6_init_106 : decode cX6_init 106 = .ok (.invokevirtual 54, 3) := by decide +kernel
theorem dX6_init_109 : decode cX6_init 109 = .ok (.pop, 1) := by decide +kernel
theorem dX6_init_110 : decode cX6_init 110 = .ok (.lconst 0, 1) := by decide +kernel
theorem dX6_init_111 : decode cX6_init 111 = .ok (.lstore_n 1, 1) := by decide +kernel
theorem dX6_init_112 : decode cX6_init 112 = .ok (.iinc 3 1, 3) := by decide +kernel
theorem dX6_init_115 : decode cX6_init 115 = .ok (.goto (-54), 3) := by decide +kernel
theorem dX6_init_118 : decode cX6_init 118 = .ok (.return_, 1) := by decide +kernel
theorem dX6_natural_0 : decode cX6_natural 0 = .ok (.aload_n 0, 1) := by decide +kernel
theorem dX6_natural_1 : decode cX6_natural 1 = .ok (.lload_n 1, 1) := by decide +kernel
theorem dX6_natural_2 : decode cX6_natural 2 = .ok (.iconst (-1), 1) := by decide +kernel
theorem dX6_natural_3 : decode cX6_natural 3 = .ok (.iconst 0, 1) := by decide +kernel
theorem dX6_natural_4 : decode cX6_natural 4 = .ok (.invokevirtual 54, 3) := by decide +kernel
theorem dX6_natural_7 : decode cX6_natural 7 = .ok (.ireturn, 1) := by decide +kernel
theorem dX6_symbol_0 : decode cX6_symbol 0 = .ok (.aload_n 0, 1) := by decide +kernel
theorem dX6_symbol_1 : decode cX6_symbol 1 = .ok (.lload_n 1, 1) := by decide +kernel
theorem dX6_symbol_2 : decode cX6_symbol 2 = .ok (.bipush (-2), 2) := by decide +kernel
theorem dX6_symbol_4 : decode cX6_symbol 4 = .ok (.iconst 0, 1) := by decide +kernel
theorem dX6_symbol_5 : decode cX6_symbol 5 = .ok (.invokevirtual 54, 3) := by decide +kernel
theorem dX6_symbol_8 : decode cX6_symbol 8 = .ok (.ireturn, 1) := by decide +kernel
theorem dX6_pair_0 : decode cX6_pair 0 = .ok (.aload_n 0, 1) := by decide +kernel
theorem dX6_pair_1 : decode cX6_pair 1 = .ok (.iload_n 1, 1) := by decide +kernel
theorem dX6_pair_2 : decode cX6_pair 2 = .ok (.i2l, 1) := by decide +kernel
theorem dX6_pair_3 : decode cX6_pair 3 = .ok (.iload_n 2, 1) := by decide +kernel
theorem dX6_pair_4 : decode cX6_pair 4 = .ok (.aload_n 0, 1) := by decide +kernel
theorem dX6_pair_5 : decode cX6_pair 5 = .ok (.iload_n 1, 1) := by decide +kernel
theorem dX6_pair_6 : decode cX6_pair 6 = .ok (.invokevirtual 58, 3) := by decide +kernel
theorem dX6_pair_9 : decode cX6_pair 9 = .ok (.aload_n 0, 1) := by decide +kernel
theorem dX6_pair_10 : decode cX6_pair 10 = .ok (.iload_n 2, 1) := by decide +kernel
theorem dX6_pair_11 : decode cX6_pair 11 = .ok (.invokevirtual 58, 3) := by decide +kernel
theorem dX6_pair_14 : decode cX6_pair 14 = .ok (.invokestatic 61, 3) := by decide +kernel
theorem dX6_pair_17 : decode cX6_pair 17 = .ok (.iconst 1, 1) := by decide +kernel
theorem dX6_pair_18 : decode cX6_pair 18 = .ok (.iadd, 1) := by decide +kernel
theorem dX6_pair_19 : decode cX6_pair 19 = .ok (.invokevirtual 54, 3) := by decide +kernel
theorem dX6_pair_22 : decode cX6_pair 22 = .ok (.ireturn, 1) := by decide +kernel
theorem dX6_isPair_0 : decode cX6_isPair 0 = .ok (.iload_n 1, 1) := by decide +kernel
theorem dX6_isPair_1 : decode cX6_isPair 1 = .ok (.ifCond .lt 24, 3) := by decide +kernel
theorem dX6_isPair_4 : decode cX6_isPair 4 = .ok (.iload_n 1, 1) := by decide +kernel
theorem dX6_isPair_5 : decode cX6_isPair 5 = .ok (.aload_n 0, 1) := by decide +kernel
theorem dX6_isPair_6 : decode cX6_isPair 6 = .ok (.getfield 67, 3) := by decide +kernel
theorem dX6_isPair_9 : decode cX6_isPair 9 = .ok (.if_icmp .ge 16, 3) := by decide +kernel
theorem dX6_isPair_12 : decode cX6_isPair 12 = .ok (.aload_n 0, 1) := by decide +kernel
theorem dX6_isPair_13 : decode cX6_isPair 13 = .ok (.getfield 15, 3) := by decide +kernel
theorem dX6_isPair_16 : decode cX6_isPair 16 = .ok (.iload_n 1, 1) := by decide +kernel
theorem dX6_isPair_17 : decode cX6_isPair 17 = .ok (.iaload, 1) := by decide +kernel
theorem dX6_isPair_18 : decode cX6_isPair 18 = .ok (.ifCond .lt 7, 3) := by decide +kernel
theorem dX6_isPair_21 : decode cX6_isPair 21 = .ok (.iconst 1, 1) := by decide +kernel
theorem dX6_isPair_22 : decode cX6_isPair 22 = .ok (.goto 4, 3) := by decide +kernel
theorem dX6_isPair_25 : decode cX6_isPair 25 = .ok (.iconst 0, 1) := by decide +kernel
theorem dX6_isPair_26 : decode cX6_isPair 26 = .ok (.ireturn, 1) := by decide +kernel
theorem dX6_isNatural_0 : decode cX6_isNatural 0 = .ok (.iload_n 1, 1) := by decide +kernel
theorem dX6_isNatural_1 : decode cX6_isNatural 1 = .ok (.ifCond .lt 25, 3) := by decide +kernel
theorem dX6_isNatural_4 : decode cX6_isNatural 4 = .ok (.iload_n 1, 1) := by decide +kernel
theorem dX6_isNatural_5 : decode cX6_isNatural 5 = .ok (.aload_n 0, 1) := by decide +kernel
theorem dX6_isNatural_6 : decode cX6_isNatural 6 = .ok (.getfield 67, 3) := by decide +kernel
theorem dX6_isNatural_9 : decode cX6_isNatural 9 = .ok (.if_icmp .ge 17, 3) := by decide +kernel
theorem dX6_isNatural_12 : decode cX6_isNatural 12 = .ok (.aload_n 0, 1) := by decide +kernel
theorem dX6_isNatural_13 : decode cX6_isNatural 13 = .ok (.getfield 15, 3) := by decide +kernel
theorem dX6_isNatural_16 : decode cX6_isNatural 16 = .ok (.iload_n 1, 1) := by decide +kernel
theorem dX6_isNatural_17 : decode cX6_isNatural 17 = .ok (.iaload, 1) := by decide +kernel
theorem dX6_isNatural_18 : decode cX6_isNatural 18 = .ok (.iconst (-1), 1) := by decide +kernel
theorem dX6_isNatural_19 : decode cX6_isNatural 19 = .ok (.if_icmp .ne 7, 3) := by decide +kernel
theorem dX6_isNatural_22 : decode cX6_isNatural 22 = .ok (.iconst 1, 1) := by decide +kernel
theorem dX6_isNatural_23 : decode cX6_isNatural 23 = .ok (.goto 4, 3) := by decide +kernel
theorem dX6_isNatural_26 : decode cX6_isNatural 26 = .ok (.iconst 0, 1) := by decide +kernel
theorem dX6_isNatural_27 : decode cX6_isNatural 27 = .ok (.ireturn, 1) := by decide +kernel
theorem dX6_isSymbol_0 : decode cX6_isSymbol 0 = .ok (.iload_n 1, 1) := by decide +kernel
theorem dX6_isSymbol_1 : decode cX6_isSymbol 1 = .ok (.ifCond .lt 26, 3) := by decide +kernel
theorem dX6_isSymbol_4 : decode cX6_isSymbol 4 = .ok (.iload_n 1, 1) := by decide +kernel
theorem dX6_isSymbol_5 : decode cX6_isSymbol 5 = .ok (.aload_n 0, 1) := by decide +kernel
theorem dX6_isSymbol_6 : decode cX6_isSymbol 6 = .ok (.getfield 67, 3) := by decide +kernel
theorem dX6_isSymbol_9 : decode cX6_isSymbol 9 = .ok (.if_icmp .ge 18, 3) := by decide +kernel
theorem dX6_isSymbol_12 : decode cX6_isSymbol 12 = .ok (.aload_n 0, 1) := by decide +kernel
theorem dX6_isSymbol_13 : decode cX6_isSymbol 13 = .ok (.getfield 15, 3) := by decide +kernel
theorem dX6_isSymbol_16 : decode cX6_isSymbol 16 = .ok (.iload_n 1, 1) := by decide +kernel
theorem dX6_isSymbol_17 : decode cX6_isSymbol 17 = .ok (.iaload, 1) := by decide +kernel
theorem dX6_isSymbol_18 : decode cX6_isSymbol 18 = .ok (.bipush (-2), 2) := by decide +kernel
theorem dX6_isSymbol_20 : decode cX6_isSymbol 20 = .ok (.if_icmp .ne 7, 3) := by decide +kernel
theorem dX6_isSymbol_23 : decode cX6_isSymbol 23 = .ok (.iconst 1, 1) := by decide +kernel
theorem dX6_isSymbol_24 : decode cX6_isSymbol 24 = .ok (.goto 4, 3) := by decide +kernel
theorem dX6_isSymbol_27 : decode cX6_isSymbol 27 = .ok (.iconst 0, 1) := by decide +kernel
theorem dX6_isSymbol_28 : decode cX6_isSymbol 28 = .ok (.ireturn, 1) := by decide +kernel
theorem dX6_isVariable_0 : decode cX6_isVariable 0 = .ok (.aload_n 0, 1) := by decide +kernel
theorem dX6_isVariable_1 : decode cX6_isVariable 1 = .ok (.iload_n 1, 1) := by decide +kernel
theorem dX6_isVariable_2 : decode cX6_isVariable 2 = .ok (.invokevirtual 71, 3) := by decide +kernel
theorem dX6_isVariable_5 : decode cX6_isVariable 5 = .ok (.ifCond .eq 16, 3) := by decide +kernel
theorem dX6_isVariable_8 : decode cX6_isVariable 8 = .ok (.iload_n 1, 1) := by decide +kernel
theorem dX6_isVariable_9 : decode cX6_isVariable 9 = .ok (.ifCond .eq 12, 3) := by decide +kernel
theorem dX6_isVariable_12 : decode cX6_isVariable 12 = .ok (.iload_n 1, 1) := by decide +kernel
theorem dX6_isVariable_13 : decode cX6_isVariable 13 = .ok (.iconst 1, 1) := by decide +kernel
theorem dX6_isVariable_14 : decode cX6_isVariable 14 = .ok (.if_icmp .eq 7, 3) := by decide +kernel
theorem dX6_isVariable_17 : decode cX6_isVariable 17 = .ok (.iconst 1, 1) := by decide +kernel
theorem dX6_isVariable_18 : decode cX6_isVariable 18 = .ok (.goto 4, 3) := by decide +kernel
theorem dX6_isVariable_21 : decode cX6_isVariable 21 = .ok (.iconst 0, 1) := by decide +kernel
theorem dX6_isVariable_22 : decode cX6_isVariable 22 = .ok (.ireturn, 1) := by decide +kernel
theorem dX6_isQuoted_0 : decode cX6_isQuoted 0 = .ok (.aload_n 0, 1) := by decide +kernel
theorem dX6_isQuoted_1 : decode cX6_isQuoted 1 = .ok (.iload_n 1, 1) := by decide +kernel
theorem dX6_isQuoted_2 : decode cX6_isQuoted 2 = .ok (.invokevirtual 75, 3) := by decide +kernel
theorem dX6_isQuoted_5 : decode cX6_isQuoted 5 = .ok (.iconst 2, 1) := by decide +kernel
theorem dX6_isQuoted_6 : decode cX6_isQuoted 6 = .ok (.if_icmp .ne 31, 3) := by decide +kernel
theorem dX6_isQuoted_9 : decode cX6_isQuoted 9 = .ok (.aload_n 0, 1) := by decide +kernel
theorem dX6_isQuoted_10 : decode cX6_isQuoted 10 = .ok (.aload_n 0, 1) := by decide +kernel
theorem dX6_isQuoted_11 : decode cX6_isQuoted 11 = .ok (.iload_n 1, 1) := by decide +kernel
theorem dX6_isQuoted_12 : decode cX6_isQuoted 12 = .ok (.invokevirtual 78, 3) := by decide +kernel
theorem dX6_isQuoted_15 : decode cX6_isQuoted 15 = .ok (.invokevirtual 81, 3) := by decide +kernel
theorem dX6_isQuoted_18 : decode cX6_isQuoted 18 = .ok (.ifCond .eq 19, 3) := by decide +kernel
theorem dX6_isQuoted_21 : decode cX6_isQuoted 21 = .ok (.aload_n 0, 1) := by decide +kernel
theorem dX6_isQuoted_22 : decode cX6_isQuoted 22 = .ok (.aload_n 0, 1) := by decide +kernel
theorem dX6_isQuoted_23 : decode cX6_isQuoted 23 = .ok (.iload_n 1, 1) := by decide +kernel
theorem dX6_isQuoted_24 : decode cX6_isQuoted 24 = .ok (.invokevirtual 78, 3) := by decide +kernel
theorem dX6_isQuoted_27 : decode cX6_isQuoted 27 = .ok (.invokevirtual 78, 3) := by decide +kernel
theorem dX6_isQuoted_30 : decode cX6_isQuoted 30 = .ok (.ifCond .ne 7, 3) := by decide +kernel
theorem dX6_isQuoted_33 : decode cX6_isQuoted 33 = .ok (.iconst 1, 1) := by decide +kernel
theorem dX6_isQuoted_34 : decode cX6_isQuoted 34 = .ok (.goto 4, 3) := by decide +kernel
theorem dX6_isQuoted_37 : decode cX6_isQuoted 37 = .ok (.iconst 0, 1) := by decide +kernel
theorem dX6_isQuoted_38 : decode cX6_isQuoted 38 = .ok (.ireturn, 1) := by decide +kernel
theorem dX6_head_0 : decode cX6_head 0 = .ok (.aload_n 0, 1) := by decide +kernel
theorem dX6_head_1 : decode cX6_head 1 = .ok (.iload_n 1, 1) := by decide +kernel
theorem dX6_head_2 : decode cX6_head 2 = .ok (.invokevirtual 81, 3) := by decide +kernel
theorem dX6_head_5 : decode cX6_head 5 = .ok (.ifCond .eq 13, 3) := by decide +kernel
theorem dX6_head_8 : decode cX6_head 8 = .ok (.aload_n 0, 1) := by decide +kernel
theorem dX6_head_9 : decode cX6_head 9 = .ok (.getfield 11, 3) := by decide +kernel
theorem dX6_head_12 : decode cX6_head 12 = .ok (.iload_n 1, 1) := by decide +kernel
theorem dX6_head_13 : decode cX6_head 13 = .ok (.laload, 1) := by decide +kernel
theorem dX6_head_14 : decode cX6_head 14 = .ok (.l2i, 1) := by decide +kernel
theorem dX6_head_15 : decode cX6_head 15 = .ok (.goto 4, 3) := by decide +kernel
theorem dX6_head_18 : decode cX6_head 18 = .ok (.iconst 0, 1) := by decide +kernel
theorem dX6_head_19 : decode cX6_head 19 = .ok (.ireturn, 1) := by decide +kernel
theorem dX6_tail_0 : decode cX6_tail 0 = .ok (.aload_n 0, 1) := by decide +kernel
theorem dX6_tail_1 : decode cX6_tail 1 = .ok (.iload_n 1, 1) := by decide +kernel
theorem dX6_tail_2 : decode cX6_tail 2 = .ok (.invokevirtual 81, 3) := by decide +kernel
theorem dX6_tail_5 : decode cX6_tail 5 = .ok (.ifCond .eq 12, 3) := by decide +kernel
theorem dX6_tail_8 : decode cX6_tail 8 = .ok (.aload_n 0, 1) := by decide +kernel
theorem dX6_tail_9 : decode cX6_tail 9 = .ok (.getfield 15, 3) := by decide +kernel
theorem dX6_tail_12 : decode cX6_tail 12 = .ok (.iload_n 1, 1) := by decide +kernel
theorem dX6_tail_13 : decode cX6_tail 13 = .ok (.iaload, 1) := by decide +kernel
theorem dX6_tail_14 : decode cX6_tail 14 = .ok (.goto 4, 3) := by decide +kernel
theorem dX6_tail_17 : decode cX6_tail 17 = .ok (.iconst 0, 1) := by decide +kernel
theorem dX6_tail_18 : decode cX6_tail 18 = .ok (.ireturn, 1) := by decide +kernel
theorem dX6_second_0 : decode cX6_second 0 = .ok (.aload_n 0, 1) := by decide +kernel
theorem dX6_second_1 : decode cX6_second 1 = .ok (.aload_n 0, 1) := by decide +kernel
theorem dX6_second_2 : decode cX6_second 2 = .ok (.iload_n 1, 1) := by decide +kernel
theorem dX6_second_3 : decode cX6_second 3 = .ok (.invokevirtual 78, 3) := by decide +kernel
theorem dX6_second_6 : decode cX6_second 6 = .ok (.invokevirtual 75, 3) := by decide +kernel
theorem dX6_second_9 : decode cX6_second 9 = .ok (.ireturn, 1) := by decide +kernel
theorem dX6_third_0 : decode cX6_third 0 = .ok (.aload_n 0, 1) := by decide +kernel
theorem dX6_third_1 : decode cX6_third 1 = .ok (.aload_n 0, 1) := by decide +kernel
theorem dX6_third_2 : decode cX6_third 2 = .ok (.aload_n 0, 1) := by decide +kernel
theorem dX6_third_3 : decode cX6_third 3 = .ok (.iload_n 1, 1) := by decide +kernel
theorem dX6_third_4 : decode cX6_third 4 = .ok (.invokevirtual 78, 3) := by decide +kernel
theorem dX6_third_7 : decode cX6_third 7 = .ok (.invokevirtual 78, 3) := by decide +kernel
theorem dX6_third_10 : decode cX6_third 10 = .ok (.invokevirtual 75, 3) := by decide +kernel
theorem dX6_third_13 : decode cX6_third 13 = .ok (.ireturn, 1) := by decide +kernel
theorem dX6_fourth_0 : decode cX6_fourth 0 = .ok (.aload_n 0, 1) := by decide +kernel
theorem dX6_fourth_1 : decode cX6_fourth 1 = .ok (.aload_n 0, 1) := by decide +kernel
theorem dX6_fourth_2 : decode cX6_fourth 2 = .ok (.aload_n 0, 1) := by decide +kernel
theorem dX6_fourth_3 : decode cX6_fourth 3 = .ok (.aload_n 0, 1) := by decide +kernel
theorem dX6_fourth_4 : decode cX6_fourth 4 = .ok (.iload_n 1, 1) := by decide +kernel
theorem dX6_fourth_5 : decode cX6_fourth 5 = .ok (.invokevirtual 78, 3) := by decide +kernel
theorem dX6_fourth_8 : decode cX6_fourth 8 = .ok (.invokevirtual 78, 3) := by decide +kernel
theorem dX6_fourth_11 : decode cX6_fourth 11 = .ok (.invokevirtual 78, 3) := by decide +kernel
theorem dX6_fourth_14 : decode cX6_fourth 14 = .ok (.invokevirtual 75, 3) := by decide +kernel
theorem dX6_fourth_17 : decode cX6_fourth 17 = .ok (.ireturn, 1) := by decide +kernel
theorem dX6_heightOf_0 : decode cX6_heightOf 0 = .ok (.iload_n 1, 1) := by decide +kernel
theorem dX6_heightOf_1 : decode cX6_heightOf 1 = .ok (.ifCond .lt 20, 3) := by decide +kernel
theorem dX6_heightOf_4 : decode cX6_heightOf 4 = .ok (.iload_n 1, 1) := by decide +kernel
theorem dX6_heightOf_5 : decode cX6_heightOf 5 = .ok (.aload_n 0, 1) := by decide +kernel
theorem dX6_heightOf_6 : decode cX6_heightOf 6 = .ok (.getfield 67, 3) := by decide +kernel
theorem dX6_heightOf_9 : decode cX6_heightOf 9 = .ok (.if_icmp .ge 12, 3) := by decide +kernel
theorem dX6_heightOf_12 : decode cX6_heightOf 12 = .ok (.aload_n 0, 1) := by decide +kernel
theorem dX6_heightOf_13 : decode cX6_heightOf 13 = .ok (.getfield 19, 3) := by decide +kernel
theorem dX6_heightOf_16 : decode cX6_heightOf 16 = .ok (.iload_n 1, 1) := by decide +kernel
theorem dX6_heightOf_17 : decode cX6_heightOf 17 = .ok (.iaload, 1) := by decide +kernel
theorem dX6_heightOf_18 : decode cX6_heightOf 18 = .ok (.goto 4, 3) := by decide +kernel
theorem dX6_heightOf_21 : decode cX6_heightOf 21 = .ok (.iconst 0, 1) := by decide +kernel
theorem dX6_heightOf_22 : decode cX6_heightOf 22 = .ok (.ireturn, 1) := by decide +kernel
theorem dX6_amount_0 : decode cX6_amount 0 = .ok (.aload_n 0, 1) := by decide +kernel
theorem dX6_amount_1 : decode cX6_amount 1 = .ok (.iload_n 1, 1) := by decide +kernel
theorem dX6_amount_2 : decode cX6_amount 2 = .ok (.invokevirtual 84, 3) := by decide +kernel
theorem dX6_amount_5 : decode cX6_amount 5 = .ok (.ifCond .eq 12, 3) := by decide +kernel
theorem dX6_amount_8 : decode cX6_amount 8 = .ok (.aload_n 0, 1) := by decide +kernel
theorem dX6_amount_9 : decode cX6_amount 9 = .ok (.getfield 11, 3) := by decide +kernel
theorem dX6_amount_12 : decode cX6_amount 12 = .ok (.iload_n 1, 1) := by decide +kernel
theorem dX6_amount_13 : decode cX6_amount 13 = .ok (.laload, 1) := by decide +kernel
theorem dX6_amount_14 : decode cX6_amount 14 = .ok (.goto 4, 3) := by decide +kernel
theorem dX6_amount_17 : decode cX6_amount 17 = .ok (.lconst 0, 1) := by decide +kernel
theorem dX6_amount_18 : decode cX6_amount 18 = .ok (.lreturn, 1) := by decide +kernel
theorem dX6_spelling_0 : decode cX6_spelling 0 = .ok (.aload_n 0, 1) := by decide +kernel
theorem dX6_spelling_1 : decode cX6_spelling 1 = .ok (.iload_n 1, 1) := by decide +kernel
theorem dX6_spelling_2 : decode cX6_spelling 2 = .ok (.invokevirtual 71, 3) := by decide +kernel
theorem dX6_spelling_5 : decode cX6_spelling 5 = .ok (.ifCond .eq 12, 3) := by decide +kernel
theorem dX6_spelling_8 : decode cX6_spelling 8 = .ok (.aload_n 0, 1) := by decide +kernel
theorem dX6_spelling_9 : decode cX6_spelling 9 = .ok (.getfield 11, 3) := by decide +kernel
theorem dX6_spelling_12 : decode cX6_spelling 12 = .ok (.iload_n 1, 1) := by decide +kernel
theorem dX6_spelling_13 : decode cX6_spelling 13 = .ok (.laload, 1) := by decide +kernel
theorem dX6_spelling_14 : decode cX6_spelling 14 = .ok (.goto 4, 3) := by decide +kernel
theorem dX6_spelling_17 : decode cX6_spelling 17 = .ok (.lconst 0, 1) := by decide +kernel
theorem dX6_spelling_18 : decode cX6_spelling 18 = .ok (.lreturn, 1) := by decide +kernel
theorem dX6_lengthOf_0 : decode cX6_lengthOf 0 = .ok (.iload_n 1, 1) := by decide +kernel
theorem dX6_lengthOf_1 : decode cX6_lengthOf 1 = .ok (.istore_n 2, 1) := by decide +kernel
theorem dX6_lengthOf_2 : decode cX6_lengthOf 2 = .ok (.iconst 0, 1) := by decide +kernel
theorem dX6_lengthOf_3 : decode cX6_lengthOf 3 = .ok (.istore_n 3, 1) := by decide +kernel
theorem dX6_lengthOf_4 : decode cX6_lengthOf 4 = .ok (.iload_n 3, 1) := by decide +kernel
theorem dX6_lengthOf_5 : decode cX6_lengthOf 5 = .ok (.aload_n 0, 1) := by decide +kernel
theorem dX6_lengthOf_6 : decode cX6_lengthOf 6 = .ok (.getfield 67, 3) := by decide +kernel
theorem dX6_lengthOf_9 : decode cX6_lengthOf 9 = .ok (.if_icmp .gt 31, 3) := by decide +kernel
theorem dX6_lengthOf_12 : decode cX6_lengthOf 12 = .ok (.iload_n 2, 1) := by decide +kernel
theorem dX6_lengthOf_13 : decode cX6_lengthOf 13 = .ok (.ifCond .ne 5, 3) := by decide +kernel
theorem dX6_lengthOf_16 : decode cX6_lengthOf 16 = .ok (.iload_n 3, 1) := by decide +kernel
theorem dX6_lengthOf_17 : decode cX6_lengthOf 17 = .ok (.ireturn, 1) := by decide +kernel
theorem dX6_lengthOf_18 : decode cX6_lengthOf 18 = .ok (.aload_n 0, 1) := by decide +kernel
theorem dX6_lengthOf_19 : decode cX6_lengthOf 19 = .ok (.iload_n 2, 1) := by decide +kernel
theorem dX6_lengthOf_20 : decode cX6_lengthOf 20 = .ok (.invokevirtual 81, 3) := by decide +kernel
theorem dX6_lengthOf_23 : decode cX6_lengthOf 23 = .ok (.ifCond .ne 5, 3) := by decide +kernel
theorem dX6_lengthOf_26 : decode cX6_lengthOf 26 = .ok (.iconst (-1), 1) := by decide +kernel
theorem dX6_lengthOf_27 : decode cX6_lengthOf 27 = .ok (.ireturn, 1) := by decide +kernel
theorem dX6_lengthOf_28 : decode cX6_lengthOf 28 = .ok (.aload_n 0, 1) := by decide +kernel
theorem dX6_lengthOf_29 : decode cX6_lengthOf 29 = .ok (.iload_n 2, 1) := by decide +kernel
theorem dX6_lengthOf_30 : decode cX6_lengthOf 30 = .ok (.invokevirtual 78, 3) := by decide +kernel
theorem dX6_lengthOf_33 : decode cX6_lengthOf 33 = .ok (.istore_n 2, 1) := by decide +kernel
theorem dX6_lengthOf_34 : decode cX6_lengthOf 34 = .ok (.iinc 3 1, 3) := by decide +kernel
theorem dX6_lengthOf_37 : decode cX6_lengthOf 37 = .ok (.goto (-33), 3) := by decide +kernel
theorem dX6_lengthOf_40 : decode cX6_lengthOf 40 = .ok (.iconst (-1), 1) := by decide +kernel
theorem dX6_lengthOf_41 : decode cX6_lengthOf 41 = .ok (.ireturn, 1) := by decide +kernel
theorem dX6_isElement_0 : decode cX6_isElement 0 = .ok (.iload_n 2, 1) := by decide +kernel
theorem dX6_isElement_1 : decode cX6_isElement 1 = .ok (.istore_n 3, 1) := by decide +kernel
theorem dX6_isElement_2 : decode cX6_isElement 2 = .ok (.iconst 0, 1) := by decide +kernel
theorem dX6_isElement_3 : decode cX6_isElement 3 = .ok (.istore 4, 2) := by decide +kernel
theorem dX6_isElement_5 : decode cX6_isElement 5 = .ok (.iload 4, 2) := by decide +kernel
theorem dX6_isElement_7 : decode cX6_isElement 7 = .ok (.aload_n 0, 1) := by decide +kernel
theorem dX6_isElement_8 : decode cX6_isElement 8 = .ok (.getfield 67, 3) := by decide +kernel
theorem dX6_isElement_11 : decode cX6_isElement 11 = .ok (.if_icmp .ge 34, 3) := by decide +kernel
theorem dX6_isElement_14 : decode cX6_isElement 14 = .ok (.aload_n 0, 1) := by decide +kernel
theorem dX6_isElement_15 : decode cX6_isElement 15 = .ok (.iload_n 3, 1) := by decide +kernel
theorem dX6_isElement_16 : decode cX6_isElement 16 = .ok (.invokevirtual 81, 3) := by decide +kernel
theorem dX6_isElement_19 : decode cX6_isElement 19 = .ok (.ifCond .eq 26, 3) := by decide +kernel
theorem dX6_isElement_22 : decode cX6_isElement 22 = .ok (.aload_n 0, 1) := by decide +kernel
theorem dX6_isElement_23 : decode cX6_isElement 23 = .ok (.iload_n 3, 1) := by decide +kernel
theorem dX6_isElement_24 : decode cX6_isElement 24 = .ok (.invokevirtual 75, 3) := by decide +kernel
theorem dX6_isElement_27 : decode cX6_isElement 27 = .ok (.iload_n 1, 1) := by decide +kernel
theorem dX6_isElement_28 : decode cX6_isElement 28 = .ok (.if_icmp .ne 5, 3) := by decide +kernel
theorem dX6_isElement_31 : decode cX6_isElement 31 = .ok (.iconst 1, 1) := by decide +kernel
theorem dX6_isElement_32 : decode cX6_isElement 32 = .ok (.ireturn, 1) := by decide +kernel
theorem dX6_isElement_33 : decode cX6_isElement 33 = .ok (.aload_n 0, 1) := by decide +kernel
theorem dX6_isElement_34 : decode cX6_isElement 34 = .ok (.iload_n 3, 1) := by decide +kernel
theorem dX6_isElement_35 : decode cX6_isElement 35 = .ok (.invokevirtual 78, 3) := by decide +kernel
theorem dX6_isElement_38 : decode cX6_isElement 38 = .ok (.istore_n 3, 1) := by decide +kernel
theorem dX6_isElement_39 : decode cX6_isElement 39 = .ok (.iinc 4 1, 3) := by decide +kernel
theorem dX6_isElement_42 : decode cX6_isElement 42 = .ok (.goto (-37), 3) := by decide +kernel
theorem dX6_isElement_45 : decode cX6_isElement 45 = .ok (.iconst 0, 1) := by decide +kernel
theorem dX6_isElement_46 : decode cX6_isElement 46 = .ok (.ireturn, 1) := by decide +kernel
theorem dX6_makeRoom_0 : decode cX6_makeRoom 0 = .ok (.sipush 2048, 3) := by decide +kernel
theorem dX6_makeRoom_3 : decode cX6_makeRoom 3 = .ok (.istore_n 2, 1) := by decide +kernel
theorem dX6_makeRoom_4 : decode cX6_makeRoom 4 = .ok (.iload_n 2, 1) := by decide +kernel
theorem dX6_makeRoom_5 : decode cX6_makeRoom 5 = .ok (.aload_n 0, 1) := by decide +kernel
theorem dX6_makeRoom_6 : decode cX6_makeRoom 6 = .ok (.getfield 67, 3) := by decide +kernel
theorem dX6_makeRoom_9 : decode cX6_makeRoom 9 = .ok (.iload_n 1, 1) := by decide +kernel
theorem dX6_makeRoom_10 : decode cX6_makeRoom 10 = .ok (.iadd, 1) := by decide +kernel
theorem dX6_makeRoom_11 : decode cX6_makeRoom 11 = .ok (.if_icmp .ge 17, 3) := by decide +kernel
theorem dX6_makeRoom_14 : decode cX6_makeRoom 14 = .ok (.iload_n 2, 1) := by decide +kernel
theorem dX6_makeRoom_15 : decode cX6_makeRoom 15 = .ok (.sipush 16384, 3) := by decide +kernel
theorem dX6_makeRoom_18 : decode cX6_makeRoom 18 = .ok (.if_icmp .ge 10, 3) := by decide +kernel
theorem dX6_makeRoom_21 : decode cX6_makeRoom 21 = .ok (.iload_n 2, 1) := by decide +kernel
theorem dX6_makeRoom_22 : decode cX6_makeRoom 22 = .ok (.iconst 2, 1) := by decide +kernel
theorem dX6_makeRoom_23 : decode cX6_makeRoom 23 = .ok (.imul, 1) := by decide +kernel
theorem dX6_makeRoom_24 : decode cX6_makeRoom 24 = .ok (.istore_n 2, 1) := by decide +kernel
theorem dX6_makeRoom_25 : decode cX6_makeRoom 25 = .ok (.goto (-21), 3) := by decide +kernel
theorem dX6_makeRoom_28 : decode cX6_makeRoom 28 = .ok (.iload_n 2, 1) := by decide +kernel
theorem dX6_makeRoom_29 : decode cX6_makeRoom 29 = .ok (.aload_n 0, 1) := by decide +kernel
theorem dX6_makeRoom_30 : decode cX6_makeRoom 30 = .ok (.getfield 15, 3) := by decide +kernel
theorem dX6_makeRoom_33 : decode cX6_makeRoom 33 = .ok (.arraylength, 1) := by decide +kernel
theorem dX6_makeRoom_34 : decode cX6_makeRoom 34 = .ok (.if_icmp .le 51, 3) := by decide +kernel
theorem dX6_makeRoom_37 : decode cX6_makeRoom 37 = .ok (.aload_n 0, 1) := by decide +kernel
theorem dX6_makeRoom_38 : decode cX6_makeRoom 38 = .ok (.aload_n 0, 1) := by decide +kernel
theorem dX6_makeRoom_39 : decode cX6_makeRoom 39 = .ok (.getfield 11, 3) := by decide +kernel
theorem dX6_makeRoom_42 : decode cX6_makeRoom 42 = .ok (.iload_n 2, 1) := by decide +kernel
theorem dX6_makeRoom_43 : decode cX6_makeRoom 43 = .ok (.invokestatic 87, 3) := by decide +kernel
theorem dX6_makeRoom_46 : decode cX6_makeRoom 46 = .ok (.putfield 11, 3) := by decide +kernel
theorem dX6_makeRoom_49 : decode cX6_makeRoom 49 = .ok (.aload_n 0, 1) := by decide +kernel
theorem dX6_makeRoom_50 : decode cX6_makeRoom 50 = .ok (.aload_n 0, 1) := by decide +kernel
theorem dX6_makeRoom_51 : decode cX6_makeRoom 51 = .ok (.getfield 15, 3) := by decide +kernel
theorem dX6_makeRoom_54 : decode cX6_makeRoom 54 = .ok (.iload_n 2, 1) := by decide +kernel
theorem dX6_makeRoom_55 : decode cX6_makeRoom 55 = .ok (.invokestatic 91, 3) := by decide +kernel
theorem dX6_makeRoom_58 : decode cX6_makeRoom 58 = .ok (.putfield 15, 3) := by decide +kernel
theorem dX6_makeRoom_61 : decode cX6_makeRoom 61 = .ok (.aload_n 0, 1) := by decide +kernel
theorem dX6_makeRoom_62 : decode cX6_makeRoom 62 = .ok (.aload_n 0, 1) := by decide +kernel
theorem dX6_makeRoom_63 : decode cX6_makeRoom 63 = .ok (.getfield 19, 3) := by decide +kernel
theorem dX6_makeRoom_66 : decode cX6_makeRoom 66 = .ok (.iload_n 2, 1) := by decide +kernel
theorem dX6_makeRoom_67 : decode cX6_makeRoom 67 = .ok (.invokestatic 91, 3) := by decide +kernel
theorem dX6_makeRoom_70 : decode cX6_makeRoom 70 = .ok (.putfield 19, 3) := by decide +kernel
theorem dX6_makeRoom_73 : decode cX6_makeRoom 73 = .ok (.aload_n 0, 1) := by decide +kernel
theorem dX6_makeRoom_74 : decode cX6_makeRoom 74 = .ok (.aload_n 0, 1) := by decide +kernel
theorem dX6_makeRoom_75 : decode cX6_makeRoom 75 = .ok (.getfield 22, 3) := by decide +kernel
theorem dX6_makeRoom_78 : decode cX6_makeRoom 78 = .ok (.iload_n 2, 1) := by decide +kernel
theorem dX6_makeRoom_79 : decode cX6_makeRoom 79 = .ok (.invokestatic 91, 3) := by decide +kernel
theorem dX6_makeRoom_82 : decode cX6_makeRoom 82 = .ok (.putfield 22, 3) := by decide +kernel
theorem dX6_makeRoom_85 : decode cX6_makeRoom 85 = .ok (.aload_n 0, 1) := by decide +kernel
theorem dX6_makeRoom_86 : decode cX6_makeRoom 86 = .ok (.getfield 15, 3) := by decide +kernel
theorem dX6_makeRoom_89 : decode cX6_makeRoom 89 = .ok (.arraylength, 1) := by decide +kernel
theorem dX6_makeRoom_90 : decode cX6_makeRoom 90 = .ok (.aload_n 0, 1) := by decide +kernel
theorem dX6_makeRoom_91 : decode cX6_makeRoom 91 = .ok (.getfield 67, 3) := by decide +kernel
theorem dX6_makeRoom_94 : decode cX6_makeRoom 94 = .ok (.iload_n 1, 1) := by decide +kernel
theorem dX6_makeRoom_95 : decode cX6_makeRoom 95 = .ok (.iadd, 1) := by decide +kernel
theorem dX6_makeRoom_96 : decode cX6_makeRoom 96 = .ok (.if_icmp .lt 7, 3) := by decide +kernel
theorem dX6_makeRoom_99 : decode cX6_makeRoom 99 = .ok (.iconst 1, 1) := by decide +kernel
theorem dX6_makeRoom_100 : decode cX6_makeRoom 100 = .ok (.goto 4, 3) := by decide +kernel
theorem dX6_makeRoom_103 : decode cX6_makeRoom 103 = .ok (.iconst 0, 1) := by decide +kernel
theorem dX6_makeRoom_104 : decode cX6_makeRoom 104 = .ok (.ireturn, 1) := by decide +kernel
theorem dX6_forgetFrom_0 : decode cX6_forgetFrom 0 = .ok (.aload_n 0, 1) := by decide +kernel
theorem dX6_forgetFrom_1 : decode cX6_forgetFrom 1 = .ok (.getfield 67, 3) := by decide +kernel
theorem dX6_forgetFrom_4 : decode cX6_forgetFrom 4 = .ok (.iconst 1, 1) := by decide +kernel
theorem dX6_forgetFrom_5 : decode cX6_forgetFrom 5 = .ok (.isub, 1) := by decide +kernel
theorem dX6_forgetFrom_6 : decode cX6_forgetFrom 6 = .ok (.istore_n 2, 1) := by decide +kernel
theorem dX6_forgetFrom_7 : decode cX6_forgetFrom 7 = .ok (.iload_n 2, 1) := by decide +kernel
theorem dX6_forgetFrom_8 : decode cX6_forgetFrom 8 = .ok (.iload_n 1, 1) := by decide +kernel
theorem dX6_forgetFrom_9 : decode cX6_forgetFrom 9 = .ok (.if_icmp .lt 46, 3) := by decide +kernel
theorem dX6_forgetFrom_12 : decode cX6_forgetFrom 12 = .ok (.iload_n 2, 1) := by decide +kernel
theorem dX6_forgetFrom_13 : decode cX6_forgetFrom 13 = .ok (.bipush 16, 2) := by decide +kernel
theorem dX6_forgetFrom_15 : decode cX6_forgetFrom 15 = .ok (.if_icmp .le 40, 3) := by decide +kernel
theorem dX6_forgetFrom_18 : decode cX6_forgetFrom 18 = .ok (.aload_n 0, 1) := by decide +kernel
theorem dX6_forgetFrom_19 : decode cX6_forgetFrom 19 = .ok (.getfield 25, 3) := by decide +kernel
theorem dX6_forgetFrom_22 : decode cX6_forgetFrom 22 = .ok (.aload_n 0, 1) := by decide +kernel
theorem dX6_forgetFrom_23 : decode cX6_forgetFrom 23 = .ok (.getfield 11, 3) := by decide +kernel
theorem dX6_forgetFrom_26 : decode cX6_forgetFrom 26 = .ok (.iload_n 2, 1) := by decide +kernel
theorem dX6_forgetFrom_27 : decode cX6_forgetFrom 27 = .ok (.laload, 1) := by decide +kernel
theorem dX6_forgetFrom_28 : decode cX6_forgetFrom 28 = .ok (.aload_n 0, 1) := by decide +kernel
theorem dX6_forgetFrom_29 : decode cX6_forgetFrom 29 = .ok (.getfield 15, 3) := by decide +kernel
theorem dX6_forgetFrom_32 : decode cX6_forgetFrom 32 = .ok (.iload_n 2, 1) := by decide +kernel
theorem dX6_forgetFrom_33 : decode cX6_forgetFrom 33 = .ok (.iaload, 1) := by decide +kernel
theorem dX6_forgetFrom_34 : decode cX6_forgetFrom 34 = .ok (.invokestatic 94, 3) := by decide +kernel
theorem dX6_forgetFrom_37 : decode cX6_forgetFrom 37 = .ok (.aload_n 0, 1) := by decide +kernel
theorem dX6_forgetFrom_38 : decode cX6_forgetFrom 38 = .ok (.getfield 22, 3) := by decide +kernel
theorem dX6_forgetFrom_41 : decode cX6_forgetFrom 41 = .ok (.iload_n 2, 1) := by decide +kernel
theorem dX6_forgetFrom_42 : decode cX6_forgetFrom 42 = .ok (.iaload, 1) := by decide +kernel
theorem dX6_forgetFrom_43 : decode cX6_forgetFrom 43 = .ok (.iastore, 1) := by decide +kernel
theorem dX6_forgetFrom_44 : decode cX6_forgetFrom 44 = .ok (.aload_n 0, 1) := by decide +kernel
theorem dX6_forgetFrom_45 : decode cX6_forgetFrom 45 = .ok (.iload_n 2, 1) := by decide +kernel
theorem dX6_forgetFrom_46 : decode cX6_forgetFrom 46 = .ok (.putfield 67, 3) := by decide +kernel
theorem dX6_forgetFrom_49 : decode cX6_forgetFrom 49 = .ok (.iinc 2 (-1), 3) := by decide +kernel
theorem dX6_forgetFrom_52 : decode cX6_forgetFrom 52 = .ok (.goto (-45), 3) := by decide +kernel
theorem dX6_forgetFrom_55 : decode cX6_forgetFrom 55 = .ok (.return_, 1) := by decide +kernel
theorem dX6_hold_0 : decode cX6_hold 0 = .ok (.lload_n 1, 1) := by decide +kernel
theorem dX6_hold_1 : decode cX6_hold 1 = .ok (.iload_n 3, 1) := by decide +kernel
theorem dX6_hold_2 : decode cX6_hold 2 = .ok (.invokestatic 94, 3) := by decide +kernel
theorem dX6_hold_5 : decode cX6_hold 5 = .ok (.istore 5, 2) := by decide +kernel
theorem dX6_hold_7 : decode cX6_hold 7 = .ok (.aload_n 0, 1) := by decide +kernel
theorem dX6_hold_8 : decode cX6_hold 8 = .ok (.getfield 25, 3) := by decide +kernel
theorem dX6_hold_11 : decode cX6_hold 11 = .ok (.iload 5, 2) := by decide +kernel
theorem dX6_hold_13 : decode cX6_hold 13 = .ok (.iaload, 1) := by decide +kernel
theorem dX6_hold_14 : decode cX6_hold 14 = .ok (.istore 6, 2) := by decide +kernel
theorem dX6_hold_16 : decode cX6_hold 16 = .ok (.iconst 0, 1) := by decide +kernel
theorem dX6_hold_17 : decode cX6_hold 17 = .ok (.istore 7, 2) := by decide +kernel
theorem dX6_hold_19 : decode cX6_hold 19 = .ok (.iload 7, 2) := by decide +kernel
theorem dX6_hold_21 : decode cX6_hold 21 = .ok (.aload_n 0, 1) := by decide +kernel
theorem dX6_hold_22 : decode cX6_hold 22 = .ok (.getfield 67, 3) := by decide +kernel
theorem dX6_hold_25 : decode cX6_hold 25 = .ok (.if_icmp .ge 58, 3) := by decide +kernel
theorem dX6_hold_28 : decode cX6_hold 28 = .ok (.iload 6, 2) := by decide +kernel
theorem dX6_hold_30 : decode cX6_hold 30 = .ok (.ifCond .lt 53, 3) := by decide +kernel
theorem dX6_hold_33 : decode cX6_hold 33 = .ok (.iload 6, 2) := by decide +kernel
theorem dX6_hold_35 : decode cX6_hold 35 = .ok (.aload_n 0, 1) := by decide +kernel
theorem dX6_hold_36 : decode cX6_hold 36 = .ok (.getfield 67, 3) := by decide +kernel
theorem dX6_hold_39 : decode cX6_hold 39 = .ok (.if_icmp .ge 44, 3) := by decide +kernel
theorem dX6_hold_42 : decode cX6_hold 42 = .ok (.aload_n 0, 1) := by decide +kernel
theorem dX6_hold_43 : decode cX6_hold 43 = .ok (.getfield 11, 3) := by decide +kernel
theorem dX6_hold_46 : decode cX6_hold 46 = .ok (.iload 6, 2) := by decide +kernel
theorem dX6_hold_48 : decode cX6_hold 48 = .ok (.laload, 1) := by decide +kernel
theorem dX6_hold_49 : decode cX6_hold 49 = .ok (.lload_n 1, 1) := by decide +kernel
theorem dX6_hold_50 : decode cX6_hold 50 = .ok (.lcmp, 1) := by decide +kernel
theorem dX6_hold_51 : decode cX6_hold 51 = .ok (.ifCond .ne 17, 3) := by decide +kernel
theorem dX6_hold_54 : decode cX6_hold 54 = .ok (.aload_n 0, 1) := by decide +kernel
theorem dX6_hold_55 : decode cX6_hold 55 = .ok (.getfield 15, 3) := by decide +kernel
theorem dX6_hold_58 : decode cX6_hold 58 = .ok (.iload 6, 2) := by decide +kernel
theorem dX6_hold_60 : decode cX6_hold 60 = .ok (.iaload, 1) := by decide +kernel
theorem dX6_hold_61 : decode cX6_hold 61 = .ok (.iload_n 3, 1) := by decide +kernel
theorem dX6_hold_62 : decode cX6_hold 62 = .ok (.if_icmp .ne 6, 3) := by decide +kernel
theorem dX6_hold_65 : decode cX6_hold 65 = .ok (.iload 6, 2) := by decide +kernel
theorem dX6_hold_67 : decode cX6_hold 67 = .ok (.ireturn, 1) := by decide +kernel
theorem dX6_hold_68 : decode cX6_hold 68 = .ok (.aload_n 0, 1) := by decide +kernel
theorem dX6_hold_69 : decode cX6_hold 69 = .ok (.getfield 22, 3) := by decide +kernel
theorem dX6_hold_72 : decode cX6_hold 72 = .ok (.iload 6, 2) := by decide +kernel
theorem dX6_hold_74 : decode cX6_hold 74 = .ok (.iaload, 1) := by decide +kernel
theorem dX6_hold_75 : decode cX6_hold 75 = .ok (.istore 6, 2) := by decide +kernel
theorem dX6_hold_77 : decode cX6_hold 77 = .ok (.iinc 7 1, 3) := by decide +kernel
theorem dX6_hold_80 : decode cX6_hold 80 = .ok (.goto (-61), 3) := by decide +kernel
theorem dX6_hold_83 : decode cX6_hold 83 = .ok (.aload_n 0, 1) := by decide +kernel
theorem dX6_hold_84 : decode cX6_hold 84 = .ok (.getfield 67, 3) := by decide +kernel
theorem dX6_hold_87 : decode cX6_hold 87 = .ok (.aload_n 0, 1) := by decide +kernel
theorem dX6_hold_88 : decode cX6_hold 88 = .ok (.getfield 15, 3) := by decide +kernel
theorem dX6_hold_91 : decode cX6_hold 91 = .ok (.arraylength, 1) := by decide +kernel
theorem dX6_hold_92 : decode cX6_hold 92 = .ok (.if_icmp .lt 5, 3) := by decide +kernel
theorem dX6_hold_95 : decode cX6_hold 95 = .ok (.iconst 0, 1) := by decide +kernel
theorem dX6_hold_96 : decode cX6_hold 96 = .ok (.ireturn, 1) := by decide +kernel
theorem dX6_hold_97 : decode cX6_hold 97 = .ok (.aload_n 0, 1) := by decide +kernel
theorem dX6_hold_98 : decode cX6_hold 98 = .ok (.getfield 11, 3) := by decide +kernel
theorem dX6_hold_101 : decode cX6_hold 101 = .ok (.aload_n 0, 1) := by decide +kernel
theorem dX6_hold_102 : decode cX6_hold 102 = .ok (.getfield 67, 3) := by decide +kernel
theorem dX6_hold_105 : decode cX6_hold 105 = .ok (.lload_n 1, 1) := by decide +kernel
theorem dX6_hold_106 : decode cX6_hold 106 = .ok (.lastore, 1) := by decide +kernel
theorem dX6_hold_107 : decode cX6_hold 107 = .ok (.aload_n 0, 1) := by decide +kernel
theorem dX6_hold_108 : decode cX6_hold 108 = .ok (.getfield 15, 3) := by decide +kernel
theorem dX6_hold_111 : decode cX6_hold 111 = .ok (.aload_n 0, 1) := by decide +kernel
theorem dX6_hold_112 : decode cX6_hold 112 = .ok (.getfield 67, 3) := by decide +kernel
theorem dX6_hold_115 : decode cX6_hold 115 = .ok (.iload_n 3, 1) := by decide +kernel
theorem dX6_hold_116 : decode cX6_hold 116 = .ok (.iastore, 1) := by decide +kernel
theorem dX6_hold_117 : decode cX6_hold 117 = .ok (.aload_n 0, 1) := by decide +kernel
theorem dX6_hold_118 : decode cX6_hold 118 = .ok (.getfield 19, 3) := by decide +kernel
theorem dX6_hold_121 : decode cX6_hold 121 = .ok (.aload_n 0, 1) := by decide +kernel
theorem dX6_hold_122 : decode cX6_hold 122 = .ok (.getfield 67, 3) := by decide +kernel
theorem dX6_hold_125 : decode cX6_hold 125 = .ok (.iload 4, 2) := by decide +kernel
theorem dX6_hold_127 : decode cX6_hold 127 = .ok (.iastore, 1) := by decide +kernel
theorem dX6_hold_128 : decode cX6_hold 128 = .ok (.aload_n 0, 1) := by decide +kernel
theorem dX6_hold_129 : decode cX6_hold 129 = .ok (.getfield 22, 3) := by decide +kernel
theorem dX6_hold_132 : decode cX6_hold 132 = .ok (.aload_n 0, 1) := by decide +kernel
theorem dX6_hold_133 : decode cX6_hold 133 = .ok (.getfield 67, 3) := by decide +kernel
theorem dX6_hold_136 : decode cX6_hold 136 = .ok (.aload_n 0, 1) := by decide +kernel
theorem dX6_hold_137 : decode cX6_hold 137 = .ok (.getfield 25, 3) := by decide +kernel
theorem dX6_hold_140 : decode cX6_hold 140 = .ok (.iload 5, 2) := by decide +kernel
theorem dX6_hold_142 : decode cX6_hold 142 = .ok (.iaload, 1) := by decide +kernel
theorem dX6_hold_143 : decode cX6_hold 143 = .ok (.iastore, 1) := by decide +kernel
theorem dX6_hold_144 : decode cX6_hold 144 = .ok (.aload_n 0, 1) := by decide +kernel
theorem dX6_hold_145 : decode cX6_hold 145 = .ok (.getfield 25, 3) := by decide +kernel
theorem dX6_hold_148 : decode cX6_hold 148 = .ok (.iload 5, 2) := by decide +kernel
theorem dX6_hold_150 : decode cX6_hold 150 = .ok (.aload_n 0, 1) := by decide +kernel
theorem dX6_hold_151 : decode cX6_hold 151 = .ok (.getfield 67, 3) := by decide +kernel
theorem dX6_hold_154 : decode cX6_hold 154 = .ok (.iastore, 1) := by decide +kernel
theorem dX6_hold_155 : decode cX6_hold 155 = .ok (.aload_n 0, 1) := by decide +kernel
theorem dX6_hold_156 : decode cX6_hold 156 = .ok (.dup, 1) := by decide +kernel
theorem dX6_hold_157 : decode cX6_hold 157 = .ok (.getfield 67, 3) := by decide +kernel
theorem dX6_hold_160 : decode cX6_hold 160 = .ok (.dup_x1, 1) := by decide +kernel
theorem dX6_hold_161 : decode cX6_hold 161 = .ok (.iconst 1, 1) := by decide +kernel
theorem dX6_hold_162 : decode cX6_hold 162 = .ok (.iadd, 1) := by decide +kernel
theorem dX6_hold_163 : decode cX6_hold 163 = .ok (.putfield 67, 3) := by decide +kernel
theorem dX6_hold_166 : decode cX6_hold 166 = .ok (.ireturn, 1) := by decide +kernel
theorem dX6_bucketOf_0 : decode cX6_bucketOf 0 = .ok (.lload_n 0, 1) := by decide +kernel
theorem dX6_bucketOf_1 : decode cX6_bucketOf 1 = .ok (.ldc2_w 98, 3) := by decide +kernel
theorem dX6_bucketOf_4 : decode cX6_bucketOf 4 = .ok (.lmul, 1) := by decide +kernel
theorem dX6_bucketOf_5 : decode cX6_bucketOf 5 = .ok (.iload_n 2, 1) := by decide +kernel
theorem dX6_bucketOf_6 : decode cX6_bucketOf 6 = .ok (.i2l, 1) := by decide +kernel
theorem dX6_bucketOf_7 : decode cX6_bucketOf 7 = .ok (.ladd, 1) := by decide +kernel
theorem dX6_bucketOf_8 : decode cX6_bucketOf 8 = .ok (.ldc2_w 100, 3) := by decide +kernel
theorem dX6_bucketOf_11 : decode cX6_bucketOf 11 = .ok (.lmul, 1) := by decide +kernel
theorem dX6_bucketOf_12 : decode cX6_bucketOf 12 = .ok (.lstore_n 3, 1) := by decide +kernel
theorem dX6_bucketOf_13 : decode cX6_bucketOf 13 = .ok (.lload_n 3, 1) := by decide +kernel
theorem dX6_bucketOf_14 : decode cX6_bucketOf 14 = .ok (.bipush 54, 2) := by decide +kernel
theorem dX6_bucketOf_16 : decode cX6_bucketOf 16 = .ok (.lushr, 1) := by decide +kernel
theorem dX6_bucketOf_17 : decode cX6_bucketOf 17 = .ok (.l2i, 1) := by decide +kernel
theorem dX6_bucketOf_18 : decode cX6_bucketOf 18 = .ok (.ireturn, 1) := by decide +kernel
theorem dX7_init_0 : decode cX7_init 0 = .ok (.aload_n 0, 1) := by decide +kernel
theorem dX7_init_1 : decode cX7_init 1 = .ok (.invokespecial 3, 3) := by decide +kernel
theorem dX7_init_4 : decode cX7_init 4 = .ok (.aload_n 0, 1) := by decide +kernel
theorem dX7_init_5 : decode cX7_init 5 = .ok (.sipush 2000, 3) := by decide +kernel
theorem dX7_init_8 : decode cX7_init 8 = .ok (.newarray .char, 2) := by decide +kernel
theorem dX7_init_10 : decode cX7_init 10 = .ok (.putfield 9, 3) := by decide +kernel
theorem dX7_init_13 : decode cX7_init 13 = .ok (.aload_n 0, 1) := by decide +kernel
theorem dX7_init_14 : decode cX7_init 14 = .ok (.sipush 2000, 3) := by decide +kernel
theorem dX7_init_17 : decode cX7_init 17 = .ok (.newarray .int, 2) := by decide +kernel
theorem dX7_init_19 : decode cX7_init 19 = .ok (.putfield 15, 3) := by decide +kernel
theorem dX7_init_22 : decode cX7_init 22 = .ok (.aload_n 0, 1) := by decide +kernel
theorem dX7_init_23 : decode cX7_init 23 = .ok (.aload_n 1, 1) := by decide +kernel
theorem dX7_init_24 : decode cX7_init 24 = .ok (.putfield 19, 3) := by decide +kernel
theorem dX7_init_27 : decode cX7_init 27 = .ok (.return_, 1) := by decide +kernel
theorem dX7_clear_0 : decode cX7_clear 0 = .ok (.aload_n 0, 1) := by decide +kernel
theorem dX7_clear_1 : decode cX7_clear 1 = .ok (.iconst 0, 1) := by decide +kernel
theorem dX7_clear_2 : decode cX7_clear 2 = .ok (.putfield 23, 3) := by decide +kernel
theorem dX7_clear_5 : decode cX7_clear 5 = .ok (.return_, 1) := by decide +kernel
theorem dX7_characterAt_0 : decode cX7_characterAt 0 = .ok (.iload_n 1, 1) := by decide +kernel
theorem dX7_characterAt_1 : decode cX7_characterAt 1 = .ok (.ifCond .lt 20, 3) := by decide +kernel
theorem dX7_characterAt_4 : decode cX7_characterAt 4 = .ok (.iload_n 1, 1) := by decide +kernel
theorem dX7_characterAt_5 : decode cX7_characterAt 5 = .ok (.aload_n 0, 1) := by decide +kernel
theorem dX7_characterAt_6 : decode cX7_characterAt 6 = .ok (.getfield 23, 3) := by decide +kernel
theorem dX7_characterAt_9 : decode cX7_characterAt 9 = .ok (.if_icmp .ge 12, 3) := by decide +kernel
theorem dX7_characterAt_12 : decode cX7_characterAt 12 = .ok (.aload_n 0, 1) := by decide +kernel
theorem dX7_characterAt_13 : decode cX7_characterAt 13 = .ok (.getfield 9, 3) := by decide +kernel
theorem dX7_characterAt_16 : decode cX7_characterAt 16 = .ok (.iload_n 1, 1) := by decide +kernel
theorem dX7_characterAt_17 : decode cX7_characterAt 17 = .ok (.caload, 1) := by decide +kernel
theorem dX7_characterAt_18 : decode cX7_characterAt 18 = .ok (.goto 4, 3) := by decide +kernel
theorem dX7_characterAt_21 : decode cX7_characterAt 21 = .ok (.iconst (-1), 1) := by decide +kernel
theorem dX7_characterAt_22 : decode cX7_characterAt 22 = .ok (.ireturn, 1) := by decide +kernel
theorem dX7_tell_0 : decode cX7_tell 0 = .ok (.aload_n 0, 1) := by decide +kernel
theorem dX7_tell_1 : decode cX7_tell 1 = .ok (.iconst 0, 1) := by decide +kernel
theorem dX7_tell_2 : decode cX7_tell 2 = .ok (.putfield 27, 3) := by decide +kernel
theorem dX7_tell_5 : decode cX7_tell 5 = .ok (.iload_n 1, 1) := by decide +kernel
theorem dX7_tell_6 : decode cX7_tell 6 = .ok (.istore_n 2, 1) := by decide +kernel
theorem dX7_tell_7 : decode cX7_tell 7 = .ok (.iconst 0, 1) := by decide +kernel
theorem dX7_tell_8 : decode cX7_tell 8 = .ok (.istore_n 3, 1) := by decide +kernel
theorem dX7_tell_9 : decode cX7_tell 9 = .ok (.iload_n 3, 1) := by decide +kernel
theorem dX7_tell_10 : decode cX7_tell 10 = .ok (.sipush 2000, 3) := by decide +kernel
theorem dX7_tell_13 : decode cX7_tell 13 = .ok (.if_icmp .ge 20, 3) := by decide +kernel
theorem dX7_tell_16 : decode cX7_tell 16 = .ok (.iload_n 2, 1) := by decide +kernel
theorem dX7_tell_17 : decode cX7_tell 17 = .ok (.iconst (-1), 1) := by decide +kernel
theorem dX7_tell_18 : decode cX7_tell 18 = .ok (.if_icmp .eq 15, 3) := by decide +kernel
theorem dX7_tell_21 : decode cX7_tell 21 = .ok (.aload_n 0, 1) := by decide +kernel
theorem dX7_tell_22 : decode cX7_tell 22 = .ok (.iload_n 2, 1) := by decide +kernel
theorem dX7_tell_23 : decode cX7_tell 23 = .ok (.invokevirtual 30, 3) := by decide +kernel
theorem dX7_tell_26 : decode cX7_tell 26 = .ok (.istore_n 2, 1) := by decide +kernel
theorem dX7_tell_27 : decode cX7_tell 27 = .ok (.iinc 3 1, 3) := by decide +kernel
theorem dX7_tell_30 : decode cX7_tell 30 = .ok (.goto (-21), 3) := by decide +kernel
theorem dX7_tell_33 : decode cX7_tell 33 = .ok (.return_, 1) := by decide +kernel
theorem dX7_beginObject_0 : decode cX7_beginObject 0 = .ok (.aload_n 0, 1) := by decide +kernel
theorem dX7_beginObject_1 : decode cX7_beginObject 1 = .ok (.getfield 19, 3) := by decide +kernel
theorem dX7_beginObject_4 : decode cX7_beginObject 4 = .ok (.iload_n 1, 1) := by decide +kernel
theorem dX7_beginObject_5 : decode cX7_beginObject 5 = .ok (.invokevirtual 34, 3) := by decide +kernel
theorem dX7_beginObject_8 : decode cX7_beginObject 8 = .ok (.ifCond .eq 18, 3) := by decide +kernel
theorem dX7_beginObject_11 : decode cX7_beginObject 11 = .ok (.aload_n 0, 1) := by decide +kernel
theorem dX7_beginObject_12 : decode cX7_beginObject 12 = .ok (.bipush 39, 2) := by decide +kernel
theorem dX7_beginObject_14 : decode cX7_beginObject 14 = .ok (.invokevirtual 40, 3) := by decide +kernel
theorem dX7_beginObject_17 : decode cX7_beginObject 17 = .ok (.aload_n 0, 1) := by decide +kernel
theorem dX7_beginObject_18 : decode cX7_beginObject 18 = .ok (.getfield 19, 3) := by decide +kernel
theorem dX7_beginObject_21 : decode cX7_beginObject 21 = .ok (.iload_n 1, 1) := by decide +kernel
theorem dX7_beginObject_22 : decode cX7_beginObject 22 = .ok (.invokevirtual 44, 3) := by decide +kernel
theorem dX7_beginObject_25 : decode cX7_beginObject 25 = .ok (.ireturn, 1) := by decide +kernel
theorem dX7_beginObject_26 : decode cX7_beginObject 26 = .ok (.aload_n 0, 1) := by decide +kernel
theorem dX7_beginObject_27 : decode cX7_beginObject 27 = .ok (.getfield 19, 3) := by decide +kernel
theorem dX7_beginObject_30 : decode cX7_beginObject 30 = .ok (.iload_n 1, 1) := by decide +kernel
theorem dX7_beginObject_31 : decode cX7_beginObject 31 = .ok (.invokevirtual 47, 3) := by decide +kernel
theorem dX7_beginObject_34 : decode cX7_beginObject 34 = .ok (.ifCond .eq 15, 3) := by decide +kernel
theorem dX7_beginObject_37 : decode cX7_beginObject 37 = .ok (.aload_n 0, 1) := by decide +kernel
theorem dX7_beginObject_38 : decode cX7_beginObject 38 = .ok (.bipush 40, 2) := by decide +kernel
theorem dX7_beginObject_40 : decode cX7_beginObject 40 = .ok (.invokevirtual 40, 3) := by decide +kernel
theorem dX7_beginObject_43 : decode cX7_beginObject 43 = .ok (.aload_n 0, 1) := by decide +kernel
theorem dX7_beginObject_44 : decode cX7_beginObject 44 = .ok (.iload_n 1, 1) := by decide +kernel
theorem dX7_beginObject_45 : decode cX7_beginObject 45 = .ok (.invokevirtual 50, 3) := by decide +kernel
theorem dX7_beginObject_48 : decode cX7_beginObject 48 = .ok (.ireturn, 1) := by decide +kernel
theorem dX7_beginObject_49 : decode cX7_beginObject 49 = .ok (.aload_n 0, 1) := by decide +kernel
theorem dX7_beginObject_50 : decode cX7_beginObject 50 = .ok (.iload_n 1, 1) := by decide +kernel
theorem dX7_beginObject_51 : decode cX7_beginObject 51 = .ok (.invokevirtual 53, 3) := by decide +kernel
theorem dX7_beginObject_54 : decode cX7_beginObject 54 = .ok (.aload_n 0, 1) := by decide +kernel
theorem dX7_beginObject_55 : decode cX7_beginObject 55 = .ok (.invokevirtual 57, 3) := by decide +kernel
theorem dX7_beginObject_58 : decode cX7_beginObject 58 = .ok (.ireturn, 1) := by decide +kernel
theorem dX7_beginRest_0 : decode cX7_beginRest 0 = .ok (.aload_n 0, 1) := by decide +kernel
theorem dX7_beginRest_1 : decode cX7_beginRest 1 = .ok (.getfield 27, 3) := by decide +kernel
theorem dX7_beginRest_4 : decode cX7_beginRest 4 = .ok (.sipush 2000, 3) := by decide +kernel
theorem dX7_beginRest_7 : decode cX7_beginRest 7 = .ok (.if_icmp .ge 30, 3) := by decide +kernel
theorem dX7_beginRest_10 : decode cX7_beginRest 10 = .ok (.aload_n 0, 1) := by decide +kernel
theorem dX7_beginRest_11 : decode cX7_beginRest 11 = .ok (.getfield 15, 3) := by decide +kernel
theorem dX7_beginRest_14 : decode cX7_beginRest 14 = .ok (.aload_n 0, 1) := by decide +kernel
theorem dX7_beginRest_15 : decode cX7_beginRest 15 = .ok (.getfield 27, 3) := by decide +kernel
theorem dX7_beginRest_18 : decode cX7_beginRest 18 = .ok (.aload_n 0, 1) := by decide +kernel
theorem dX7_beginRest_19 : decode cX7_beginRest 19 = .ok (.getfield 19, 3) := by decide +kernel
theorem dX7_beginRest_22 : decode cX7_beginRest 22 = .ok (.iload_n 1, 1) := by decide +kernel
theorem dX7_beginRest_23 : decode cX7_beginRest 23 = .ok (.invokevirtual 61, 3) := by decide +kernel
theorem dX7_beginRest_26 : decode cX7_beginRest 26 = .ok (.iastore, 1) := by decide +kernel
theorem dX7_beginRest_27 : decode cX7_beginRest 27 = .ok (.aload_n 0, 1) := by decide +kernel
theorem dX7_beginRest_28 : decode cX7_beginRest 28 = .ok (.dup, 1) := by decide +kernel
theorem dX7_beginRest_29 : decode cX7_beginRest 29 = .ok (.getfield 27, 3) := by decide +kernel
theorem dX7_beginRest_32 : decode cX7_beginRest 32 = .ok (.iconst 1, 1) := by decide +kernel
theorem dX7_beginRest_33 : decode cX7_beginRest 33 = .ok (.iadd, 1) := by decide +kernel
theorem dX7_beginRest_34 : decode cX7_beginRest 34 = .ok (.putfield 27, 3) := by decide +kernel
theorem dX7_beginRest_37 : decode cX7_beginRest 37 = .ok (.aload_n 0, 1) := by decide +kernel
theorem dX7_beginRest_38 : decode cX7_beginRest 38 = .ok (.getfield 19, 3) := by decide +kernel
theorem dX7_beginRest_41 : decode cX7_beginRest 41 = .ok (.iload_n 1, 1) := by decide +kernel
theorem dX7_beginRest_42 : decode cX7_beginRest 42 = .ok (.invokevirtual 64, 3) := by decide +kernel
theorem dX7_beginRest_45 : decode cX7_beginRest 45 = .ok (.ireturn, 1) := by decide +kernel
theorem dX7_goOn_0 : decode cX7_goOn 0 = .ok (.aload_n 0, 1) := by decide +kernel
theorem dX7_goOn_1 : decode cX7_goOn 1 = .ok (.getfield 27, 3) := by decide +kernel
theorem dX7_goOn_4 : decode cX7_goOn 4 = .ok (.ifCond .le 82, 3) := by decide +kernel
theorem dX7_goOn_7 : decode cX7_goOn 7 = .ok (.aload_n 0, 1) := by decide +kernel
theorem dX7_goOn_8 : decode cX7_goOn 8 = .ok (.dup, 1) := by decide +kernel
theorem dX7_goOn_9 : decode cX7_goOn 9 = .ok (.getfield 27, 3) := by decide +kernel
theorem dX7_goOn_12 : decode cX7_goOn 12 = .ok (.iconst 1, 1) := by decide +kernel
theorem dX7_goOn_13 : decode cX7_goOn 13 = .ok (.isub, 1) := by decide +kernel
theorem dX7_goOn_14 : decode cX7_goOn 14 = .ok (.putfield 27, 3) := by decide +kernel
theorem dX7_goOn_17 : decode cX7_goOn 17 = .ok (.aload_n 0, 1) := by decide +kernel
theorem dX7_goOn_18 : decode cX7_goOn 18 = .ok (.getfield 15, 3) := by decide +kernel
theorem dX7_goOn_21 : decode cX7_goOn 21 = .ok (.aload_n 0, 1) := by decide +kernel
theorem dX7_goOn_22 : decode cX7_goOn 22 = .ok (.getfield 27, 3) := by decide +kernel
theorem dX7_goOn_25 : decode cX7_goOn 25 = .ok (.iaload, 1) := by decide +kernel
theorem dX7_goOn_26 : decode cX7_goOn 26 = .ok (.istore_n 1, 1) := by decide +kernel
theorem dX7_goOn_27 : decode cX7_goOn 27 = .ok (.aload_n 0, 1) := by decide +kernel
theorem dX7_goOn_28 : decode cX7_goOn 28 = .ok (.getfield 19, 3) := by decide +kernel
theorem dX7_goOn_31 : decode cX7_goOn 31 = .ok (.iload_n 1, 1) := by decide +kernel
theorem dX7_goOn_32 : decode cX7_goOn 32 = .ok (.invokevirtual 47, 3) := by decide +kernel
theorem dX7_goOn_35 : decode cX7_goOn 35 = .ok (.ifCond .eq 15, 3) := by decide +kernel
theorem dX7_goOn_38 : decode cX7_goOn 38 = .ok (.aload_n 0, 1) := by decide +kernel
theorem dX7_goOn_39 : decode cX7_goOn 39 = .ok (.bipush 32, 2) := by decide +kernel
theorem dX7_goOn_41 : decode cX7_goOn 41 = .ok (.invokevirtual 40, 3) := by decide +kernel
theorem dX7_goOn_44 : decode cX7_goOn 44 = .ok (.aload_n 0, 1) := by decide +kernel
theorem dX7_goOn_45 : decode cX7_goOn 45 = .ok (.iload_n 1, 1) := by decide +kernel
theorem dX7_goOn_46 : decode cX7_goOn 46 = .ok (.invokevirtual 50, 3) := by decide +kernel
theorem dX7_goOn_49 : decode cX7_goOn 49 = .ok (.ireturn, 1) := by decide +kernel
theorem dX7_goOn_50 : decode cX7_goOn 50 = .ok (.iload_n 1, 1) := by decide +kernel
theorem dX7_goOn_51 : decode cX7_goOn 51 = .ok (.ifCond .eq 26, 3) := by decide +kernel
theorem dX7_goOn_54 : decode cX7_goOn 54 = .ok (.aload_n 0, 1) := by decide +kernel
theorem dX7_goOn_55 : decode cX7_goOn 55 = .ok (.bipush 32, 2) := by decide +kernel
theorem dX7_goOn_57 : decode cX7_goOn 57 = .ok (.invokevirtual 40, 3) := by decide +kernel
theorem dX7_goOn_60 : decode cX7_goOn 60 = .ok (.aload_n 0, 1) := by decide +kernel
theorem dX7_goOn_61 : decode cX7_goOn 61 = .ok (.bipush 46, 2) := by decide +kernel
theorem dX7_goOn_63 : decode cX7_goOn 63 = .ok (.invokevirtual 40, 3) := by decide +kernel
theorem dX7_goOn_66 : decode cX7_goOn 66 = .ok (.aload_n 0, 1) := by decide +kernel
theorem dX7_goOn_67 : decode cX7_goOn 67 = .ok (.bipush 32, 2) := by decide +kernel
theorem dX7_goOn_69 : decode cX7_goOn 69 = .ok (.invokevirtual 40, 3) := by decide +kernel
theorem dX7_goOn_72 : decode cX7_goOn 72 = .ok (.aload_n 0, 1) := by decide +kernel
theorem dX7_goOn_73 : decode cX7_goOn 73 = .ok (.iload_n 1, 1) := by decide +kernel
theorem dX7_goOn_74 : decode cX7_goOn 74 = .ok (.invokevirtual 53, 3) := by decide +kernel
theorem dX7_goOn_77 : decode cX7_goOn 77 = .ok (.aload_n 0, 1) := by decide +kernel
theorem dX7_goOn_78 : decode cX7_goOn 78 = .ok (.bipush 41, 2) := by decide +kernel
theorem dX7_goOn_80 : decode cX7_goOn 80 = .ok (.invokevirtual 40, 3) := by decide +kernel
theorem dX7_goOn_83 : decode cX7_goOn 83 = .ok (.goto (-83), 3) := by decide +kernel
theorem dX7_goOn_86 : decode cX7_goOn 86 = .ok (.iconst (-1), 1) := by decide +kernel
theorem dX7_goOn_87 : decode cX7_goOn 87 = .ok (.ireturn, 1) := by decide +kernel
theorem dX7_putAtom_0 : decode cX7_putAtom 0 = .ok (.aload_n 0, 1) := by decide +kernel
theorem dX7_putAtom_1 : decode cX7_putAtom 1 = .ok (.getfield 19, 3) := by decide +kernel
theorem dX7_putAtom_4 : decode cX7_putAtom 4 = .ok (.iload_n 1, 1) := by decide +kernel
theorem dX7_putAtom_5 : decode cX7_putAtom 5 = .ok (.invokevirtual 67, 3) := by decide +kernel
theorem dX7_putAtom_8 : decode cX7_putAtom 8 = .ok (.ifCond .eq 18, 3) := by decide +kernel
theorem dX7_putAtom_11 : decode cX7_putAtom 11 = .ok (.aload_n 0, 1) := by decide +kernel
theorem dX7_putAtom_12 : decode cX7_putAtom 12 = .ok (.aload_n 0, 1) := by decide +kernel
theorem dX7_putAtom_13 : decode cX7_putAtom 13 = .ok (.getfield 19, 3) := by decide +kernel
theorem dX7_putAtom_16 : decode cX7_putAtom 16 = .ok (.iload_n 1, 1) := by decide +kernel
theorem dX7_putAtom_17 : decode cX7_putAtom 17 = .ok (.invokevirtual 70, 3) := by decide +kernel
theorem dX7_putAtom_20 : decode cX7_putAtom 20 = .ok (.invokevirtual 74, 3) := by decide +kernel
theorem dX7_putAtom_23 : decode cX7_putAtom 23 = .ok (.goto 15, 3) := by decide +kernel
theorem dX7_putAtom_26 : decode cX7_putAtom 26 = .ok (.aload_n 0, 1) := by decide +kernel
theorem dX7_putAtom_27 : decode cX7_putAtom 27 = .ok (.aload_n 0, 1) := by decide +kernel
theorem dX7_putAtom_28 : decode cX7_putAtom 28 = .ok (.getfield 19, 3) := by decide +kernel
theorem dX7_putAtom_31 : decode cX7_putAtom 31 = .ok (.iload_n 1, 1) := by decide +kernel
theorem dX7_putAtom_32 : decode cX7_putAtom 32 = .ok (.invokevirtual 78, 3) := by decide +kernel
theorem dX7_putAtom_35 : decode cX7_putAtom 35 = .ok (.invokevirtual 81, 3) := by decide +kernel
theorem dX7_putAtom_38 : decode cX7_putAtom 38 = .ok (.return_, 1) := by decide +kernel
theorem dX7_putNatural_0 : decode cX7_putNatural 0 = .ok (.ldc2_w 84, 3) := by decide +kernel
theorem dX7_putNatural_3 : decode cX7_putNatural 3 = .ok (.lstore_n 3, 1) := by decide +kernel
theorem dX7_putNatural_4 : decode cX7_putNatural 4 = .ok (.lload_n 3, 1) := by decide +kernel
theorem dX7_putNatural_5 : decode cX7_putNatural 5 = .ok (.lconst 0, 1) := by decide +kernel
theorem dX7_putNatural_6 : decode cX7_putNatural 6 = .ok (.lcmp, 1) := by decide +kernel
theorem dX7_putNatural_7 : decode cX7_putNatural 7 = .ok (.ifCond .le 41, 3) := by decide +kernel
theorem dX7_putNatural_10 : decode cX7_putNatural 10 = .ok (.lload_n 1, 1) := by decide +kernel
theorem dX7_putNatural_11 : decode cX7_putNatural 11 = .ok (.lload_n 3, 1) := by decide +kernel
theorem dX7_putNatural_12 : decode cX7_putNatural 12 = .ok (.lcmp, 1) := by decide +kernel
theorem dX7_putNatural_13 : decode cX7_putNatural 13 = .ok (.ifCond .ge 9, 3) := by decide +kernel
theorem dX7_putNatural_16 : decode cX7_putNatural 16 = .ok (.lload_n 3, 1) := by decide +kernel
theorem dX7_putNatural_17 : decode cX7_putNatural 17 = .ok (.lconst 1, 1) := by decide +kernel
theorem dX7_putNatural_18 : decode cX7_putNatural 18 = .ok (.lcmp, 1) := by decide +kernel
theorem dX7_putNatural_19 : decode cX7_putNatural 19 = .ok (.ifCond .ne 20, 3) := by decide +kernel
theorem dX7_putNatural_22 : decode cX7_putNatural 22 = .ok (.aload_n 0, 1) := by decide +kernel
theorem dX7_putNatural_23 : decode cX7_putNatural 23 = .ok (.ldc2_w 86, 3) := by decide +kernel
theorem dX7_putNatural_26 : decode cX7_putNatural 26 = .ok (.lload_n 1, 1) := by decide +kernel
theorem dX7_putNatural_27 : decode cX7_putNatural 27 = .ok (.lload_n 3, 1) := by decide +kernel
theorem dX7_putNatural_28 : decode cX7_putNatural 28 = .ok (.ldiv, 1) := by decide +kernel
theorem dX7_putNatural_29 : decode cX7_putNatural 29 = .ok (.ldc2_w 88, 3) := by decide +kernel
theorem dX7_putNatural_32 : decode cX7_putNatural 32 = .ok (.lrem, 1) := by decide +kernel
theorem dX7_putNatural_33 : decode cX7_putNatural 33 = .ok (.ladd, 1) := by decide +kernel
theorem dX7_putNatural_34 : decode cX7_putNatural 34 = .ok (.l2i, 1) := by decide +kernel
theorem dX7_putNatural_35 : decode cX7_putNatural 35 = .ok (.i2c, 1) := by decide +kernel
theorem dX7_putNatural_36 : decode cX7_putNatural 36 = .ok (.invokevirtual 40, 3) := by decide +kernel
theorem dX7_putNatural_39 : decode cX7_putNatural 39 = .ok (.lload_n 3, 1) := by decide +kernel
theorem dX7_putNatural_40 : decode cX7_putNatural 40 = .ok (.ldc2_w 88, 3) := by decide +kernel
theorem dX7_putNatural_43 : decode cX7_putNatural 43 = .ok (.ldiv, 1) := by decide +kernel
theorem dX7_putNatural_44 : decode cX7_putNatural 44 = .ok (.lstore_n 3, 1) := by decide +kernel
theorem dX7_putNatural_45 : decode cX7_putNatural 45 = .ok (.goto (-41), 3) := by decide +kernel
theorem dX7_putNatural_48 : decode cX7_putNatural 48 = .ok (.return_, 1) := by decide +kernel
theorem dX7_putSymbol_0 : decode cX7_putSymbol 0 = .ok (.ldc2_w 90, 3) := by decide +kernel
theorem dX7_putSymbol_3 : decode cX7_putSymbol 3 = .ok (.lstore_n 3, 1) := by decide +kernel
theorem dX7_putSymbol_4 : decode cX7_putSymbol 4 = .ok (.lload_n 3, 1) := by decide +kernel
theorem dX7_putSymbol_5 : decode cX7_putSymbol 5 = .ok (.lconst 0, 1) := by decide +kernel
theorem dX7_putSymbol_6 : decode cX7_putSymbol 6 = .ok (.lcmp, 1) := by decide +kernel
theorem dX7_putSymbol_7 : decode cX7_putSymbol 7 = .ok (.ifCond .le 35, 3) := by decide +kernel
theorem dX7_putSymbol_10 : decode cX7_putSymbol 10 = .ok (.lload_n 1, 1) := by decide +kernel
theorem dX7_putSymbol_11 : decode cX7_putSymbol 11 = .ok (.lload_n 3, 1) := by decide +kernel
theorem dX7_putSymbol_12 : decode cX7_putSymbol 12 = .ok (.lcmp, 1) := by decide +kernel
theorem dX7_putSymbol_13 : decode cX7_putSymbol 13 = .ok (.ifCond .lt 20, 3) := by decide +kernel
theorem dX7_putSymbol_16 : decode cX7_putSymbol 16 = .ok (.aload_n 0, 1) := by decide +kernel
theorem dX7_putSymbol_17 : decode cX7_putSymbol 17 = .ok (.ldc 92, 2) := by decide +kernel
theorem dX7_putSymbol_19 : decode cX7_putSymbol 19 = .ok (.lload_n 1, 1) := by decide +kernel
theorem dX7_putSymbol_20 : decode cX7_putSymbol 20 = .ok (.lload_n 3, 1) := by decide +kernel
theorem dX7_putSymbol_21 : decode cX7_putSymbol 21 = .ok (.ldiv, 1) := by decide +kernel
theorem dX7_putSymbol_22 : decode cX7_putSymbol 22 = .ok (.ldc2_w 94, 3) := by decide +kernel
theorem dX7_putSymbol_25 : decode cX7_putSymbol 25 = .ok (.lrem, 1) := by decide +kernel
theorem dX7_putSymbol_26 : decode cX7_putSymbol 26 = .ok (.l2i, 1) := by decide +kernel
theorem dX7_putSymbol_27 : decode cX7_putSymbol 27 = .ok (.invokevirtual 96, 3) := by decide +kernel
theorem dX7_putSymbol_30 : decode cX7_putSymbol 30 = .ok (.invokevirtual 40, 3) := by decide +kernel
theorem dX7_putSymbol_33 : decode cX7_putSymbol 33 = .ok (.lload_n 3, 1) := by decide +kernel
theorem dX7_putSymbol_34 : decode cX7_putSymbol 34 = .ok (.ldc2_w 94, 3) := by decide +kernel
theorem dX7_putSymbol_37 : decode cX7_putSymbol 37 = .ok (.ldiv, 1) := by decide +kernel
theorem dX7_putSymbol_38 : decode cX7_putSymbol 38 = .ok (.lstore_n 3, 1) := by decide +kernel
theorem dX7_putSymbol_39 : decode cX7_putSymbol 39 = .ok (.goto (-35), 3) := by decide +kernel
theorem dX7_putSymbol_42 : decode cX7_putSymbol 42 = .ok (.return_, 1) := by decide +kernel
theorem dX7_put_0 : decode cX7_put 0 = .ok (.aload_n 0, 1) := by decide +kernel
theorem dX7_put_1 : decode cX7_put 1 = .ok (.getfield 23, 3) := by decide +kernel
theorem dX7_put_4 : decode cX7_put 4 = .ok (.sipush 2000, 3) := by decide +kernel
theorem dX7_put_7 : decode cX7_put 7 = .ok (.if_icmp .ge 23, 3) := by decide +kernel
theorem dX7_put_10 : decode cX7_put 10 = .ok (.aload_n 0, 1) := by decide +kernel
theorem dX7_put_11 : decode cX7_put 11 = .ok (.getfield 9, 3) := by decide +kernel
theorem dX7_put_14 : decode cX7_put 14 = .ok (.aload_n 0, 1) := by decide +kernel
theorem dX7_put_15 : decode cX7_put 15 = .ok (.getfield 23, 3) := by decide +kernel
theorem dX7_put_18 : decode cX7_put 18 = .ok (.iload_n 1, 1) := by decide +kernel
theorem dX7_put_19 : decode cX7_put 19 = .ok (.castore, 1) := by decide +kernel
theorem dX7_put_20 : decode cX7_put 20 = .ok (.aload_n 0, 1) := by decide +kernel
theorem dX7_put_21 : decode cX7_put 21 = .ok (.dup, 1) := by decide +kernel
theorem dX7_put_22 : decode cX7_put 22 = .ok (.getfield 23, 3) := by decide +kernel
theorem dX7_put_25 : decode cX7_put 25 = .ok (.iconst 1, 1) := by decide +kernel
theorem dX7_put_26 : decode cX7_put 26 = .ok (.iadd, 1) := by decide +kernel
theorem dX7_put_27 : decode cX7_put 27 = .ok (.putfield 23, 3) := by decide +kernel
theorem dX7_put_30 : decode cX7_put 30 = .ok (.return_, 1) := by decide +kernel
theorem dX8_init_0 : decode cX8_init 0 = .ok (.aload_n 0, 1) := by decide +kernel
theorem dX8_init_1 : decode cX8_init 1 = .ok (.invokespecial 3, 3) := by decide +kernel
theorem dX8_init_4 : decode cX8_init 4 = .ok (.aload_n 0, 1) := by decide +kernel
theorem dX8_init_5 : decode cX8_init 5 = .ok (.bipush 120, 2) := by decide +kernel
theorem dX8_init_7 : decode cX8_init 7 = .ok (.newarray .int, 2) := by decide +kernel
theorem dX8_init_9 : decode cX8_init 9 = .ok (.putfield 9, 3) := by decide +kernel
theorem dX8_init_12 : decode cX8_init 12 = .ok (.aload_n 0, 1) := by decide +kernel
theorem dX8_init_13 : decode cX8_init 13 = .ok (.aload_n 1, 1) := by decide +kernel
theorem dX8_init_14 : decode cX8_init 14 = .ok (.putfield 15, 3) := by decide +kernel
theorem dX8_init_17 : decode cX8_init 17 = .ok (.aload_n 0, 1) := by decide +kernel
theorem dX8_init_18 : decode cX8_init 18 = .ok (.aload_n 2, 1) := by decide +kernel
theorem dX8_init_19 : decode cX8_init 19 = .ok (.putfield 19, 3) := by decide +kernel
theorem dX8_init_22 : decode cX8_init 22 = .ok (.return_, 1) := by decide +kernel
theorem dX8_isTerm_0 : decode cX8_isTerm 0 = .ok (.aload_n 0, 1) := by decide +kernel
theorem dX8_isTerm_1 : decode cX8_isTerm 1 = .ok (.iload_n 1, 1) := by decide +kernel
theorem dX8_isTerm_2 : decode cX8_isTerm 2 = .ok (.invokevirtual 23, 3) := by decide +kernel
theorem dX8_isTerm_5 : decode cX8_isTerm 5 = .ok (.iconst 0, 1) := by decide +kernel
theorem dX8_isTerm_6 : decode cX8_isTerm 6 = .ok (.istore 5, 2) := by decide +kernel
theorem dX8_isTerm_8 : decode cX8_isTerm 8 = .ok (.iload 5, 2) := by decide +kernel
theorem dX8_isTerm_10 : decode cX8_isTerm 10 = .ok (.aload_n 0, 1) := by decide +kernel
theorem dX8_isTerm_11 : decode cX8_isTerm 11 = .ok (.getfield 27, 3) := by decide +kernel
theorem dX8_isTerm_14 : decode cX8_isTerm 14 = .ok (.if_icmp .ge 144, 3) := by decide +kernel
theorem dX8_isTerm_17 : decode cX8_isTerm 17 = .ok (.iload 5, 2) := by decide +kernel
theorem dX8_isTerm_19 : decode cX8_isTerm 19 = .ok (.bipush 120, 2) := by decide +kernel
theorem dX8_isTerm_21 : decode cX8_isTerm 21 = .ok (.if_icmp .ge 137, 3) := by decide +kernel
theorem dX8_isTerm_24 : decode cX8_isTerm 24 = .ok (.aload_n 0, 1) := by decide +kernel
theorem dX8_isTerm_25 : decode cX8_isTerm 25 = .ok (.getfield 9, 3) := by decide +kernel
theorem dX8_isTerm_28 : decode cX8_isTerm 28 = .ok (.iload 5, 2) := by decide +kernel
theorem dX8_isTerm_30 : decode cX8_isTerm 30 = .ok (.iaload, 1) := by decide +kernel
theorem dX8_isTerm_31 : decode cX8_isTerm 31 = .ok (.istore 6, 2) := by decide +kernel
theorem dX8_isTerm_33 : decode cX8_isTerm 33 = .ok (.aload_n 0, 1) := by decide +kernel
theorem dX8_isTerm_34 : decode cX8_isTerm 34 = .ok (.getfield 15, 3) := by decide +kernel
theorem dX8_isTerm_37 : decode cX8_isTerm 37 = .ok (.iload 6, 2) := by decide +kernel
theorem dX8_isTerm_39 : decode cX8_isTerm 39 = .ok (.invokevirtual 31, 3) := by decide +kernel
theorem dX8_isTerm_42 : decode cX8_isTerm 42 = .ok (.ifCond .eq 18, 3) := by decide +kernel
theorem dX8_isTerm_45 : decode cX8_isTerm 45 = .ok (.aload_n 0, 1) := by decide +kernel
theorem dX8_isTerm_46 : decode cX8_isTerm 46 = .ok (.getfield 15, 3) := by decide +kernel
theorem dX8_isTerm_49 : decode cX8_isTerm 49 = .ok (.iload 6, 2) := by decide +kernel
theorem dX8_isTerm_51 : decode cX8_isTerm 51 = .ok (.iload_n 2, 1) := by decide +kernel
theorem dX8_isTerm_52 : decode cX8_isTerm 52 = .ok (.invokevirtual 37, 3) := by decide +kernel
theorem dX8_isTerm_55 : decode cX8_isTerm 55 = .ok (.ifCond .ne 97, 3) := by decide +kernel
theorem dX8_isTerm_58 : decode cX8_isTerm 58 = .ok (.iconst 0, 1) := by decide +kernel
theorem dX8_isTerm_59 : decode cX8_isTerm 59 = .ok (.ireturn, 1) := by decide +kernel
theorem dX8_isTerm_60 : decode cX8_isTerm 60 = .ok (.aload_n 0, 1) := by decide +kernel
theorem dX8_isTerm_61 : decode cX8_isTerm 61 = .ok (.getfield 15, 3) := by decide +kernel
theorem dX8_isTerm_64 : decode cX8_isTerm 64 = .ok (.iload 6, 2) := by decide +kernel
theorem dX8_isTerm_66 : decode cX8_isTerm 66 = .ok (.invokevirtual 41, 3) := by decide +kernel
theorem dX8_isTerm_69 : decode cX8_isTerm 69 = .ok (.ifCond .eq 83, 3) := by decide +kernel
theorem dX8_isTerm_72 : decode cX8_isTerm 72 = .ok (.aload_n 0, 1) := by decide +kernel
theorem dX8_isTerm_73 : decode cX8_isTerm 73 = .ok (.getfield 15, 3) := by decide +kernel
theorem dX8_isTerm_76 : decode cX8_isTerm 76 = .ok (.iload 6, 2) := by decide +kernel
theorem dX8_isTerm_78 : decode cX8_isTerm 78 = .ok (.invokevirtual 44, 3) := by decide +kernel
theorem dX8_isTerm_81 : decode cX8_isTerm 81 = .ok (.ifCond .ne 71, 3) := by decide +kernel
theorem dX8_isTerm_84 : decode cX8_isTerm 84 = .ok (.aload_n 0, 1) := by decide +kernel
theorem dX8_isTerm_85 : decode cX8_isTerm 85 = .ok (.getfield 15, 3) := by decide +kernel
theorem dX8_isTerm_88 : decode cX8_isTerm 88 = .ok (.iload 6, 2) := by decide +kernel
theorem dX8_isTerm_90 : decode cX8_isTerm 90 = .ok (.invokevirtual 47, 3) := by decide +kernel
theorem dX8_isTerm_93 : decode cX8_isTerm 93 = .ok (.istore 7, 2) := by decide +kernel
theorem dX8_isTerm_95 : decode cX8_isTerm 95 = .ok (.iload 7, 2) := by decide +kernel
theorem dX8_isTerm_97 : decode cX8_isTerm 97 = .ok (.iload_n 3, 1) := by decide +kernel
theorem dX8_isTerm_98 : decode cX8_isTerm 98 = .ok (.if_icmp .ne 8, 3) := by decide +kernel
theorem dX8_isTerm_101 : decode cX8_isTerm 101 = .ok (.iload 4, 2) := by decide +kernel
theorem dX8_isTerm_103 : decode cX8_isTerm 103 = .ok (.goto 9, 3) := by decide +kernel
theorem dX8_isTerm_106 : decode cX8_isTerm 106 = .ok (.aload_n 0, 1) := by decide +kernel
theorem dX8_isTerm_107 : decode cX8_isTerm 107 = .ok (.iload 7, 2) := by decide +kernel
theorem dX8_isTerm_109 : decode cX8_isTerm 109 = .ok (.invokevirtual 51, 3) := by decide +kernel
theorem dX8_isTerm_112 : decode cX8_isTerm 112 = .ok (.istore 8, 2) := by decide +kernel
theorem dX8_isTerm_114 : decode cX8_isTerm 114 = .ok (.iload 8, 2) := by decide +kernel
theorem dX8_isTerm_116 : decode cX8_isTerm 116 = .ok (.iconst (-1), 1) := by decide +kernel
theorem dX8_isTerm_117 : decode cX8_isTerm 117 = .ok (.if_icmp .eq 33, 3) := by decide +kernel
theorem dX8_isTerm_120 : decode cX8_isTerm 120 = .ok (.iload 8, 2) := by decide +kernel
theorem dX8_isTerm_122 : decode cX8_isTerm 122 = .ok (.aload_n 0, 1) := by decide +kernel
theorem dX8_isTerm_123 : decode cX8_isTerm 123 = .ok (.getfield 15, 3) := by decide +kernel
theorem dX8_isTerm_126 : decode cX8_isTerm 126 = .ok (.aload_n 0, 1) := by decide +kernel
theorem dX8_isTerm_127 : decode cX8_isTerm 127 = .ok (.getfield 15, 3) := by decide +kernel
theorem dX8_isTerm_130 : decode cX8_isTerm 130 = .ok (.iload 6, 2) := by decide +kernel
theorem dX8_isTerm_132 : decode cX8_isTerm 132 = .ok (.invokevirtual 54, 3) := by decide +kernel
theorem dX8_isTerm_135 : decode cX8_isTerm 135 = .ok (.invokevirtual 57, 3) := by decide +kernel
theorem dX8_isTerm_138 : decode cX8_isTerm 138 = .ok (.if_icmp .ne 12, 3) := by decide +kernel
theorem dX8_isTerm_141 : decode cX8_isTerm 141 = .ok (.aload_n 0, 1) := by decide +kernel
theorem dX8_isTerm_142 : decode cX8_isTerm 142 = .ok (.iload 6, 2) := by decide +kernel
theorem dX8_isTerm_144 : decode cX8_isTerm 144 = .ok (.invokevirtual 60, 3) := by decide +kernel
theorem dX8_isTerm_147 : decode cX8_isTerm 147 = .ok (.ifCond .ne 5, 3) := by decide +kernel
theorem dX8_isTerm_150 : decode cX8_isTerm 150 = .ok (.iconst 0, 1) := by decide +kernel
theorem dX8_isTerm_151 : decode cX8_isTerm 151 = .ok (.ireturn, 1) := by decide +kernel
theorem dX8_isTerm_152 : decode cX8_isTerm 152 = .ok (.iinc 5 1, 3) := by decide +kernel
theorem dX8_isTerm_155 : decode cX8_isTerm 155 = .ok (.goto (-147), 3) := by decide +kernel
theorem dX8_isTerm_158 : decode cX8_isTerm 158 = .ok (.iconst 1, 1) := by decide +kernel
theorem dX8_isTerm_159 : decode cX8_isTerm 159 = .ok (.ireturn, 1) := by decide +kernel
theorem dX8_isCalled_0 : decode cX8_isCalled 0 = .ok (.aload_n 0, 1) := by decide +kernel
theorem dX8_isCalled_1 : decode cX8_isCalled 1 = .ok (.iload_n 2, 1) := by decide +kernel
theorem dX8_isCalled_2 : decode cX8_isCalled 2 = .ok (.invokevirtual 63, 3) := by decide +kernel
theorem dX8_isCalled_5 : decode cX8_isCalled 5 = .ok (.iconst 0, 1) := by decide +kernel
theorem dX8_isCalled_6 : decode cX8_isCalled 6 = .ok (.istore_n 3, 1) := by decide +kernel
theorem dX8_isCalled_7 : decode cX8_isCalled 7 = .ok (.iload_n 3, 1) := by decide +kernel
theorem dX8_isCalled_8 : decode cX8_isCalled 8 = .ok (.aload_n 0, 1) := by decide +kernel
theorem dX8_isCalled_9 : decode cX8_isCalled 9 = .ok (.getfield 27, 3) := by decide +kernel
theorem dX8_isCalled_12 : decode cX8_isCalled 12 = .ok (.if_icmp .ge 47, 3) := by decide +kernel
theorem dX8_isCalled_15 : decode cX8_isCalled 15 = .ok (.iload_n 3, 1) := by decide +kernel
theorem dX8_isCalled_16 : decode cX8_isCalled 16 = .ok (.bipush 120, 2) := by decide +kernel
theorem dX8_isCalled_18 : decode cX8_isCalled 18 = .ok (.if_icmp .ge 41, 3) := by decide +kernel
theorem dX8_isCalled_21 : decode cX8_isCalled 21 = .ok (.aload_n 0, 1) := by decide +kernel
theorem dX8_isCalled_22 : decode cX8_isCalled 22 = .ok (.aload_n 0, 1) := by decide +kernel
theorem dX8_isCalled_23 : decode cX8_isCalled 23 = .ok (.getfield 9, 3) := by decide +kernel
theorem dX8_isCalled_26 : decode cX8_isCalled 26 = .ok (.iload_n 3, 1) := by decide +kernel
theorem dX8_isCalled_27 : decode cX8_isCalled 27 = .ok (.iaload, 1) := by decide +kernel
theorem dX8_isCalled_28 : decode cX8_isCalled 28 = .ok (.invokevirtual 66, 3) := by decide +kernel
theorem dX8_isCalled_31 : decode cX8_isCalled 31 = .ok (.ifCond .eq 22, 3) := by decide +kernel
theorem dX8_isCalled_34 : decode cX8_isCalled 34 = .ok (.aload_n 0, 1) := by decide +kernel
theorem dX8_isCalled_35 : decode cX8_isCalled 35 = .ok (.getfield 15, 3) := by decide +kernel
theorem dX8_isCalled_38 : decode cX8_isCalled 38 = .ok (.aload_n 0, 1) := by decide +kernel
theorem dX8_isCalled_39 : decode cX8_isCalled 39 = .ok (.getfield 9, 3) := by decide +kernel
theorem dX8_isCalled_42 : decode cX8_isCalled 42 = .ok (.iload_n 3, 1) := by decide +kernel
theorem dX8_isCalled_43 : decode cX8_isCalled 43 = .ok (.iaload, 1) := by decide +kernel
theorem dX8_isCalled_44 : decode cX8_isCalled 44 = .ok (.invokevirtual 47, 3) := by decide +kernel
theorem dX8_isCalled_47 : decode cX8_isCalled 47 = .ok (.iload_n 1, 1) := by decide +kernel
theorem dX8_isCalled_48 : decode cX8_isCalled 48 = .ok (.if_icmp .ne 5, 3) := by decide +kernel
theorem dX8_isCalled_51 : decode cX8_isCalled 51 = .ok (.iconst 1, 1) := by decide +kernel
theorem dX8_isCalled_52 : decode cX8_isCalled 52 = .ok (.ireturn, 1) := by decide +kernel
theorem dX8_isCalled_53 : decode cX8_isCalled 53 = .ok (.iinc 3 1, 3) := by decide +kernel
theorem dX8_isCalled_56 : decode cX8_isCalled 56 = .ok (.goto (-49), 3) := by decide +kernel
theorem dX8_isCalled_59 : decode cX8_isCalled 59 = .ok (.iconst 0, 1) := by decide +kernel
theorem dX8_isCalled_60 : decode cX8_isCalled 60 = .ok (.ireturn, 1) := by decide +kernel
theorem dX8_plain_0 : decode cX8_plain 0 = .ok (.aload_n 0, 1) := by decide +kernel
theorem dX8_plain_1 : decode cX8_plain 1 = .ok (.iload_n 1, 1) := by decide +kernel
theorem dX8_plain_2 : decode cX8_plain 2 = .ok (.invokevirtual 63, 3) := by decide +kernel
theorem dX8_plain_5 : decode cX8_plain 5 = .ok (.aload_n 0, 1) := by decide +kernel
theorem dX8_plain_6 : decode cX8_plain 6 = .ok (.getfield 27, 3) := by decide +kernel
theorem dX8_plain_9 : decode cX8_plain 9 = .ok (.istore_n 2, 1) := by decide +kernel
theorem dX8_plain_10 : decode cX8_plain 10 = .ok (.aload_n 0, 1) := by decide +kernel
theorem dX8_plain_11 : decode cX8_plain 11 = .ok (.getfield 27, 3) := by decide +kernel
theorem dX8_plain_14 : decode cX8_plain 14 = .ok (.iconst 1, 1) := by decide +kernel
theorem dX8_plain_15 : decode cX8_plain 15 = .ok (.isub, 1) := by decide +kernel
theorem dX8_plain_16 : decode cX8_plain 16 = .ok (.istore_n 3, 1) := by decide +kernel
theorem dX8_plain_17 : decode cX8_plain 17 = .ok (.iload_n 3, 1) := by decide +kernel
theorem dX8_plain_18 : decode cX8_plain 18 = .ok (.ifCond .lt 124, 3) := by decide +kernel
theorem dX8_plain_21 : decode cX8_plain 21 = .ok (.aload_n 0, 1) := by decide +kernel
theorem dX8_plain_22 : decode cX8_plain 22 = .ok (.getfield 9, 3) := by decide +kernel
theorem dX8_plain_25 : decode cX8_plain 25 = .ok (.iload_n 3, 1) := by decide +kernel
theorem dX8_plain_26 : decode cX8_plain 26 = .ok (.iaload, 1) := by decide +kernel
theorem dX8_plain_27 : decode cX8_plain 27 = .ok (.istore 4, 2) := by decide +kernel
theorem dX8_plain_29 : decode cX8_plain 29 = .ok (.aload_n 0, 1) := by decide +kernel
theorem dX8_plain_30 : decode cX8_plain 30 = .ok (.iload 4, 2) := by decide +kernel
theorem dX8_plain_32 : decode cX8_plain 32 = .ok (.invokevirtual 66, 3) := by decide +kernel
theorem dX8_plain_35 : decode cX8_plain 35 = .ok (.ifCond .eq 58, 3) := by decide +kernel
theorem dX8_plain_38 : decode cX8_plain 38 = .ok (.iload_n 2, 1) := by decide +kernel
theorem dX8_plain_39 : decode cX8_plain 39 = .ok (.aload_n 0, 1) := by decide +kernel
theorem dX8_plain_40 : decode cX8_plain 40 = .ok (.getfield 15, 3) := by decide +kernel
theorem dX8_plain_43 : decode cX8_plain 43 = .ok (.aload_n 0, 1) := by decide +kernel
theorem dX8_plain_44 : decode cX8_plain 44 = .ok (.getfield 15, 3) := by decide +kernel
theorem dX8_plain_47 : decode cX8_plain 47 = .ok (.iload 4, 2) := by decide +kernel
theorem dX8_plain_49 : decode cX8_plain 49 = .ok (.invokevirtual 54, 3) := by decide +kernel
theorem dX8_plain_52 : decode cX8_plain 52 = .ok (.invokevirtual 57, 3) := by decide +kernel
theorem dX8_plain_55 : decode cX8_plain 55 = .ok (.isub, 1) := by decide +kernel
theorem dX8_plain_56 : decode cX8_plain 56 = .ok (.istore 5, 2) := by decide +kernel
theorem dX8_plain_58 : decode cX8_plain 58 = .ok (.aload_n 0, 1) := by decide +kernel
theorem dX8_plain_59 : decode cX8_plain 59 = .ok (.getfield 9, 3) := by decide +kernel
theorem dX8_plain_62 : decode cX8_plain 62 = .ok (.iload_n 3, 1) := by decide +kernel
theorem dX8_plain_63 : decode cX8_plain 63 = .ok (.aload_n 0, 1) := by decide +kernel
theorem dX8_plain_64 : decode cX8_plain 64 = .ok (.getfield 15, 3) := by decide +kernel
theorem dX8_plain_67 : decode cX8_plain 67 = .ok (.aload_n 0, 1) := by decide +kernel
theorem dX8_plain_68 : decode cX8_plain 68 = .ok (.getfield 15, 3) := by decide +kernel
theorem dX8_plain_71 : decode cX8_plain 71 = .ok (.iload 4, 2) := by decide +kernel
theorem dX8_plain_73 : decode cX8_plain 73 = .ok (.invokevirtual 47, 3) := by decide +kernel
theorem dX8_plain_76 : decode cX8_plain 76 = .ok (.aload_n 0, 1) := by decide +kernel
theorem dX8_plain_77 : decode cX8_plain 77 = .ok (.iload 5, 2) := by decide +kernel
theorem dX8_plain_79 : decode cX8_plain 79 = .ok (.iload_n 2, 1) := by decide +kernel
theorem dX8_plain_80 : decode cX8_plain 80 = .ok (.invokevirtual 69, 3) := by decide +kernel
theorem dX8_plain_83 : decode cX8_plain 83 = .ok (.invokevirtual 73, 3) := by decide +kernel
theorem dX8_plain_86 : decode cX8_plain 86 = .ok (.iastore, 1) := by decide +kernel
theorem dX8_plain_87 : decode cX8_plain 87 = .ok (.iload 5, 2) := by decide +kernel
theorem dX8_plain_89 : decode cX8_plain 89 = .ok (.istore_n 2, 1) := by decide +kernel
theorem dX8_plain_90 : decode cX8_plain 90 = .ok (.goto 46, 3) := by decide +kernel
theorem dX8_plain_93 : decode cX8_plain 93 = .ok (.aload_n 0, 1) := by decide +kernel
theorem dX8_plain_94 : decode cX8_plain 94 = .ok (.getfield 15, 3) := by decide +kernel
theorem dX8_plain_97 : decode cX8_plain 97 = .ok (.iload 4, 2) := by decide +kernel
theorem dX8_plain_99 : decode cX8_plain 99 = .ok (.invokevirtual 44, 3) := by decide +kernel
theorem dX8_plain_102 : decode cX8_plain 102 = .ok (.ifCond .eq 34, 3) := by decide +kernel
theorem dX8_plain_105 : decode cX8_plain 105 = .ok (.aload_n 0, 1) := by decide +kernel
theorem dX8_plain_106 : decode cX8_plain 106 = .ok (.aload_n 0, 1) := by decide +kernel
theorem dX8_plain_107 : decode cX8_plain 107 = .ok (.getfield 15, 3) := by decide +kernel
theorem dX8_plain_110 : decode cX8_plain 110 = .ok (.iload 4, 2) := by decide +kernel
theorem dX8_plain_112 : decode cX8_plain 112 = .ok (.invokevirtual 76, 3) := by decide +kernel
theorem dX8_plain_115 : decode cX8_plain 115 = .ok (.invokevirtual 79, 3) := by decide +kernel
theorem dX8_plain_118 : decode cX8_plain 118 = .ok (.ifCond .eq 18, 3) := by decide +kernel
theorem dX8_plain_121 : decode cX8_plain 121 = .ok (.aload_n 0, 1) := by decide +kernel
theorem dX8_plain_122 : decode cX8_plain 122 = .ok (.getfield 9, 3) := by decide +kernel
theorem dX8_plain_125 : decode cX8_plain 125 = .ok (.iload_n 3, 1) := by decide +kernel
theorem dX8_plain_126 : decode cX8_plain 126 = .ok (.aload_n 0, 1) := by decide +kernel
theorem dX8_plain_127 : decode cX8_plain 127 = .ok (.getfield 15, 3) := by decide +kernel
theorem dX8_plain_130 : decode cX8_plain 130 = .ok (.iload 4, 2) := by decide +kernel
theorem dX8_plain_132 : decode cX8_plain 132 = .ok (.invokevirtual 76, 3) := by decide +kernel
theorem dX8_plain_135 : decode cX8_plain 135 = .ok (.iastore, 1) := by decide +kernel
theorem dX8_plain_136 : decode cX8_plain 136 = .ok (.iinc 3 (-1), 3) := by decide +kernel
theorem dX8_plain_139 : decode cX8_plain 139 = .ok (.goto (-122), 3) := by decide +kernel
theorem dX8_plain_142 : decode cX8_plain 142 = .ok (.aload_n 0, 1) := by decide +kernel
theorem dX8_plain_143 : decode cX8_plain 143 = .ok (.getfield 9, 3) := by decide +kernel
theorem dX8_plain_146 : decode cX8_plain 146 = .ok (.iconst 0, 1) := by decide +kernel
theorem dX8_plain_147 : decode cX8_plain 147 = .ok (.iaload, 1) := by decide +kernel
theorem dX8_plain_148 : decode cX8_plain 148 = .ok (.ireturn, 1) := by decide +kernel
theorem dX8_startWith_0 : decode cX8_startWith 0 = .ok (.aload_n 0, 1) := by decide +kernel
theorem dX8_startWith_1 : decode cX8_startWith 1 = .ok (.getfield 9, 3) := by decide +kernel
theorem dX8_startWith_4 : decode cX8_startWith 4 = .ok (.iconst 0, 1) := by decide +kernel
theorem dX8_startWith_5 : decode cX8_startWith 5 = .ok (.iload_n 1, 1) := by decide +kernel
theorem dX8_startWith_6 : decode cX8_startWith 6 = .ok (.iastore, 1) := by decide +kernel
theorem dX8_startWith_7 : decode cX8_startWith 7 = .ok (.aload_n 0, 1) := by decide +kernel
theorem dX8_startWith_8 : decode cX8_startWith 8 = .ok (.iconst 1, 1) := by decide +kernel
theorem dX8_startWith_9 : decode cX8_startWith 9 = .ok (.putfield 27, 3) := by decide +kernel
theorem dX8_startWith_12 : decode cX8_startWith 12 = .ok (.return_, 1) := by decide +kernel
theorem dX8_gather_0 : decode cX8_gather 0 = .ok (.aload_n 0, 1) := by decide +kernel
theorem dX8_gather_1 : decode cX8_gather 1 = .ok (.iload_n 1, 1) := by decide +kernel
theorem dX8_gather_2 : decode cX8_gather 2 = .ok (.invokevirtual 23, 3) := by decide +kernel
theorem dX8_gather_5 : decode cX8_gather 5 = .ok (.iconst 0, 1) := by decide +kernel
theorem dX8_gather_6 : decode cX8_gather 6 = .ok (.istore_n 2, 1) := by decide +kernel
theorem dX8_gather_7 : decode cX8_gather 7 = .ok (.iload_n 2, 1) := by decide +kernel
theorem dX8_gather_8 : decode cX8_gather 8 = .ok (.aload_n 0, 1) := by decide +kernel
theorem dX8_gather_9 : decode cX8_gather 9 = .ok (.getfield 27, 3) := by decide +kernel
theorem dX8_gather_12 : decode cX8_gather 12 = .ok (.if_icmp .ge 39, 3) := by decide +kernel
theorem dX8_gather_15 : decode cX8_gather 15 = .ok (.iload_n 2, 1) := by decide +kernel
theorem dX8_gather_16 : decode cX8_gather 16 = .ok (.bipush 120, 2) := by decide +kernel
theorem dX8_gather_18 : decode cX8_gather 18 = .ok (.if_icmp .ge 33, 3) := by decide +kernel
theorem dX8_gather_21 : decode cX8_gather 21 = .ok (.aload_n 0, 1) := by decide +kernel
theorem dX8_gather_22 : decode cX8_gather 22 = .ok (.aload_n 0, 1) := by decide +kernel
theorem dX8_gather_23 : decode cX8_gather 23 = .ok (.getfield 9, 3) := by decide +kernel
theorem dX8_gather_26 : decode cX8_gather 26 = .ok (.iload_n 2, 1) := by decide +kernel
theorem dX8_gather_27 : decode cX8_gather 27 = .ok (.iaload, 1) := by decide +kernel
theorem dX8_gather_28 : decode cX8_gather 28 = .ok (.invokevirtual 66, 3) := by decide +kernel
theorem dX8_gather_31 : decode cX8_gather 31 = .ok (.ifCond .eq 14, 3) := by decide +kernel
theorem dX8_gather_34 : decode cX8_gather 34 = .ok (.aload_n 0, 1) := by decide +kernel
theorem dX8_gather_35 : decode cX8_gather 35 = .ok (.aload_n 0, 1) := by decide +kernel
theorem dX8_gather_36 : decode cX8_gather 36 = .ok (.getfield 9, 3) := by decide +kernel
theorem dX8_gather_39 : decode cX8_gather 39 = .ok (.iload_n 2, 1) := by decide +kernel
theorem dX8_gather_40 : decode cX8_gather 40 = .ok (.iaload, 1) := by decide +kernel
theorem dX8_gather_41 : decode cX8_gather 41 = .ok (.invokevirtual 60, 3) := by decide +kernel
theorem dX8_gather_44 : decode cX8_gather 44 = .ok (.pop, 1) := by decide +kernel
theorem dX8_gather_45 : decode cX8_gather 45 = .ok (.iinc 2 1, 3) := by decide +kernel
theorem dX8_gather_48 : decode cX8_gather 48 = .ok (.goto (-41), 3) := by decide +kernel
theorem dX8_gather_51 : decode cX8_gather 51 = .ok (.return_, 1) := by decide +kernel
theorem dX8_addTermsOf_0 : decode cX8_addTermsOf 0 = .ok (.aload_n 0, 1) := by decide +kernel
theorem dX8_addTermsOf_1 : decode cX8_addTermsOf 1 = .ok (.getfield 15, 3) := by decide +kernel
theorem dX8_addTermsOf_4 : decode cX8_addTermsOf 4 = .ok (.iload_n 1, 1) := by decide +kernel
theorem dX8_addTermsOf_5 : decode cX8_addTermsOf 5 = .ok (.invokevirtual 54, 3) := by decide +kernel
theorem dX8_addTermsOf_8 : decode cX8_addTermsOf 8 = .ok (.istore_n 2, 1) := by decide +kernel
theorem dX8_addTermsOf_9 : decode cX8_addTermsOf 9 = .ok (.aload_n 0, 1) := by decide +kernel
theorem dX8_addTermsOf_10 : decode cX8_addTermsOf 10 = .ok (.getfield 27, 3) := by decide +kernel
theorem dX8_addTermsOf_13 : decode cX8_addTermsOf 13 = .ok (.bipush 120, 2) := by decide +kernel
theorem dX8_addTermsOf_15 : decode cX8_addTermsOf 15 = .ok (.if_icmp .ge 53, 3) := by decide +kernel
theorem dX8_addTermsOf_18 : decode cX8_addTermsOf 18 = .ok (.aload_n 0, 1) := by decide +kernel
theorem dX8_addTermsOf_19 : decode cX8_addTermsOf 19 = .ok (.getfield 15, 3) := by decide +kernel
theorem dX8_addTermsOf_22 : decode cX8_addTermsOf 22 = .ok (.iload_n 2, 1) := by decide +kernel
theorem dX8_addTermsOf_23 : decode cX8_addTermsOf 23 = .ok (.invokevirtual 41, 3) := by decide +kernel
theorem dX8_addTermsOf_26 : decode cX8_addTermsOf 26 = .ok (.ifCond .eq 42, 3) := by decide +kernel
theorem dX8_addTermsOf_29 : decode cX8_addTermsOf 29 = .ok (.aload_n 0, 1) := by decide +kernel
theorem dX8_addTermsOf_30 : decode cX8_addTermsOf 30 = .ok (.getfield 9, 3) := by decide +kernel
theorem dX8_addTermsOf_33 : decode cX8_addTermsOf 33 = .ok (.aload_n 0, 1) := by decide +kernel
theorem dX8_addTermsOf_34 : decode cX8_addTermsOf 34 = .ok (.getfield 27, 3) := by decide +kernel
theorem dX8_addTermsOf_37 : decode cX8_addTermsOf 37 = .ok (.aload_n 0, 1) := by decide +kernel
theorem dX8_addTermsOf_38 : decode cX8_addTermsOf 38 = .ok (.getfield 15, 3) := by decide +kernel
theorem dX8_addTermsOf_41 : decode cX8_addTermsOf 41 = .ok (.iload_n 2, 1) := by decide +kernel
theorem dX8_addTermsOf_42 : decode cX8_addTermsOf 42 = .ok (.invokevirtual 47, 3) := by decide +kernel
theorem dX8_addTermsOf_45 : decode cX8_addTermsOf 45 = .ok (.iastore, 1) := by decide +kernel
theorem dX8_addTermsOf_46 : decode cX8_addTermsOf 46 = .ok (.aload_n 0, 1) := by decide +kernel
theorem dX8_addTermsOf_47 : decode cX8_addTermsOf 47 = .ok (.dup, 1) := by decide +kernel
theorem dX8_addTermsOf_48 : decode cX8_addTermsOf 48 = .ok (.getfield 27, 3) := by decide +kernel
theorem dX8_addTermsOf_51 : decode cX8_addTermsOf 51 = .ok (.iconst 1, 1) := by decide +kernel
theorem dX8_addTermsOf_52 : decode cX8_addTermsOf 52 = .ok (.iadd, 1) := by decide +kernel
theorem dX8_addTermsOf_53 : decode cX8_addTermsOf 53 = .ok (.putfield 27, 3) := by decide +kernel
theorem dX8_addTermsOf_56 : decode cX8_addTermsOf 56 = .ok (.aload_n 0, 1) := by decide +kernel
theorem dX8_addTermsOf_57 : decode cX8_addTermsOf 57 = .ok (.getfield 15, 3) := by decide +kernel
theorem dX8_addTermsOf_60 : decode cX8_addTermsOf 60 = .ok (.iload_n 2, 1) := by decide +kernel
theorem dX8_addTermsOf_61 : decode cX8_addTermsOf 61 = .ok (.invokevirtual 54, 3) := by decide +kernel
theorem dX8_addTermsOf_64 : decode cX8_addTermsOf 64 = .ok (.istore_n 2, 1) := by decide +kernel
theorem dX8_addTermsOf_65 : decode cX8_addTermsOf 65 = .ok (.goto (-56), 3) := by decide +kernel
theorem dX8_addTermsOf_68 : decode cX8_addTermsOf 68 = .ok (.iload_n 2, 1) := by decide +kernel
theorem dX8_addTermsOf_69 : decode cX8_addTermsOf 69 = .ok (.ifCond .ne 7, 3) := by decide +kernel
theorem dX8_addTermsOf_72 : decode cX8_addTermsOf 72 = .ok (.iconst 1, 1) := by decide +kernel
theorem dX8_addTermsOf_73 : decode cX8_addTermsOf 73 = .ok (.goto 4, 3) := by decide +kernel
theorem dX8_addTermsOf_76 : decode cX8_addTermsOf 76 = .ok (.iconst 0, 1) := by decide +kernel
theorem dX8_addTermsOf_77 : decode cX8_addTermsOf 77 = .ok (.ireturn, 1) := by decide +kernel
theorem dX8_listOfParts_0 : decode cX8_listOfParts 0 = .ok (.iconst 0, 1) := by decide +kernel
theorem dX8_listOfParts_1 : decode cX8_listOfParts 1 = .ok (.istore_n 3, 1) := by decide +kernel
theorem dX8_listOfParts_2 : decode cX8_listOfParts 2 = .ok (.iload_n 2, 1) := by decide +kernel
theorem dX8_listOfParts_3 : decode cX8_listOfParts 3 = .ok (.iconst 1, 1) := by decide +kernel
theorem dX8_listOfParts_4 : decode cX8_listOfParts 4 = .ok (.isub, 1) := by decide +kernel
theorem dX8_listOfParts_5 : decode cX8_listOfParts 5 = .ok (.istore 4, 2) := by decide +kernel
theorem dX8_listOfParts_7 : decode cX8_listOfParts 7 = .ok (.iload 4, 2) := by decide +kernel
theorem dX8_listOfParts_9 : decode cX8_listOfParts 9 = .ok (.iload_n 1, 1) := by decide +kernel
theorem dX8_listOfParts_10 : decode cX8_listOfParts 10 = .ok (.if_icmp .lt 30, 3) := by decide +kernel
theorem dX8_listOfParts_13 : decode cX8_listOfParts 13 = .ok (.iload 4, 2) := by decide +kernel
theorem dX8_listOfParts_15 : decode cX8_listOfParts 15 = .ok (.ifCond .lt 25, 3) := by decide +kernel
theorem dX8_listOfParts_18 : decode cX8_listOfParts 18 = .ok (.aload_n 0, 1) := by decide +kernel
theorem dX8_listOfParts_19 : decode cX8_listOfParts 19 = .ok (.getfield 15, 3) := by decide +kernel
theorem dX8_listOfParts_22 : decode cX8_listOfParts 22 = .ok (.aload_n 0, 1) := by decide +kernel
theorem dX8_listOfParts_23 : decode cX8_listOfParts 23 = .ok (.getfield 9, 3) := by decide +kernel
theorem dX8_listOfParts_26 : decode cX8_listOfParts 26 = .ok (.iload 4, 2) := by decide +kernel
theorem dX8_listOfParts_28 : decode cX8_listOfParts 28 = .ok (.iaload, 1) := by decide +kernel
theorem dX8_listOfParts_29 : decode cX8_listOfParts 29 = .ok (.iload_n 3, 1) := by decide +kernel
theorem dX8_listOfParts_30 : decode cX8_listOfParts 30 = .ok (.invokevirtual 73, 3) := by decide +kernel
theorem dX8_listOfParts_33 : decode cX8_listOfParts 33 = .ok (.istore_n 3, 1) := by decide +kernel
theorem dX8_listOfParts_34 : decode cX8_listOfParts 34 = .ok (.iinc 4 (-1), 3) := by decide +kernel
theorem dX8_listOfParts_37 : decode cX8_listOfParts 37 = .ok (.goto (-30), 3) := by decide +kernel
theorem dX8_listOfParts_40 : decode cX8_listOfParts 40 = .ok (.iload_n 3, 1) := by decide +kernel
theorem dX8_listOfParts_41 : decode cX8_listOfParts 41 = .ok (.ireturn, 1) := by decide +kernel
theorem dX8_takesOf_0 : decode cX8_takesOf 0 = .ok (.iload_n 1, 1) := by decide +kernel
theorem dX8_takesOf_1 : decode cX8_takesOf 1 = .ok (.ifCond .lt 17, 3) := by decide +kernel
theorem dX8_takesOf_4 : decode cX8_takesOf 4 = .ok (.iload_n 1, 1) := by decide +kernel
theorem dX8_takesOf_5 : decode cX8_takesOf 5 = .ok (.getstatic 82, 3) := by decide +kernel
theorem dX8_takesOf_8 : decode cX8_takesOf 8 = .ok (.arraylength, 1) := by decide +kernel
theorem dX8_takesOf_9 : decode cX8_takesOf 9 = .ok (.if_icmp .ge 9, 3) := by decide +kernel
theorem dX8_takesOf_12 : decode cX8_takesOf 12 = .ok (.getstatic 82, 3) := by decide +kernel
theorem dX8_takesOf_15 : decode cX8_takesOf 15 = .ok (.iload_n 1, 1) := by decide +kernel
theorem dX8_takesOf_16 : decode cX8_takesOf 16 = .ok (.iaload, 1) := by decide +kernel
theorem dX8_takesOf_17 : decode cX8_takesOf 17 = .ok (.ireturn, 1) := by decide +kernel
theorem dX8_takesOf_18 : decode cX8_takesOf 18 = .ok (.aload_n 0, 1) := by decide +kernel
theorem dX8_takesOf_19 : decode cX8_takesOf 19 = .ok (.getfield 19, 3) := by decide +kernel
theorem dX8_takesOf_22 : decode cX8_takesOf 22 = .ok (.iload_n 1, 1) := by decide +kernel
theorem dX8_takesOf_23 : decode cX8_takesOf 23 = .ok (.invokevirtual 85, 3) := by decide +kernel
theorem dX8_takesOf_26 : decode cX8_takesOf 26 = .ok (.astore_n 2, 1) := by decide +kernel
theorem dX8_takesOf_27 : decode cX8_takesOf 27 = .ok (.aload_n 2, 1) := by decide +kernel
theorem dX8_takesOf_28 : decode cX8_takesOf 28 = .ok (.ifnonnull 7, 3) := by decide +kernel
theorem dX8_takesOf_31 : decode cX8_takesOf 31 = .ok (.iconst (-1), 1) := by decide +kernel
theorem dX8_takesOf_32 : decode cX8_takesOf 32 = .ok (.goto 7, 3) := by decide +kernel
theorem dX8_takesOf_35 : decode cX8_takesOf 35 = .ok (.aload_n 2, 1) := by decide +kernel
theorem dX8_takesOf_36 : decode cX8_takesOf 36 = .ok (.getfield 91, 3) := by decide +kernel
theorem dX8_takesOf_39 : decode cX8_takesOf 39 = .ok (.ireturn, 1) := by decide +kernel
theorem dX8_isCall_0 : decode cX8_isCall 0 = .ok (.aload_n 0, 1) := by decide +kernel
theorem dX8_isCall_1 : decode cX8_isCall 1 = .ok (.getfield 15, 3) := by decide +kernel
theorem dX8_isCall_4 : decode cX8_isCall 4 = .ok (.iload_n 1, 1) := by decide +kernel
theorem dX8_isCall_5 : decode cX8_isCall 5 = .ok (.invokevirtual 41, 3) := by decide +kernel
theorem dX8_isCall_8 : decode cX8_isCall 8 = .ok (.ifCond .eq 19, 3) := by decide +kernel
theorem dX8_isCall_11 : decode cX8_isCall 11 = .ok (.aload_n 0, 1) := by decide +kernel
theorem dX8_isCall_12 : decode cX8_isCall 12 = .ok (.getfield 15, 3) := by decide +kernel
theorem dX8_isCall_15 : decode cX8_isCall 15 = .ok (.iload_n 1, 1) := by decide +kernel
theorem dX8_isCall_16 : decode cX8_isCall 16 = .ok (.invokevirtual 47, 3) := by decide +kernel
theorem dX8_isCall_19 : decode cX8_isCall 19 = .ok (.iconst 2, 1) := by decide +kernel
theorem dX8_isCall_20 : decode cX8_isCall 20 = .ok (.if_icmp .eq 7, 3) := by decide +kernel
theorem dX8_isCall_23 : decode cX8_isCall 23 = .ok (.iconst 1, 1) := by decide +kernel
theorem dX8_isCall_24 : decode cX8_isCall 24 = .ok (.goto 4, 3) := by decide +kernel
theorem dX8_isCall_27 : decode cX8_isCall 27 = .ok (.iconst 0, 1) := by decide +kernel
theorem dX8_isCall_28 : decode cX8_isCall 28 = .ok (.ireturn, 1) := by decide +kernel
theorem dX8_isPlainConstant_0 : decode cX8_isPlainConstant 0 = .ok (.aload_n 0, 1) := by decide +kernel
theorem dX8_isPlainConstant_1 : decode cX8_isPlainConstant 1 = .ok (.getfield 15, 3) := by decide +kernel
theorem dX8_isPlainConstant_4 : decode cX8_isPlainConstant 4 = .ok (.iload_n 1, 1) := by decide +kernel
theorem dX8_isPlainConstant_5 : decode cX8_isPlainConstant 5 = .ok (.invokevirtual 96, 3) := by decide +kernel
theorem dX8_isPlainConstant_8 : decode cX8_isPlainConstant 8 = .ok (.ifCond .ne 12, 3) := by decide +kernel
theorem dX8_isPlainConstant_11 : decode cX8_isPlainConstant 11 = .ok (.iload_n 1, 1) := by decide +kernel
theorem dX8_isPlainConstant_12 : decode cX8_isPlainConstant 12 = .ok (.ifCond .eq 8, 3) := by decide +kernel
theorem dX8_isPlainConstant_15 : decode cX8_isPlainConstant 15 = .ok (.iload_n 1, 1) := by decide +kernel
theorem dX8_isPlainConstant_16 : decode cX8_isPlainConstant 16 = .ok (.iconst 1, 1) := by decide +kernel
theorem dX8_isPlainConstant_17 : decode cX8_isPlainConstant 17 = .ok (.if_icmp .ne 7, 3) := by decide +kernel
theorem dX8_isPlainConstant_20 : decode cX8_isPlainConstant 20 = .ok (.iconst 1, 1) := by decide +kernel
theorem dX8_isPlainConstant_21 : decode cX8_isPlainConstant 21 = .ok (.goto 4, 3) := by decide +kernel
theorem dX8_isPlainConstant_24 : decode cX8_isPlainConstant 24 = .ok (.iconst 0, 1) := by decide +kernel
theorem dX8_isPlainConstant_25 : decode cX8_isPlainConstant 25 = .ok (.ireturn, 1) := by decide +kernel
theorem dX9_init_0 : decode cX9_init 0 = .ok (.aload_n 0, 1) := by decide +kernel
theorem dX9_init_1 : decode cX9_init 1 = .ok (.invokespecial 1, 3) := by decide +kernel
theorem dX9_init_4 : decode cX9_init 4 = .ok (.aload_n 0, 1) := by decide +kernel
theorem dX9_init_5 : decode cX9_init 5 = .ok (.iconst 5, 1) := by decide +kernel
theorem dX9_init_6 : decode cX9_init 6 = .ok (.newarray .int, 2) := by decide +kernel
theorem dX9_init_8 : decode cX9_init 8 = .ok (.putfield 9, 3) := by decide +kernel
theorem dX9_init_11 : decode cX9_init 11 = .ok (.aload_n 0, 1) := by decide +kernel
theorem dX9_init_12 : decode cX9_init 12 = .ok (.new 13, 3) := by decide +kernel
theorem dX9_init_15 : decode cX9_init 15 = .ok (.dup, 1) := by decide +kernel
theorem dX9_init_16 : decode cX9_init 16 = .ok (.invokespecial 15, 3) := by decide +kernel
theorem dX9_init_19 : decode cX9_init 19 = .ok (.putfield 16, 3) := by decide +kernel
theorem dX9_init_22 : decode cX9_init 22 = .ok (.aload_n 0, 1) := by decide +kernel
theorem dX9_init_23 : decode cX9_init 23 = .ok (.new 20, 3) := by decide +kernel
theorem dX9_init_26 : decode cX9_init 26 = .ok (.dup, 1) := by decide +kernel
theorem dX9_init_27 : decode cX9_init 27 = .ok (.aload_n 0, 1) := by decide +kernel
theorem dX9_init_28 : decode cX9_init 28 = .ok (.getfield 16, 3) := by decide +kernel
theorem dX9_init_31 : decode cX9_init 31 = .ok (.invokespecial 22, 3) := by decide +kernel
theorem dX9_init_34 : decode cX9_init 34 = .ok (.putfield 25, 3) := by decide +kernel
theorem dX9_init_37 : decode cX9_init 37 = .ok (.aload_n 0, 1) := by decide +kernel
theorem dX9_init_38 : decode cX9_init 38 = .ok (.new 29, 3) := by decide +kernel
theorem dX9_init_41 : decode cX9_init 41 = .ok (.dup, 1) := by decide +kernel
theorem dX9_init_42 : decode cX9_init 42 = .ok (.aload_n 0, 1) := by decide +kernel
theorem dX9_init_43 : decode cX9_init 43 = .ok (.getfield 16, 3) := by decide +kernel
theorem dX9_init_46 : decode cX9_init 46 = .ok (.invokespecial 31, 3) := by decide +kernel
theorem dX9_init_49 : decode cX9_init 49 = .ok (.putfield 32, 3) := by decide +kernel
theorem dX9_init_52 : decode cX9_init 52 = .ok (.aload_n 0, 1) := by decide +kernel
theorem dX9_init_53 : decode cX9_init 53 = .ok (.new 36, 3) := by decide +kernel
theorem dX9_init_56 : decode cX9_init 56 = .ok (.dup, 1) := by decide +kernel
theorem dX9_init_57 : decode cX9_init 57 = .ok (.invokespecial 38, 3) := by decide +kernel
theorem dX9_init_60 : decode cX9_init 60 = .ok (.putfield 39, 3) := by decide +kernel
theorem dX9_init_63 : decode cX9_init 63 = .ok (.aload_n 0, 1) := by decide +kernel
theorem dX9_init_64 : decode cX9_init 64 = .ok (.new 43, 3) := by decide +kernel
theorem dX9_init_67 : decode cX9_init 67 = .ok (.dup, 1) := by decide +kernel
theorem dX9_init_68 : decode cX9_init 68 = .ok (.aload_n 0, 1) := by decide +kernel
theorem dX9_init_69 : decode cX9_init 69 = .ok (.getfield 16, 3) := by decide +kernel
theorem dX9_init_72 : decode cX9_init 72 = .ok (.aload_n 0, 1) := by decide +kernel
theorem dX9_init_73 : decode cX9_init 73 = .ok (.getfield 39, 3) := by decide +kernel
theorem dX9_init_76 : decode cX9_init 76 = .ok (.invokespecial 45, 3) := by decide +kernel
theorem dX9_init_79 : decode cX9_init 79 = .ok (.putfield 48, 3) := by decide +kernel
theorem dX9_init_82 : decode cX9_init 82 = .ok (.aload_n 0, 1) := by decide +kernel
theorem dX9_init_83 : decode cX9_init 83 = .ok (.new 52, 3) := by decide +kernel
theorem dX9_init_86 : decode cX9_init 86 = .ok (.dup, 1) := by decide +kernel
theorem dX9_init_87 : decode cX9_init 87 = .ok (.aload_n 0, 1) := by decide +kernel
theorem dX9_init_88 : decode cX9_init 88 = .ok (.getfield 16, 3) := by decide +kernel
theorem dX9_init_91 : decode cX9_init 91 = .ok (.aload_n 0, 1) := by decide +kernel
theorem dX9_init_92 : decode cX9_init 92 = .ok (.getfield 39, 3) := by decide +kernel
theorem dX9_init_95 : decode cX9_init 95 = .ok (.aload_n 0, 1) := by decide +kernel
theorem dX9_init_96 : decode cX9_init 96 = .ok (.getfield 48, 3) := by decide +kernel
theorem dX9_init_99 : decode cX9_init 99 = .ok (.invokespecial 54, 3) := by decide +kernel
theorem dX9_init_102 : decode cX9_init 102 = .ok (.putfield 57, 3) := by decide +kernel
theorem dX9_init_105 : decode cX9_init 105 = .ok (.return_, 1) := by decide +kernel
theorem dX9_feed_0 : decode cX9_feed 0 = .ok (.aload_n 0, 1) := by decide +kernel
theorem dX9_feed_1 : decode cX9_feed 1 = .ok (.getfield 9, 3) := by decide +kernel
theorem dX9_feed_4 : decode cX9_feed 4 = .ok (.iconst 0, 1) := by decide +kernel
theorem dX9_feed_5 : decode cX9_feed 5 = .ok (.iload_n 1, 1) := by decide +kernel
theorem dX9_feed_6 : decode cX9_feed 6 = .ok (.iastore, 1) := by decide +kernel
theorem dX9_feed_7 : decode cX9_feed 7 = .ok (.aload_n 0, 1) := by decide +kernel
theorem dX9_feed_8 : decode cX9_feed 8 = .ok (.getfield 9, 3) := by decide +kernel
theorem dX9_feed_11 : decode cX9_feed 11 = .ok (.iconst 1, 1) := by decide +kernel
theorem dX9_feed_12 : decode cX9_feed 12 = .ok (.iload_n 2, 1) := by decide +kernel
theorem dX9_feed_13 : decode cX9_feed 13 = .ok (.iastore, 1) := by decide +kernel
theorem dX9_feed_14 : decode cX9_feed 14 = .ok (.aload_n 0, 1) := by decide +kernel
theorem dX9_feed_15 : decode cX9_feed 15 = .ok (.getfield 9, 3) := by decide +kernel
theorem dX9_feed_18 : decode cX9_feed 18 = .ok (.iconst 2, 1) := by decide +kernel
theorem dX9_feed_19 : decode cX9_feed 19 = .ok (.iload_n 3, 1) := by decide +kernel
theorem dX9_feed_20 : decode cX9_feed 20 = .ok (.iastore, 1) := by decide +kernel
theorem dX9_feed_21 : decode cX9_feed 21 = .ok (.aload_n 0, 1) := by decide +kernel
theorem dX9_feed_22 : decode cX9_feed 22 = .ok (.getfield 9, 3) := by decide +kernel
theorem dX9_feed_25 : decode cX9_feed 25 = .ok (.iconst 3, 1) := by decide +kernel
theorem dX9_feed_26 : decode cX9_feed 26 = .ok (.iload 4, 2) := by decide +kernel
theorem dX9_feed_28 : decode cX9_feed 28 = .ok (.iastore, 1) := by decide +kernel
theorem dX9_feed_29 : decode cX9_feed 29 = .ok (.aload_n 0, 1) := by decide +kernel
theorem dX9_feed_30 : decode cX9_feed 30 = .ok (.getfield 9, 3) := by decide +kernel
theorem dX9_feed_33 : decode cX9_feed 33 = .ok (.iconst 4, 1) := by decide +kernel
theorem dX9_feed_34 : decode cX9_feed 34 = .ok (.iload 5, 2) := by decide +kernel
theorem dX9_feed_36 : decode cX9_feed 36 = .ok (.iastore, 1) := by decide +kernel
theorem dX9_feed_37 : decode cX9_feed 37 = .ok (.return_, 1) := by decide +kernel
theorem dX9_end_0 : decode cX9_end 0 = .ok (.iload_n 1, 1) := by decide +kernel
theorem dX9_end_1 : decode cX9_end 1 = .ok (.ifCond .lt 24, 3) := by decide +kernel
theorem dX9_end_4 : decode cX9_end 4 = .ok (.iload_n 1, 1) := by decide +kernel
theorem dX9_end_5 : decode cX9_end 5 = .ok (.bipush 20, 2) := by decide +kernel
theorem dX9_end_7 : decode cX9_end 7 = .ok (.if_icmp .gt 18, 3) := by decide +kernel
theorem dX9_end_10 : decode cX9_end 10 = .ok (.iload_n 1, 1) := by decide +kernel
theorem dX9_end_11 : decode cX9_end 11 = .ok (.sipush 3000, 3) := by decide +kernel
theorem dX9_end_14 : decode cX9_end 14 = .ok (.aload_n 0, 1) := by decide +kernel
theorem dX9_end_15 : decode cX9_end 15 = .ok (.getfield 25, 3) := by decide +kernel
theorem dX9_end_18 : decode cX9_end 18 = .ok (.getfield 61, 3) := by decide +kernel
theorem dX9_end_21 : decode cX9_end 21 = .ok (.isub, 1) := by decide +kernel
theorem dX9_end_22 : decode cX9_end 22 = .ok (.if_icmp .le 5, 3) := by decide +kernel
theorem dX9_end_25 : decode cX9_end 25 = .ok (.iconst (-1), 1) := by decide +kernel
theorem dX9_end_26 : decode cX9_end 26 = .ok (.ireturn, 1) := by decide +kernel
theorem dX9_end_27 : decode cX9_end 27 = .ok (.iconst 0, 1) := by decide +kernel
theorem dX9_end_28 : decode cX9_end 28 = .ok (.istore_n 2, 1) := by decide +kernel
theorem dX9_end_29 : decode cX9_end 29 = .ok (.iload_n 2, 1) := by decide +kernel
theorem dX9_end_30 : decode cX9_end 30 = .ok (.iload_n 1, 1) := by decide +kernel
theorem dX9_end_31 : decode cX9_end 31 = .ok (.if_icmp .ge 39, 3) := by decide +kernel
theorem dX9_end_34 : decode cX9_end 34 = .ok (.aload_n 0, 1) := by decide +kernel
theorem dX9_end_35 : decode cX9_end 35 = .ok (.getfield 25, 3) := by decide +kernel
theorem dX9_end_38 : decode cX9_end 38 = .ok (.aload_n 0, 1) := by decide +kernel
theorem dX9_end_39 : decode cX9_end 39 = .ok (.getfield 9, 3) := by decide +kernel
theorem dX9_end_42 : decode cX9_end 42 = .ok (.iload_n 2, 1) := by decide +kernel
theorem dX9_end_43 : decode cX9_end 43 = .ok (.iconst 4, 1) := by decide +kernel
theorem dX9_end_44 : decode cX9_end 44 = .ok (.idiv, 1) := by decide +kernel
theorem dX9_end_45 : decode cX9_end 45 = .ok (.iaload, 1) := by decide +kernel
theorem dX9_end_46 : decode cX9_end 46 = .ok (.bipush 24, 2) := by decide +kernel
theorem dX9_end_48 : decode cX9_end 48 = .ok (.iload_n 2, 1) := by decide +kernel
theorem dX9_end_49 : decode cX9_end 49 = .ok (.iconst 4, 1) := by decide +kernel
theorem dX9_end_50 : decode cX9_end 50 = .ok (.irem, 1) := by decide +kernel
theorem dX9_end_51 : decode cX9_end 51 = .ok (.bipush 8, 2) := by decide +kernel
theorem dX9_end_53 : decode cX9_end 53 = .ok (.imul, 1) := by decide +kernel
theorem dX9_end_54 : decode cX9_end 54 = .ok (.isub, 1) := by decide +kernel
theorem dX9_end_55 : decode cX9_end 55 = .ok (.iushr, 1) := by decide +kernel
theorem dX9_end_56 : decode cX9_end 56 = .ok (.sipush 255, 3) := by decide +kernel
theorem dX9_end_59 : decode cX9_end 59 = .ok (.iand, 1) := by decide +kernel
theorem dX9_end_60 : decode cX9_end 60 = .ok (.i2c, 1) := by decide +kernel
theorem dX9_end_61 : decode cX9_end 61 = .ok (.invokevirtual 65, 3) := by decide +kernel
theorem dX9_end_64 : decode cX9_end 64 = .ok (.iinc 2 1, 3) := by decide +kernel
theorem dX9_end_67 : decode cX9_end 67 = .ok (.goto (-38), 3) := by decide +kernel
theorem dX9_end_70 : decode cX9_end 70 = .ok (.aload_n 0, 1) := by decide +kernel
theorem dX9_end_71 : decode cX9_end 71 = .ok (.getfield 9, 3) := by decide +kernel
theorem dX9_end_74 : decode cX9_end 74 = .ok (.iconst 0, 1) := by decide +kernel
theorem dX9_end_75 : decode cX9_end 75 = .ok (.invokestatic 69, 3) := by decide +kernel
theorem dX9_end_78 : decode cX9_end 78 = .ok (.aload_n 0, 1) := by decide +kernel
theorem dX9_end_79 : decode cX9_end 79 = .ok (.getfield 25, 3) := by decide +kernel
theorem dX9_end_82 : decode cX9_end 82 = .ok (.getfield 61, 3) := by decide +kernel
theorem dX9_end_85 : decode cX9_end 85 = .ok (.ireturn, 1) := by decide +kernel
theorem dX9_fuel_0 : decode cX9_fuel 0 = .ok (.iload_n 1, 1) := by decide +kernel
theorem dX9_fuel_1 : decode cX9_fuel 1 = .ok (.iconst 1, 1) := by decide +kernel
theorem dX9_fuel_2 : decode cX9_fuel 2 = .ok (.if_icmp .lt 10, 3) := by decide +kernel
theorem dX9_fuel_5 : decode cX9_fuel 5 = .ok (.iload_n 1, 1) := by decide +kernel
theorem dX9_fuel_6 : decode cX9_fuel 6 = .ok (.sipush 1000, 3) := by decide +kernel
theorem dX9_fuel_9 : decode cX9_fuel 9 = .ok (.if_icmp .le 5, 3) := by decide +kernel
theorem dX9_fuel_12 : decode cX9_fuel 12 = .ok (.iconst (-1), 1) := by decide +kernel
theorem dX9_fuel_13 : decode cX9_fuel 13 = .ok (.ireturn, 1) := by decide +kernel
theorem dX9_fuel_14 : decode cX9_fuel 14 = .ok (.aload_n 0, 1) := by decide +kernel
theorem dX9_fuel_15 : decode cX9_fuel 15 = .ok (.getfield 48, 3) := by decide +kernel
theorem dX9_fuel_18 : decode cX9_fuel 18 = .ok (.getfield 75, 3) := by decide +kernel
theorem dX9_fuel_21 : decode cX9_fuel 21 = .ok (.istore_n 2, 1) := by decide +kernel
theorem dX9_fuel_22 : decode cX9_fuel 22 = .ok (.aload_n 0, 1) := by decide +kernel
theorem dX9_fuel_23 : decode cX9_fuel 23 = .ok (.getfield 48, 3) := by decide +kernel
theorem dX9_fuel_26 : decode cX9_fuel 26 = .ok (.iload_n 1, 1) := by decide +kernel
theorem dX9_fuel_27 : decode cX9_fuel 27 = .ok (.putfield 75, 3) := by decide +kernel
theorem dX9_fuel_30 : decode cX9_fuel 30 = .ok (.iload_n 2, 1) := by decide +kernel
theorem dX9_fuel_31 : decode cX9_fuel 31 = .ok (.ireturn, 1) := by decide +kernel
theorem dX9_run_0 : decode cX9_run 0 = .ok (.aload_n 0, 1) := by decide +kernel
theorem dX9_run_1 : decode cX9_run 1 = .ok (.getfield 32, 3) := by decide +kernel
theorem dX9_run_4 : decode cX9_run 4 = .ok (.invokevirtual 78, 3) := by decide +kernel
theorem dX9_run_7 : decode cX9_run 7 = .ok (.aload_n 0, 1) := by decide +kernel
theorem dX9_run_8 : decode cX9_run 8 = .ok (.getfield 48, 3) := by decide +kernel
theorem dX9_run_11 : decode cX9_run 11 = .ok (.invokevirtual 81, 3) := by decide +kernel
theorem dX9_run_14 : decode cX9_run 14 = .ok (.aload_n 0, 1) := by decide +kernel
theorem dX9_run_15 : decode cX9_run 15 = .ok (.getfield 16, 3) := by decide +kernel
theorem dX9_run_18 : decode cX9_run 18 = .ok (.aload_n 0, 1) := by decide +kernel
theorem dX9_run_19 : decode cX9_run 19 = .ok (.getfield 57, 3) := by decide +kernel
theorem dX9_run_22 : decode cX9_run 22 = .ok (.getfield 82, 3) := by decide +kernel
theorem dX9_run_25 : decode cX9_run 25 = .ok (.invokevirtual 85, 3) := by decide +kernel
theorem dX9_run_28 : decode cX9_run 28 = .ok (.aload_n 0, 1) := by decide +kernel
theorem dX9_run_29 : decode cX9_run 29 = .ok (.getfield 16, 3) := by decide +kernel
theorem dX9_run_32 : decode cX9_run 32 = .ok (.aload_n 0, 1) := by decide +kernel
theorem dX9_run_33 : decode cX9_run 33 = .ok (.getfield 57, 3) := by decide +kernel
theorem dX9_run_36 : decode cX9_run 36 = .ok (.aload_n 0, 1) := by decide +kernel
theorem dX9_run_37 : decode cX9_run 37 = .ok (.getfield 25, 3) := by decide +kernel
theorem dX9_run_40 : decode cX9_run 40 = .ok (.getfield 61, 3) := by decide +kernel
theorem dX9_run_43 : decode cX9_run 43 = .ok (.invokevirtual 89, 3) := by decide +kernel
theorem dX9_run_46 : decode cX9_run 46 = .ok (.invokevirtual 93, 3) := by decide +kernel
theorem dX9_run_49 : decode cX9_run 49 = .ok (.ifCond .ne 13, 3) := by decide +kernel
theorem dX9_run_52 : decode cX9_run 52 = .ok (.aload_n 0, 1) := by decide +kernel
theorem dX9_run_53 : decode cX9_run 53 = .ok (.getfield 25, 3) := by decide +kernel
theorem dX9_run_56 : decode cX9_run 56 = .ok (.invokevirtual 97, 3) := by decide +kernel
theorem dX9_run_59 : decode cX9_run 59 = .ok (.bipush 8, 2) := by decide +kernel
theorem dX9_run_61 : decode cX9_run 61 = .ok (.ireturn, 1) := by decide +kernel
theorem dX9_run_62 : decode cX9_run 62 = .ok (.aload_n 0, 1) := by decide +kernel
theorem dX9_run_63 : decode cX9_run 63 = .ok (.getfield 25, 3) := by decide +kernel
theorem dX9_run_66 : decode cX9_run 66 = .ok (.invokevirtual 98, 3) := by decide +kernel
theorem dX9_run_69 : decode cX9_run 69 = .ok (.istore_n 1, 1) := by decide +kernel
theorem dX9_run_70 : decode cX9_run 70 = .ok (.iload_n 1, 1) := by decide +kernel
theorem dX9_run_71 : decode cX9_run 71 = .ok (.iconst (-1), 1) := by decide +kernel
theorem dX9_run_72 : decode cX9_run 72 = .ok (.if_icmp .ne 5, 3) := by decide +kernel
theorem dX9_run_75 : decode cX9_run 75 = .ok (.iconst 1, 1) := by decide +kernel
theorem dX9_run_76 : decode cX9_run 76 = .ok (.ireturn, 1) := by decide +kernel
theorem dX9_run_77 : decode cX9_run 77 = .ok (.aload_n 0, 1) := by decide +kernel
theorem dX9_run_78 : decode cX9_run 78 = .ok (.getfield 57, 3) := by decide +kernel
theorem dX9_run_81 : decode cX9_run 81 = .ok (.iload_n 1, 1) := by decide +kernel
theorem dX9_run_82 : decode cX9_run 82 = .ok (.invokevirtual 102, 3) := by decide +kernel
theorem dX9_run_85 : decode cX9_run 85 = .ok (.istore_n 2, 1) := by decide +kernel
theorem dX9_run_86 : decode cX9_run 86 = .ok (.iload_n 2, 1) := by decide +kernel
theorem dX9_run_87 : decode cX9_run 87 = .ok (.ifCond .ne 17, 3) := by decide +kernel
theorem dX9_run_90 : decode cX9_run 90 = .ok (.aload_n 0, 1) := by decide +kernel
theorem dX9_run_91 : decode cX9_run 91 = .ok (.getfield 32, 3) := by decide +kernel
theorem dX9_run_94 : decode cX9_run 94 = .ok (.aload_n 0, 1) := by decide +kernel
theorem dX9_run_95 : decode cX9_run 95 = .ok (.getfield 57, 3) := by decide +kernel
theorem dX9_run_98 : decode cX9_run 98 = .ok (.getfield 105, 3) := by decide +kernel
theorem dX9_run_101 : decode cX9_run 101 = .ok (.invokevirtual 108, 3) := by decide +kernel
theorem dX9_run_104 : decode cX9_run 104 = .ok (.iload_n 2, 1) := by decide +kernel
theorem dX9_run_105 : decode cX9_run 105 = .ok (.ireturn, 1) := by decide +kernel
theorem dX9_fault_0 : decode cX9_fault 0 = .ok (.iload_n 1, 1) := by decide +kernel
theorem dX9_fault_1 : decode cX9_fault 1 = .ok (.tableswitch 51 0 2 #[27, 35, 43], 27) := by decide +kernel
theorem dX9_fault_28 : decode cX9_fault 28 = .ok (.aload_n 0, 1) := by decide +kernel
theorem dX9_fault_29 : decode cX9_fault 29 = .ok (.getfield 25, 3) := by decide +kernel
theorem dX9_fault_32 : decode cX9_fault 32 = .ok (.getfield 111, 3) := by decide +kernel
theorem dX9_fault_35 : decode cX9_fault 35 = .ok (.ireturn, 1) := by decide +kernel
theorem dX9_fault_36 : decode cX9_fault 36 = .ok (.aload_n 0, 1) := by decide +kernel
theorem dX9_fault_37 : decode cX9_fault 37 = .ok (.getfield 25, 3) := by decide +kernel
theorem dX9_fault_40 : decode cX9_fault 40 = .ok (.getfield 114, 3) := by decide +kernel
theorem dX9_fault_43 : decode cX9_fault 43 = .ok (.ireturn, 1) := by decide +kernel
theorem dX9_fault_44 : decode cX9_fault 44 = .ok (.aload_n 0, 1) := by decide +kernel
theorem dX9_fault_45 : decode cX9_fault 45 = .ok (.getfield 48, 3) := by decide +kernel
theorem dX9_fault_48 : decode cX9_fault 48 = .ok (.getfield 117, 3) := by decide +kernel
theorem dX9_fault_51 : decode cX9_fault 51 = .ok (.ireturn, 1) := by decide +kernel
theorem dX9_fault_52 : decode cX9_fault 52 = .ok (.iconst (-1), 1) := by decide +kernel
theorem dX9_fault_53 : decode cX9_fault 53 = .ok (.ireturn, 1) := by decide +kernel
theorem dX9_steps_0 : decode cX9_steps 0 = .ok (.aload_n 0, 1) := by decide +kernel
theorem dX9_steps_1 : decode cX9_steps 1 = .ok (.getfield 48, 3) := by decide +kernel
theorem dX9_steps_4 : decode cX9_steps 4 = .ok (.getfield 118, 3) := by decide +kernel
theorem dX9_steps_7 : decode cX9_steps 7 = .ok (.ireturn, 1) := by decide +kernel
theorem dX9_functions_0 : decode cX9_functions 0 = .ok (.aload_n 0, 1) := by decide +kernel
theorem dX9_functions_1 : decode cX9_functions 1 = .ok (.getfield 39, 3) := by decide +kernel
theorem dX9_functions_4 : decode cX9_functions 4 = .ok (.getfield 121, 3) := by decide +kernel
theorem dX9_functions_7 : decode cX9_functions 7 = .ok (.ireturn, 1) := by decide +kernel
theorem dX9_size_0 : decode cX9_size 0 = .ok (.aload_n 0, 1) := by decide +kernel
theorem dX9_size_1 : decode cX9_size 1 = .ok (.getfield 32, 3) := by decide +kernel
theorem dX9_size_4 : decode cX9_size 4 = .ok (.getfield 124, 3) := by decide +kernel
theorem dX9_size_7 : decode cX9_size 7 = .ok (.ireturn, 1) := by decide +kernel
theorem dX9_letter_0 : decode cX9_letter 0 = .ok (.aload_n 0, 1) := by decide +kernel
theorem dX9_letter_1 : decode cX9_letter 1 = .ok (.getfield 32, 3) := by decide +kernel
theorem dX9_letter_4 : decode cX9_letter 4 = .ok (.iload_n 1, 1) := by decide +kernel
theorem dX9_letter_5 : decode cX9_letter 5 = .ok (.invokevirtual 125, 3) := by decide +kernel
theorem dX9_letter_8 : decode cX9_letter 8 = .ok (.ireturn, 1) := by decide +kernel
