theorem dX0_init_0 : decode cX0_init 0 = .ok (.aload_n 0, 1) := by decide +kernel
theorem dX0_init_1 : decode cX0_init 1 = .ok (.invokespecial 1, 3) := by decide +kernel
theorem dX0_init_4 : decode cX0_init 4 = .ok (.aload_n 0, 1) := by decide +kernel
theorem dX0_init_5 : decode cX0_init 5 = .ok (.bipush 16, 2) := by decide +kernel
theorem dX0_init_7 : decode cX0_init 7 = .ok (.newarray .int, 2) := by decide +kernel
theorem dX0_init_9 : decode cX0_init 9 = .ok (.putfield 9, 3) := by decide +kernel
theorem dX0_init_12 : decode cX0_init 12 = .ok (.aload_n 0, 1) := by decide +kernel
theorem dX0_init_13 : decode cX0_init 13 = .ok (.iconst 0, 1) := by decide +kernel
theorem dX0_init_14 : decode cX0_init 14 = .ok (.putfield 13, 3) := by decide +kernel
theorem dX0_init_17 : decode cX0_init 17 = .ok (.aload_n 0, 1) := by decide +kernel
theorem dX0_init_18 : decode cX0_init 18 = .ok (.iconst 0, 1) := by decide +kernel
theorem dX0_init_19 : decode cX0_init 19 = .ok (.putfield 17, 3) := by decide +kernel
theorem dX0_init_22 : decode cX0_init 22 = .ok (.return_, 1) := by decide +kernel
theorem dX0_answer_0 : decode cX0_answer 0 = .ok (.aload_n 0, 1) := by decide +kernel
theorem dX0_answer_1 : decode cX0_answer 1 = .ok (.iconst 0, 1) := by decide +kernel
theorem dX0_answer_2 : decode cX0_answer 2 = .ok (.putfield 13, 3) := by decide +kernel
theorem dX0_answer_5 : decode cX0_answer 5 = .ok (.aload_n 0, 1) := by decide +kernel
theorem dX0_answer_6 : decode cX0_answer 6 = .ok (.iload_n 2, 1) := by decide +kernel
theorem dX0_answer_7 : decode cX0_answer 7 = .ok (.putfield 17, 3) := by decide +kernel
theorem dX0_answer_10 : decode cX0_answer 10 = .ok (.aload_n 0, 1) := by decide +kernel
theorem dX0_answer_11 : decode cX0_answer 11 = .ok (.iload_n 3, 1) := by decide +kernel
theorem dX0_answer_12 : decode cX0_answer 12 = .ok (.ifCond .ne 10, 3) := by decide +kernel
theorem dX0_answer_15 : decode cX0_answer 15 = .ok (.aload_n 1, 1) := by decide +kernel
theorem dX0_answer_16 : decode cX0_answer 16 = .ok (.invokestatic 20, 3) := by decide +kernel
theorem dX0_answer_19 : decode cX0_answer 19 = .ok (.goto 7, 3) := by decide +kernel
theorem dX0_answer_22 : decode cX0_answer 22 = .ok (.aload_n 1, 1) := by decide +kernel
theorem dX0_answer_23 : decode cX0_answer 23 = .ok (.invokestatic 24, 3) := by decide +kernel
theorem dX0_answer_26 : decode cX0_answer 26 = .ok (.aload_n 1, 1) := by decide +kernel
theorem dX0_answer_27 : decode cX0_answer 27 = .ok (.iconst 0, 1) := by decide +kernel
theorem dX0_answer_28 : decode cX0_answer 28 = .ok (.invokevirtual 27, 3) := by decide +kernel
theorem dX0_answer_31 : decode cX0_answer 31 = .ok (.ireturn, 1) := by decide +kernel
theorem dX0_body_0 : decode cX0_body 0 = .ok (.iload_n 3, 1) := by decide +kernel
theorem dX0_body_1 : decode cX0_body 1 = .ok (.bipush 16, 2) := by decide +kernel
theorem dX0_body_3 : decode cX0_body 3 = .ok (.if_icmp .lt 5, 3) := by decide +kernel
theorem dX0_body_6 : decode cX0_body 6 = .ok (.iconst 0, 1) := by decide +kernel
theorem dX0_body_7 : decode cX0_body 7 = .ok (.ireturn, 1) := by decide +kernel
theorem dX0_body_8 : decode cX0_body 8 = .ok (.aload_n 0, 1) := by decide +kernel
theorem dX0_body_9 : decode cX0_body 9 = .ok (.iload_n 1, 1) := by decide +kernel
theorem dX0_body_10 : decode cX0_body 10 = .ok (.invokevirtual 31, 3) := by decide +kernel
theorem dX0_body_13 : decode cX0_body 13 = .ok (.iload_n 3, 1) := by decide +kernel
theorem dX0_body_14 : decode cX0_body 14 = .ok (.iconst 1, 1) := by decide +kernel
theorem dX0_body_15 : decode cX0_body 15 = .ok (.iadd, 1) := by decide +kernel
theorem dX0_body_16 : decode cX0_body 16 = .ok (.istore 4, 2) := by decide +kernel
theorem dX0_body_18 : decode cX0_body 18 = .ok (.iload_n 1, 1) := by decide +kernel
theorem dX0_body_19 : decode cX0_body 19 = .ok (.tableswitch 204 10 24 #[73, 78, 100, 111, 124, 204, 204, 204, 204, 204, 136, 141, 156, 170, 192], 73) := by decide +kernel
theorem dX0_body_92 : decode cX0_body 92 = .ok (.aload_n 2, 1) := by decide +kernel
theorem dX0_body_93 : decode cX0_body 93 = .ok (.getfield 35, 3) := by decide +kernel
theorem dX0_body_96 : decode cX0_body 96 = .ok (.ireturn, 1) := by decide +kernel
theorem dX0_body_97 : decode cX0_body 97 = .ok (.aload_n 0, 1) := by decide +kernel
theorem dX0_body_98 : decode cX0_body 98 = .ok (.bipush 10, 2) := by decide +kernel
theorem dX0_body_100 : decode cX0_body 100 = .ok (.aload_n 2, 1) := by decide +kernel
theorem dX0_body_101 : decode cX0_body 101 = .ok (.iload 4, 2) := by decide +kernel
theorem dX0_body_103 : decode cX0_body 103 = .ok (.invokevirtual 27, 3) := by decide +kernel
theorem dX0_body_106 : decode cX0_body 106 = .ok (.aload_n 0, 1) := by decide +kernel
theorem dX0_body_107 : decode cX0_body 107 = .ok (.aload_n 2, 1) := by decide +kernel
theorem dX0_body_108 : decode cX0_body 108 = .ok (.invokestatic 24, 3) := by decide +kernel
theorem dX0_body_111 : decode cX0_body 111 = .ok (.aload_n 2, 1) := by decide +kernel
theorem dX0_body_112 : decode cX0_body 112 = .ok (.iload 4, 2) := by decide +kernel
theorem dX0_body_114 : decode cX0_body 114 = .ok (.invokevirtual 27, 3) := by decide +kernel
theorem dX0_body_117 : decode cX0_body 117 = .ok (.iadd, 1) := by decide +kernel
theorem dX0_body_118 : decode cX0_body 118 = .ok (.ireturn, 1) := by decide +kernel
theorem dX0_body_119 : decode cX0_body 119 = .ok (.aload_n 0, 1) := by decide +kernel
theorem dX0_body_120 : decode cX0_body 120 = .ok (.bipush 11, 2) := by decide +kernel
theorem dX0_body_122 : decode cX0_body 122 = .ok (.aload_n 2, 1) := by decide +kernel
theorem dX0_body_123 : decode cX0_body 123 = .ok (.iload 4, 2) := by decide +kernel
theorem dX0_body_125 : decode cX0_body 125 = .ok (.invokevirtual 27, 3) := by decide +kernel
theorem dX0_body_128 : decode cX0_body 128 = .ok (.ineg, 1) := by decide +kernel
theorem dX0_body_129 : decode cX0_body 129 = .ok (.ireturn, 1) := by decide +kernel
theorem dX0_body_130 : decode cX0_body 130 = .ok (.aload_n 0, 1) := by decide +kernel
theorem dX0_body_131 : decode cX0_body 131 = .ok (.bipush 10, 2) := by decide +kernel
theorem dX0_body_133 : decode cX0_body 133 = .ok (.aload_n 2, 1) := by decide +kernel
theorem dX0_body_134 : decode cX0_body 134 = .ok (.iload 4, 2) := by decide +kernel
theorem dX0_body_136 : decode cX0_body 136 = .ok (.invokevirtual 27, 3) := by decide +kernel
theorem dX0_body_139 : decode cX0_body 139 = .ok (.bipush 100, 2) := by decide +kernel
theorem dX0_body_141 : decode cX0_body 141 = .ok (.isub, 1) := by decide +kernel
theorem dX0_body_142 : decode cX0_body 142 = .ok (.ireturn, 1) := by decide +kernel
theorem dX0_body_143 : decode cX0_body 143 = .ok (.iconst 2, 1) := by decide +kernel
theorem dX0_body_144 : decode cX0_body 144 = .ok (.aload_n 0, 1) := by decide +kernel
theorem dX0_body_145 : decode cX0_body 145 = .ok (.bipush 13, 2) := by decide +kernel
theorem dX0_body_147 : decode cX0_body 147 = .ok (.aload_n 2, 1) := by decide +kernel
theorem dX0_body_148 : decode cX0_body 148 = .ok (.iload 4, 2) := by decide +kernel
theorem dX0_body_150 : decode cX0_body 150 = .ok (.invokevirtual 27, 3) := by decide +kernel
theorem dX0_body_153 : decode cX0_body 153 = .ok (.imul, 1) := by decide +kernel
theorem dX0_body_154 : decode cX0_body 154 = .ok (.ireturn, 1) := by decide +kernel
theorem dX0_body_155 : decode cX0_body 155 = .ok (.aload_n 0, 1) := by decide +kernel
theorem dX0_body_156 : decode cX0_body 156 = .ok (.getfield 17, 3) := by decide +kernel
theorem dX0_body_159 : decode cX0_body 159 = .ok (.ireturn, 1) := by decide +kernel
theorem dX0_body_160 : decode cX0_body 160 = .ok (.aload_n 0, 1) := by decide +kernel
theorem dX0_body_161 : decode cX0_body 161 = .ok (.bipush 20, 2) := by decide +kernel
theorem dX0_body_163 : decode cX0_body 163 = .ok (.aload_n 2, 1) := by decide +kernel
theorem dX0_body_164 : decode cX0_body 164 = .ok (.iload 4, 2) := by decide +kernel
theorem dX0_body_166 : decode cX0_body 166 = .ok (.invokevirtual 27, 3) := by decide +kernel
theorem dX0_body_169 : decode cX0_body 169 = .ok (.aload_n 2, 1) := by decide +kernel
theorem dX0_body_170 : decode cX0_body 170 = .ok (.invokevirtual 40, 3) := by decide +kernel
theorem dX0_body_173 : decode cX0_body 173 = .ok (.iadd, 1) := by decide +kernel
theorem dX0_body_174 : decode cX0_body 174 = .ok (.ireturn, 1) := by decide +kernel
theorem dX0_body_175 : decode cX0_body 175 = .ok (.aload_n 0, 1) := by decide +kernel
theorem dX0_body_176 : decode cX0_body 176 = .ok (.bipush 21, 2) := by decide +kernel
theorem dX0_body_178 : decode cX0_body 178 = .ok (.aload_n 2, 1) := by decide +kernel
theorem dX0_body_179 : decode cX0_body 179 = .ok (.iload 4, 2) := by decide +kernel
theorem dX0_body_181 : decode cX0_body 181 = .ok (.invokevirtual 27, 3) := by decide +kernel
theorem dX0_body_184 : decode cX0_body 184 = .ok (.sipush 1000, 3) := by decide +kernel
theorem dX0_body_187 : decode cX0_body 187 = .ok (.isub, 1) := by decide +kernel
theorem dX0_body_188 : decode cX0_body 188 = .ok (.ireturn, 1) := by decide +kernel
theorem dX0_body_189 : decode cX0_body 189 = .ok (.aload_n 0, 1) := by decide +kernel
theorem dX0_body_190 : decode cX0_body 190 = .ok (.bipush 20, 2) := by decide +kernel
theorem dX0_body_192 : decode cX0_body 192 = .ok (.aload_n 2, 1) := by decide +kernel
theorem dX0_body_193 : decode cX0_body 193 = .ok (.iload 4, 2) := by decide +kernel
theorem dX0_body_195 : decode cX0_body 195 = .ok (.invokevirtual 27, 3) := by decide +kernel
theorem dX0_body_198 : decode cX0_body 198 = .ok (.aload_n 0, 1) := by decide +kernel
theorem dX0_body_199 : decode cX0_body 199 = .ok (.aload_n 2, 1) := by decide +kernel
theorem dX0_body_200 : decode cX0_body 200 = .ok (.invokestatic 20, 3) := by decide +kernel
theorem dX0_body_203 : decode cX0_body 203 = .ok (.aload_n 2, 1) := by decide +kernel
theorem dX0_body_204 : decode cX0_body 204 = .ok (.iload 4, 2) := by decide +kernel
theorem dX0_body_206 : decode cX0_body 206 = .ok (.invokevirtual 27, 3) := by decide +kernel
theorem dX0_body_209 : decode cX0_body 209 = .ok (.isub, 1) := by decide +kernel
theorem dX0_body_210 : decode cX0_body 210 = .ok (.ireturn, 1) := by decide +kernel
theorem dX0_body_211 : decode cX0_body 211 = .ok (.iconst 2, 1) := by decide +kernel
theorem dX0_body_212 : decode cX0_body 212 = .ok (.aload_n 0, 1) := by decide +kernel
theorem dX0_body_213 : decode cX0_body 213 = .ok (.bipush 21, 2) := by decide +kernel
theorem dX0_body_215 : decode cX0_body 215 = .ok (.aload_n 2, 1) := by decide +kernel
theorem dX0_body_216 : decode cX0_body 216 = .ok (.iload 4, 2) := by decide +kernel
theorem dX0_body_218 : decode cX0_body 218 = .ok (.invokevirtual 27, 3) := by decide +kernel
theorem dX0_body_221 : decode cX0_body 221 = .ok (.imul, 1) := by decide +kernel
theorem dX0_body_222 : decode cX0_body 222 = .ok (.ireturn, 1) := by decide +kernel
theorem dX0_body_223 : decode cX0_body 223 = .ok (.iconst 0, 1) := by decide +kernel
theorem dX0_body_224 : decode cX0_body 224 = .ok (.ireturn, 1) := by decide +kernel
theorem dX0_leave_0 : decode cX0_leave 0 = .ok (.aload_n 0, 1) := by decide +kernel
theorem dX0_leave_1 : decode cX0_leave 1 = .ok (.getfield 13, 3) := by decide +kernel
theorem dX0_leave_4 : decode cX0_leave 4 = .ok (.ifCond .lt 32, 3) := by decide +kernel
theorem dX0_leave_7 : decode cX0_leave 7 = .ok (.aload_n 0, 1) := by decide +kernel
theorem dX0_leave_8 : decode cX0_leave 8 = .ok (.getfield 13, 3) := by decide +kernel
theorem dX0_leave_11 : decode cX0_leave 11 = .ok (.bipush 16, 2) := by decide +kernel
theorem dX0_leave_13 : decode cX0_leave 13 = .ok (.if_icmp .ge 23, 3) := by decide +kernel
theorem dX0_leave_16 : decode cX0_leave 16 = .ok (.aload_n 0, 1) := by decide +kernel
theorem dX0_leave_17 : decode cX0_leave 17 = .ok (.getfield 9, 3) := by decide +kernel
theorem dX0_leave_20 : decode cX0_leave 20 = .ok (.aload_n 0, 1) := by decide +kernel
theorem dX0_leave_21 : decode cX0_leave 21 = .ok (.getfield 13, 3) := by decide +kernel
theorem dX0_leave_24 : decode cX0_leave 24 = .ok (.iload_n 1, 1) := by decide +kernel
theorem dX0_leave_25 : decode cX0_leave 25 = .ok (.iastore, 1) := by decide +kernel
theorem dX0_leave_26 : decode cX0_leave 26 = .ok (.aload_n 0, 1) := by decide +kernel
theorem dX0_leave_27 : decode cX0_leave 27 = .ok (.dup, 1) := by decide +kernel
theorem dX0_leave_28 : decode cX0_leave 28 = .ok (.getfield 13, 3) := by decide +kernel
theorem dX0_leave_31 : decode cX0_leave 31 = .ok (.iconst 1, 1) := by decide +kernel
theorem dX0_leave_32 : decode cX0_leave 32 = .ok (.iadd, 1) := by decide +kernel
theorem dX0_leave_33 : decode cX0_leave 33 = .ok (.putfield 13, 3) := by decide +kernel
theorem dX0_leave_36 : decode cX0_leave 36 = .ok (.return_, 1) := by decide +kernel
theorem dX0_sizeBody_0 : decode cX0_sizeBody 0 = .ok (.aload_n 0, 1) := by decide +kernel
theorem dX0_sizeBody_1 : decode cX0_sizeBody 1 = .ok (.getfield 44, 3) := by decide +kernel
theorem dX0_sizeBody_4 : decode cX0_sizeBody 4 = .ok (.ifCond .lt 25, 3) := by decide +kernel
theorem dX0_sizeBody_7 : decode cX0_sizeBody 7 = .ok (.aload_n 0, 1) := by decide +kernel
theorem dX0_sizeBody_8 : decode cX0_sizeBody 8 = .ok (.getfield 44, 3) := by decide +kernel
theorem dX0_sizeBody_11 : decode cX0_sizeBody 11 = .ok (.getstatic 47, 3) := by decide +kernel
theorem dX0_sizeBody_14 : decode cX0_sizeBody 14 = .ok (.arraylength, 1) := by decide +kernel
theorem dX0_sizeBody_15 : decode cX0_sizeBody 15 = .ok (.if_icmp .ge 14, 3) := by decide +kernel
theorem dX0_sizeBody_18 : decode cX0_sizeBody 18 = .ok (.getstatic 47, 3) := by decide +kernel
theorem dX0_sizeBody_21 : decode cX0_sizeBody 21 = .ok (.aload_n 0, 1) := by decide +kernel
theorem dX0_sizeBody_22 : decode cX0_sizeBody 22 = .ok (.getfield 44, 3) := by decide +kernel
theorem dX0_sizeBody_25 : decode cX0_sizeBody 25 = .ok (.iaload, 1) := by decide +kernel
theorem dX0_sizeBody_26 : decode cX0_sizeBody 26 = .ok (.goto 5, 3) := by decide +kernel
theorem dX0_sizeBody_29 : decode cX0_sizeBody 29 = .ok (.bipush 10, 2) := by decide +kernel
theorem dX0_sizeBody_31 : decode cX0_sizeBody 31 = .ok (.ireturn, 1) := by decide +kernel
theorem dX0_markBody_0 : decode cX0_markBody 0 = .ok (.aload_n 0, 1) := by decide +kernel
theorem dX0_markBody_1 : decode cX0_markBody 1 = .ok (.getfield 44, 3) := by decide +kernel
theorem dX0_markBody_4 : decode cX0_markBody 4 = .ok (.ifCond .lt 25, 3) := by decide +kernel
theorem dX0_markBody_7 : decode cX0_markBody 7 = .ok (.aload_n 0, 1) := by decide +kernel
theorem dX0_markBody_8 : decode cX0_markBody 8 = .ok (.getfield 44, 3) := by decide +kernel
theorem dX0_markBody_11 : decode cX0_markBody 11 = .ok (.getstatic 50, 3) := by decide +kernel
theorem dX0_markBody_14 : decode cX0_markBody 14 = .ok (.arraylength, 1) := by decide +kernel
theorem dX0_markBody_15 : decode cX0_markBody 15 = .ok (.if_icmp .ge 14, 3) := by decide +kernel
theorem dX0_markBody_18 : decode cX0_markBody 18 = .ok (.getstatic 50, 3) := by decide +kernel
theorem dX0_markBody_21 : decode cX0_markBody 21 = .ok (.aload_n 0, 1) := by decide +kernel
theorem dX0_markBody_22 : decode cX0_markBody 22 = .ok (.getfield 44, 3) := by decide +kernel
theorem dX0_markBody_25 : decode cX0_markBody 25 = .ok (.iaload, 1) := by decide +kernel
theorem dX0_markBody_26 : decode cX0_markBody 26 = .ok (.goto 5, 3) := by decide +kernel
theorem dX0_markBody_29 : decode cX0_markBody 29 = .ok (.bipush 20, 2) := by decide +kernel
theorem dX0_markBody_31 : decode cX0_markBody 31 = .ok (.ireturn, 1) := by decide +kernel
theorem dX1_init_0 : decode cX1_init 0 = .ok (.aload_n 0, 1) := by decide +kernel
theorem dX1_init_1 : decode cX1_init 1 = .ok (.invokespecial 3, 3) := by decide +kernel
theorem dX1_init_4 : decode cX1_init 4 = .ok (.aload_n 0, 1) := by decide +kernel
theorem dX1_init_5 : decode cX1_init 5 = .ok (.iconst 5, 1) := by decide +kernel
theorem dX1_init_6 : decode cX1_init 6 = .ok (.anewarray 9, 3) := by decide +kernel
theorem dX1_init_9 : decode cX1_init 9 = .ok (.putfield 11, 3) := by decide +kernel
theorem dX1_init_12 : decode cX1_init 12 = .ok (.aload_n 0, 1) := by decide +kernel
theorem dX1_init_13 : decode cX1_init 13 = .ok (.iconst 3, 1) := by decide +kernel
theorem dX1_init_14 : decode cX1_init 14 = .ok (.anewarray 9, 3) := by decide +kernel
theorem dX1_init_17 : decode cX1_init 17 = .ok (.putfield 17, 3) := by decide +kernel
theorem dX1_init_20 : decode cX1_init 20 = .ok (.aload_n 0, 1) := by decide +kernel
theorem dX1_init_21 : decode cX1_init 21 = .ok (.bipush 8, 2) := by decide +kernel
theorem dX1_init_23 : decode cX1_init 23 = .ok (.newarray .int, 2) := by decide +kernel
theorem dX1_init_25 : decode cX1_init 25 = .ok (.putfield 20, 3) := by decide +kernel
theorem dX1_init_28 : decode cX1_init 28 = .ok (.aload_n 0, 1) := by decide +kernel
theorem dX1_init_29 : decode cX1_init 29 = .ok (.iconst 0, 1) := by decide +kernel
theorem dX1_init_30 : decode cX1_init 30 = .ok (.putfield 24, 3) := by decide +kernel
theorem dX1_init_33 : decode cX1_init 33 = .ok (.aload_n 0, 1) := by decide +kernel
theorem dX1_init_34 : decode cX1_init 34 = .ok (.iconst 0, 1) := by decide +kernel
theorem dX1_init_35 : decode cX1_init 35 = .ok (.putfield 28, 3) := by decide +kernel
theorem dX1_init_38 : decode cX1_init 38 = .ok (.aload_n 0, 1) := by decide +kernel
theorem dX1_init_39 : decode cX1_init 39 = .ok (.iconst 0, 1) := by decide +kernel
theorem dX1_init_40 : decode cX1_init 40 = .ok (.putfield 31, 3) := by decide +kernel
theorem dX1_init_43 : decode cX1_init 43 = .ok (.iconst 0, 1) := by decide +kernel
theorem dX1_init_44 : decode cX1_init 44 = .ok (.istore_n 1, 1) := by decide +kernel
theorem dX1_init_45 : decode cX1_init 45 = .ok (.iload_n 1, 1) := by decide +kernel
theorem dX1_init_46 : decode cX1_init 46 = .ok (.aload_n 0, 1) := by decide +kernel
theorem dX1_init_47 : decode cX1_init 47 = .ok (.getfield 11, 3) := by decide +kernel
theorem dX1_init_50 : decode cX1_init 50 = .ok (.arraylength, 1) := by decide +kernel
theorem dX1_init_51 : decode cX1_init 51 = .ok (.if_icmp .ge 22, 3) := by decide +kernel
theorem dX1_init_54 : decode cX1_init 54 = .ok (.aload_n 0, 1) := by decide +kernel
theorem dX1_init_55 : decode cX1_init 55 = .ok (.getfield 11, 3) := by decide +kernel
theorem dX1_init_58 : decode cX1_init 58 = .ok (.iload_n 1, 1) := by decide +kernel
theorem dX1_init_59 : decode cX1_init 59 = .ok (.new 9, 3) := by decide +kernel
theorem dX1_init_62 : decode cX1_init 62 = .ok (.dup, 1) := by decide +kernel
theorem dX1_init_63 : decode cX1_init 63 = .ok (.invokespecial 34, 3) := by decide +kernel
theorem dX1_init_66 : decode cX1_init 66 = .ok (.aastore, 1) := by decide +kernel
theorem dX1_init_67 : decode cX1_init 67 = .ok (.iinc 1 1, 3) := by decide +kernel
theorem dX1_init_70 : decode cX1_init 70 = .ok (.goto (-25), 3) := by decide +kernel
theorem dX1_init_73 : decode cX1_init 73 = .ok (.iconst 0, 1) := by decide +kernel
theorem dX1_init_74 : decode cX1_init 74 = .ok (.istore_n 1, 1) := by decide +kernel
theorem dX1_init_75 : decode cX1_init 75 = .ok (.iload_n 1, 1) := by decide +kernel
theorem dX1_init_76 : decode cX1_init 76 = .ok (.aload_n 0, 1) := by decide +kernel
theorem dX1_init_77 : decode cX1_init 77 = .ok (.getfield 17, 3) := by decide +kernel
theorem dX1_init_80 : decode cX1_init 80 = .ok (.arraylength, 1) := by decide +kernel
theorem dX1_init_81 : decode cX1_init 81 = .ok (.if_icmp .ge 22, 3) := by decide +kernel
theorem dX1_init_84 : decode cX1_init 84 = .ok (.aload_n 0, 1) := by decide +kernel
theorem dX1_init_85 : decode cX1_init 85 = .ok (.getfield 17, 3) := by decide +kernel
theorem dX1_init_88 : decode cX1_init 88 = .ok (.iload_n 1, 1) := by decide +kernel
theorem dX1_init_89 : decode cX1_init 89 = .ok (.new 9, 3) := by decide +kernel
theorem dX1_init_92 : decode cX1_init 92 = .ok (.dup, 1) := by decide +kernel
theorem dX1_init_93 : decode cX1_init 93 = .ok (.invokespecial 34, 3) := by decide +kernel
theorem dX1_init_96 : decode cX1_init 96 = .ok (.aastore, 1) := by decide +kernel
theorem dX1_init_97 : decode cX1_init 97 = .ok (.iinc 1 1, 3) := by decide +kernel
theorem dX1_init_100 : decode cX1_init 100 = .ok (.goto (-25), 3) := by decide +kernel
theorem dX1_init_103 : decode cX1_init 103 = .ok (.return_, 1) := by decide +kernel
theorem dX1_become_0 : decode cX1_become 0 = .ok (.aload_n 0, 1) := by decide +kernel
theorem dX1_become_1 : decode cX1_become 1 = .ok (.aload_n 1, 1) := by decide +kernel
theorem dX1_become_2 : decode cX1_become 2 = .ok (.getfield 24, 3) := by decide +kernel
theorem dX1_become_5 : decode cX1_become 5 = .ok (.putfield 24, 3) := by decide +kernel
theorem dX1_become_8 : decode cX1_become 8 = .ok (.aload_n 0, 1) := by decide +kernel
theorem dX1_become_9 : decode cX1_become 9 = .ok (.aload_n 1, 1) := by decide +kernel
theorem dX1_become_10 : decode cX1_become 10 = .ok (.getfield 28, 3) := by decide +kernel
theorem dX1_become_13 : decode cX1_become 13 = .ok (.putfield 28, 3) := by decide +kernel
theorem dX1_become_16 : decode cX1_become 16 = .ok (.aload_n 0, 1) := by decide +kernel
theorem dX1_become_17 : decode cX1_become 17 = .ok (.aload_n 1, 1) := by decide +kernel
theorem dX1_become_18 : decode cX1_become 18 = .ok (.getfield 31, 3) := by decide +kernel
theorem dX1_become_21 : decode cX1_become 21 = .ok (.putfield 31, 3) := by decide +kernel
theorem dX1_become_24 : decode cX1_become 24 = .ok (.iconst 0, 1) := by decide +kernel
theorem dX1_become_25 : decode cX1_become 25 = .ok (.istore_n 2, 1) := by decide +kernel
theorem dX1_become_26 : decode cX1_become 26 = .ok (.iload_n 2, 1) := by decide +kernel
theorem dX1_become_27 : decode cX1_become 27 = .ok (.aload_n 0, 1) := by decide +kernel
theorem dX1_become_28 : decode cX1_become 28 = .ok (.getfield 24, 3) := by decide +kernel
theorem dX1_become_31 : decode cX1_become 31 = .ok (.if_icmp .ge 29, 3) := by decide +kernel
theorem dX1_become_34 : decode cX1_become 34 = .ok (.iload_n 2, 1) := by decide +kernel
theorem dX1_become_35 : decode cX1_become 35 = .ok (.iconst 5, 1) := by decide +kernel
theorem dX1_become_36 : decode cX1_become 36 = .ok (.if_icmp .ge 24, 3) := by decide +kernel
theorem dX1_become_39 : decode cX1_become 39 = .ok (.aload_n 0, 1) := by decide +kernel
theorem dX1_become_40 : decode cX1_become 40 = .ok (.getfield 11, 3) := by decide +kernel
theorem dX1_become_43 : decode cX1_become 43 = .ok (.iload_n 2, 1) := by decide +kernel
theorem dX1_become_44 : decode cX1_become 44 = .ok (.aaload, 1) := by decide +kernel
theorem dX1_become_45 : decode cX1_become 45 = .ok (.aload_n 1, 1) := by decide +kernel
theorem dX1_become_46 : decode cX1_become 46 = .ok (.getfield 11, 3) := by decide +kernel
theorem dX1_become_49 : decode cX1_become 49 = .ok (.iload_n 2, 1) := by decide +kernel
theorem dX1_become_50 : decode cX1_become 50 = .ok (.aaload, 1) := by decide +kernel
theorem dX1_become_51 : decode cX1_become 51 = .ok (.invokevirtual 35, 3) := by decide +kernel
theorem dX1_become_54 : decode cX1_become 54 = .ok (.iinc 2 1, 3) := by decide +kernel
theorem dX1_become_57 : decode cX1_become 57 = .ok (.goto (-31), 3) := by decide +kernel
theorem dX1_become_60 : decode cX1_become 60 = .ok (.iconst 0, 1) := by decide +kernel
theorem dX1_become_61 : decode cX1_become 61 = .ok (.istore_n 2, 1) := by decide +kernel
theorem dX1_become_62 : decode cX1_become 62 = .ok (.iload_n 2, 1) := by decide +kernel
theorem dX1_become_63 : decode cX1_become 63 = .ok (.aload_n 0, 1) := by decide +kernel
theorem dX1_become_64 : decode cX1_become 64 = .ok (.getfield 31, 3) := by decide +kernel
theorem dX1_become_67 : decode cX1_become 67 = .ok (.if_icmp .ge 29, 3) := by decide +kernel
theorem dX1_become_70 : decode cX1_become 70 = .ok (.iload_n 2, 1) := by decide +kernel
theorem dX1_become_71 : decode cX1_become 71 = .ok (.iconst 3, 1) := by decide +kernel
theorem dX1_become_72 : decode cX1_become 72 = .ok (.if_icmp .ge 24, 3) := by decide +kernel
theorem dX1_become_75 : decode cX1_become 75 = .ok (.aload_n 0, 1) := by decide +kernel
theorem dX1_become_76 : decode cX1_become 76 = .ok (.getfield 17, 3) := by decide +kernel
theorem dX1_become_79 : decode cX1_become 79 = .ok (.iload_n 2, 1) := by decide +kernel
theorem dX1_become_80 : decode cX1_become 80 = .ok (.aaload, 1) := by decide +kernel
theorem dX1_become_81 : decode cX1_become 81 = .ok (.aload_n 1, 1) := by decide +kernel
theorem dX1_become_82 : decode cX1_become 82 = .ok (.getfield 17, 3) := by decide +kernel
theorem dX1_become_85 : decode cX1_become 85 = .ok (.iload_n 2, 1) := by decide +kernel
theorem dX1_become_86 : decode cX1_become 86 = .ok (.aaload, 1) := by decide +kernel
theorem dX1_become_87 : decode cX1_become 87 = .ok (.invokevirtual 35, 3) := by decide +kernel
theorem dX1_become_90 : decode cX1_become 90 = .ok (.iinc 2 1, 3) := by decide +kernel
theorem dX1_become_93 : decode cX1_become 93 = .ok (.goto (-31), 3) := by decide +kernel
theorem dX1_become_96 : decode cX1_become 96 = .ok (.aload_n 1, 1) := by decide +kernel
theorem dX1_become_97 : decode cX1_become 97 = .ok (.getfield 20, 3) := by decide +kernel
theorem dX1_become_100 : decode cX1_become 100 = .ok (.iconst 0, 1) := by decide +kernel
theorem dX1_become_101 : decode cX1_become 101 = .ok (.aload_n 0, 1) := by decide +kernel
theorem dX1_become_102 : decode cX1_become 102 = .ok (.getfield 20, 3) := by decide +kernel
theorem dX1_become_105 : decode cX1_become 105 = .ok (.iconst 0, 1) := by decide +kernel
theorem dX1_become_106 : decode cX1_become 106 = .ok (.bipush 8, 2) := by decide +kernel
theorem dX1_become_108 : decode cX1_become 108 = .ok (.invokestatic 39, 3) := by decide +kernel
theorem dX1_become_111 : decode cX1_become 111 = .ok (.return_, 1) := by decide +kernel
theorem dX1_clear_0 : decode cX1_clear 0 = .ok (.aload_n 0, 1) := by decide +kernel
theorem dX1_clear_1 : decode cX1_clear 1 = .ok (.iconst 0, 1) := by decide +kernel
theorem dX1_clear_2 : decode cX1_clear 2 = .ok (.putfield 24, 3) := by decide +kernel
theorem dX1_clear_5 : decode cX1_clear 5 = .ok (.aload_n 0, 1) := by decide +kernel
theorem dX1_clear_6 : decode cX1_clear 6 = .ok (.iconst 0, 1) := by decide +kernel
theorem dX1_clear_7 : decode cX1_clear 7 = .ok (.putfield 28, 3) := by decide +kernel
theorem dX1_clear_10 : decode cX1_clear 10 = .ok (.aload_n 0, 1) := by decide +kernel
theorem dX1_clear_11 : decode cX1_clear 11 = .ok (.iconst 0, 1) := by decide +kernel
theorem dX1_clear_12 : decode cX1_clear 12 = .ok (.putfield 31, 3) := by decide +kernel
theorem dX1_clear_15 : decode cX1_clear 15 = .ok (.iconst 0, 1) := by decide +kernel
theorem dX1_clear_16 : decode cX1_clear 16 = .ok (.istore_n 1, 1) := by decide +kernel
theorem dX1_clear_17 : decode cX1_clear 17 = .ok (.iload_n 1, 1) := by decide +kernel
theorem dX1_clear_18 : decode cX1_clear 18 = .ok (.bipush 8, 2) := by decide +kernel
theorem dX1_clear_20 : decode cX1_clear 20 = .ok (.if_icmp .ge 16, 3) := by decide +kernel
theorem dX1_clear_23 : decode cX1_clear 23 = .ok (.aload_n 0, 1) := by decide +kernel
theorem dX1_clear_24 : decode cX1_clear 24 = .ok (.getfield 20, 3) := by decide +kernel
theorem dX1_clear_27 : decode cX1_clear 27 = .ok (.iload_n 1, 1) := by decide +kernel
theorem dX1_clear_28 : decode cX1_clear 28 = .ok (.iconst 0, 1) := by decide +kernel
theorem dX1_clear_29 : decode cX1_clear 29 = .ok (.iastore, 1) := by decide +kernel
theorem dX1_clear_30 : decode cX1_clear 30 = .ok (.iinc 1 1, 3) := by decide +kernel
theorem dX1_clear_33 : decode cX1_clear 33 = .ok (.goto (-16), 3) := by decide +kernel
theorem dX1_clear_36 : decode cX1_clear 36 = .ok (.return_, 1) := by decide +kernel
theorem dX1_hasTab_0 : decode cX1_hasTab 0 = .ok (.iload_n 1, 1) := by decide +kernel
theorem dX1_hasTab_1 : decode cX1_hasTab 1 = .ok (.ifCond .lt 20, 3) := by decide +kernel
theorem dX1_hasTab_4 : decode cX1_hasTab 4 = .ok (.iload_n 1, 1) := by decide +kernel
theorem dX1_hasTab_5 : decode cX1_hasTab 5 = .ok (.aload_n 0, 1) := by decide +kernel
theorem dX1_hasTab_6 : decode cX1_hasTab 6 = .ok (.getfield 24, 3) := by decide +kernel
theorem dX1_hasTab_9 : decode cX1_hasTab 9 = .ok (.if_icmp .ge 12, 3) := by decide +kernel
theorem dX1_hasTab_12 : decode cX1_hasTab 12 = .ok (.iload_n 1, 1) := by decide +kernel
theorem dX1_hasTab_13 : decode cX1_hasTab 13 = .ok (.iconst 5, 1) := by decide +kernel
theorem dX1_hasTab_14 : decode cX1_hasTab 14 = .ok (.if_icmp .ge 7, 3) := by decide +kernel
theorem dX1_hasTab_17 : decode cX1_hasTab 17 = .ok (.iconst 1, 1) := by decide +kernel
theorem dX1_hasTab_18 : decode cX1_hasTab 18 = .ok (.goto 4, 3) := by decide +kernel
theorem dX1_hasTab_21 : decode cX1_hasTab 21 = .ok (.iconst 0, 1) := by decide +kernel
theorem dX1_hasTab_22 : decode cX1_hasTab 22 = .ok (.ireturn, 1) := by decide +kernel
theorem dX1_hasRoom_0 : decode cX1_hasRoom 0 = .ok (.aload_n 0, 1) := by decide +kernel
theorem dX1_hasRoom_1 : decode cX1_hasRoom 1 = .ok (.getfield 24, 3) := by decide +kernel
theorem dX1_hasRoom_4 : decode cX1_hasRoom 4 = .ok (.iconst 5, 1) := by decide +kernel
theorem dX1_hasRoom_5 : decode cX1_hasRoom 5 = .ok (.if_icmp .ge 7, 3) := by decide +kernel
theorem dX1_hasRoom_8 : decode cX1_hasRoom 8 = .ok (.iconst 1, 1) := by decide +kernel
theorem dX1_hasRoom_9 : decode cX1_hasRoom 9 = .ok (.goto 4, 3) := by decide +kernel
theorem dX1_hasRoom_12 : decode cX1_hasRoom 12 = .ok (.iconst 0, 1) := by decide +kernel
theorem dX1_hasRoom_13 : decode cX1_hasRoom 13 = .ok (.ireturn, 1) := by decide +kernel
theorem dX1_shownPage_0 : decode cX1_shownPage 0 = .ok (.aload_n 0, 1) := by decide +kernel
theorem dX1_shownPage_1 : decode cX1_shownPage 1 = .ok (.aload_n 0, 1) := by decide +kernel
theorem dX1_shownPage_2 : decode cX1_shownPage 2 = .ok (.getfield 28, 3) := by decide +kernel
theorem dX1_shownPage_5 : decode cX1_shownPage 5 = .ok (.invokevirtual 45, 3) := by decide +kernel
theorem dX1_shownPage_8 : decode cX1_shownPage 8 = .ok (.ifCond .eq 18, 3) := by decide +kernel
theorem dX1_shownPage_11 : decode cX1_shownPage 11 = .ok (.aload_n 0, 1) := by decide +kernel
theorem dX1_shownPage_12 : decode cX1_shownPage 12 = .ok (.getfield 11, 3) := by decide +kernel
theorem dX1_shownPage_15 : decode cX1_shownPage 15 = .ok (.aload_n 0, 1) := by decide +kernel
theorem dX1_shownPage_16 : decode cX1_shownPage 16 = .ok (.getfield 28, 3) := by decide +kernel
theorem dX1_shownPage_19 : decode cX1_shownPage 19 = .ok (.aaload, 1) := by decide +kernel
theorem dX1_shownPage_20 : decode cX1_shownPage 20 = .ok (.invokevirtual 49, 3) := by decide +kernel
theorem dX1_shownPage_23 : decode cX1_shownPage 23 = .ok (.goto 4, 3) := by decide +kernel
theorem dX1_shownPage_26 : decode cX1_shownPage 26 = .ok (.iconst 0, 1) := by decide +kernel
theorem dX1_shownPage_27 : decode cX1_shownPage 27 = .ok (.ireturn, 1) := by decide +kernel
theorem dX1_followLink_0 : decode cX1_followLink 0 = .ok (.aload_n 0, 1) := by decide +kernel
theorem dX1_followLink_1 : decode cX1_followLink 1 = .ok (.aload_n 0, 1) := by decide +kernel
theorem dX1_followLink_2 : decode cX1_followLink 2 = .ok (.getfield 28, 3) := by decide +kernel
theorem dX1_followLink_5 : decode cX1_followLink 5 = .ok (.invokevirtual 45, 3) := by decide +kernel
theorem dX1_followLink_8 : decode cX1_followLink 8 = .ok (.ifCond .ne 5, 3) := by decide +kernel
theorem dX1_followLink_11 : decode cX1_followLink 11 = .ok (.iconst 0, 1) := by decide +kernel
theorem dX1_followLink_12 : decode cX1_followLink 12 = .ok (.ireturn, 1) := by decide +kernel
theorem dX1_followLink_13 : decode cX1_followLink 13 = .ok (.aload_n 1, 1) := by decide +kernel
theorem dX1_followLink_14 : decode cX1_followLink 14 = .ok (.aload_n 0, 1) := by decide +kernel
theorem dX1_followLink_15 : decode cX1_followLink 15 = .ok (.getfield 11, 3) := by decide +kernel
theorem dX1_followLink_18 : decode cX1_followLink 18 = .ok (.aload_n 0, 1) := by decide +kernel
theorem dX1_followLink_19 : decode cX1_followLink 19 = .ok (.getfield 28, 3) := by decide +kernel
theorem dX1_followLink_22 : decode cX1_followLink 22 = .ok (.aaload, 1) := by decide +kernel
theorem dX1_followLink_23 : decode cX1_followLink 23 = .ok (.invokevirtual 49, 3) := by decide +kernel
theorem dX1_followLink_26 : decode cX1_followLink 26 = .ok (.iload_n 2, 1) := by decide +kernel
theorem dX1_followLink_27 : decode cX1_followLink 27 = .ok (.invokevirtual 53, 3) := by decide +kernel
theorem dX1_followLink_30 : decode cX1_followLink 30 = .ok (.istore_n 3, 1) := by decide +kernel
theorem dX1_followLink_31 : decode cX1_followLink 31 = .ok (.iload_n 3, 1) := by decide +kernel
theorem dX1_followLink_32 : decode cX1_followLink 32 = .ok (.ldc 59, 2) := by decide +kernel
theorem dX1_followLink_34 : decode cX1_followLink 34 = .ok (.if_icmp .ne 5, 3) := by decide +kernel
theorem dX1_followLink_37 : decode cX1_followLink 37 = .ok (.iconst 0, 1) := by decide +kernel
theorem dX1_followLink_38 : decode cX1_followLink 38 = .ok (.ireturn, 1) := by decide +kernel
theorem dX1_followLink_39 : decode cX1_followLink 39 = .ok (.aload_n 0, 1) := by decide +kernel
theorem dX1_followLink_40 : decode cX1_followLink 40 = .ok (.getfield 11, 3) := by decide +kernel
theorem dX1_followLink_43 : decode cX1_followLink 43 = .ok (.aload_n 0, 1) := by decide +kernel
theorem dX1_followLink_44 : decode cX1_followLink 44 = .ok (.getfield 28, 3) := by decide +kernel
theorem dX1_followLink_47 : decode cX1_followLink 47 = .ok (.aaload, 1) := by decide +kernel
theorem dX1_followLink_48 : decode cX1_followLink 48 = .ok (.getfield 60, 3) := by decide +kernel
theorem dX1_followLink_51 : decode cX1_followLink 51 = .ok (.iconst 3, 1) := by decide +kernel
theorem dX1_followLink_52 : decode cX1_followLink 52 = .ok (.if_icmp .eq 19, 3) := by decide +kernel
theorem dX1_followLink_55 : decode cX1_followLink 55 = .ok (.aload_n 0, 1) := by decide +kernel
theorem dX1_followLink_56 : decode cX1_followLink 56 = .ok (.getfield 11, 3) := by decide +kernel
theorem dX1_followLink_59 : decode cX1_followLink 59 = .ok (.aload_n 0, 1) := by decide +kernel
theorem dX1_followLink_60 : decode cX1_followLink 60 = .ok (.getfield 28, 3) := by decide +kernel
theorem dX1_followLink_63 : decode cX1_followLink 63 = .ok (.aaload, 1) := by decide +kernel
theorem dX1_followLink_64 : decode cX1_followLink 64 = .ok (.iload_n 3, 1) := by decide +kernel
theorem dX1_followLink_65 : decode cX1_followLink 65 = .ok (.invokevirtual 63, 3) := by decide +kernel
theorem dX1_followLink_68 : decode cX1_followLink 68 = .ok (.goto 30, 3) := by decide +kernel
theorem dX1_followLink_71 : decode cX1_followLink 71 = .ok (.aload_n 0, 1) := by decide +kernel
theorem dX1_followLink_72 : decode cX1_followLink 72 = .ok (.invokevirtual 67, 3) := by decide +kernel
theorem dX1_followLink_75 : decode cX1_followLink 75 = .ok (.ifCond .eq 21, 3) := by decide +kernel
theorem dX1_followLink_78 : decode cX1_followLink 78 = .ok (.aload_n 0, 1) := by decide +kernel
theorem dX1_followLink_79 : decode cX1_followLink 79 = .ok (.aload_n 0, 1) := by decide +kernel
theorem dX1_followLink_80 : decode cX1_followLink 80 = .ok (.getfield 28, 3) := by decide +kernel
theorem dX1_followLink_83 : decode cX1_followLink 83 = .ok (.iconst 1, 1) := by decide +kernel
theorem dX1_followLink_84 : decode cX1_followLink 84 = .ok (.iadd, 1) := by decide +kernel
theorem dX1_followLink_85 : decode cX1_followLink 85 = .ok (.invokevirtual 71, 3) := by decide +kernel
theorem dX1_followLink_88 : decode cX1_followLink 88 = .ok (.iconst 1, 1) := by decide +kernel
theorem dX1_followLink_89 : decode cX1_followLink 89 = .ok (.iload_n 3, 1) := by decide +kernel
theorem dX1_followLink_90 : decode cX1_followLink 90 = .ok (.invokevirtual 75, 3) := by decide +kernel
theorem dX1_followLink_93 : decode cX1_followLink 93 = .ok (.goto 5, 3) := by decide +kernel
theorem dX1_followLink_96 : decode cX1_followLink 96 = .ok (.iconst 0, 1) := by decide +kernel
theorem dX1_followLink_97 : decode cX1_followLink 97 = .ok (.ireturn, 1) := by decide +kernel
theorem dX1_followLink_98 : decode cX1_followLink 98 = .ok (.aload_n 0, 1) := by decide +kernel
theorem dX1_followLink_99 : decode cX1_followLink 99 = .ok (.aload_n 0, 1) := by decide +kernel
theorem dX1_followLink_100 : decode cX1_followLink 100 = .ok (.invokevirtual 79, 3) := by decide +kernel
theorem dX1_followLink_103 : decode cX1_followLink 103 = .ok (.invokevirtual 80, 3) := by decide +kernel
theorem dX1_followLink_106 : decode cX1_followLink 106 = .ok (.iconst 1, 1) := by decide +kernel
theorem dX1_followLink_107 : decode cX1_followLink 107 = .ok (.ireturn, 1) := by decide +kernel
theorem dX1_stepBack_0 : decode cX1_stepBack 0 = .ok (.aload_n 0, 1) := by decide +kernel
theorem dX1_stepBack_1 : decode cX1_stepBack 1 = .ok (.aload_n 0, 1) := by decide +kernel
theorem dX1_stepBack_2 : decode cX1_stepBack 2 = .ok (.getfield 28, 3) := by decide +kernel
theorem dX1_stepBack_5 : decode cX1_stepBack 5 = .ok (.invokevirtual 45, 3) := by decide +kernel
theorem dX1_stepBack_8 : decode cX1_stepBack 8 = .ok (.ifCond .eq 22, 3) := by decide +kernel
theorem dX1_stepBack_11 : decode cX1_stepBack 11 = .ok (.aload_n 0, 1) := by decide +kernel
theorem dX1_stepBack_12 : decode cX1_stepBack 12 = .ok (.getfield 11, 3) := by decide +kernel
theorem dX1_stepBack_15 : decode cX1_stepBack 15 = .ok (.aload_n 0, 1) := by decide +kernel
theorem dX1_stepBack_16 : decode cX1_stepBack 16 = .ok (.getfield 28, 3) := by decide +kernel
theorem dX1_stepBack_19 : decode cX1_stepBack 19 = .ok (.aaload, 1) := by decide +kernel
theorem dX1_stepBack_20 : decode cX1_stepBack 20 = .ok (.invokevirtual 83, 3) := by decide +kernel
theorem dX1_stepBack_23 : decode cX1_stepBack 23 = .ok (.ifCond .eq 7, 3) := by decide +kernel
theorem dX1_stepBack_26 : decode cX1_stepBack 26 = .ok (.iconst 1, 1) := by decide +kernel
theorem dX1_stepBack_27 : decode cX1_stepBack 27 = .ok (.goto 4, 3) := by decide +kernel
theorem dX1_stepBack_30 : decode cX1_stepBack 30 = .ok (.iconst 0, 1) := by decide +kernel
theorem dX1_stepBack_31 : decode cX1_stepBack 31 = .ok (.ireturn, 1) := by decide +kernel
theorem dX1_stepForward_0 : decode cX1_stepForward 0 = .ok (.aload_n 0, 1) := by decide +kernel
theorem dX1_stepForward_1 : decode cX1_stepForward 1 = .ok (.aload_n 0, 1) := by decide +kernel
theorem dX1_stepForward_2 : decode cX1_stepForward 2 = .ok (.getfield 28, 3) := by decide +kernel
theorem dX1_stepForward_5 : decode cX1_stepForward 5 = .ok (.invokevirtual 45, 3) := by decide +kernel
theorem dX1_stepForward_8 : decode cX1_stepForward 8 = .ok (.ifCond .eq 22, 3) := by decide +kernel
theorem dX1_stepForward_11 : decode cX1_stepForward 11 = .ok (.aload_n 0, 1) := by decide +kernel
theorem dX1_stepForward_12 : decode cX1_stepForward 12 = .ok (.getfield 11, 3) := by decide +kernel
theorem dX1_stepForward_15 : decode cX1_stepForward 15 = .ok (.aload_n 0, 1) := by decide +kernel
theorem dX1_stepForward_16 : decode cX1_stepForward 16 = .ok (.getfield 28, 3) := by decide +kernel
theorem dX1_stepForward_19 : decode cX1_stepForward 19 = .ok (.aaload, 1) := by decide +kernel
theorem dX1_stepForward_20 : decode cX1_stepForward 20 = .ok (.invokevirtual 86, 3) := by decide +kernel
theorem dX1_stepForward_23 : decode cX1_stepForward 23 = .ok (.ifCond .eq 7, 3) := by decide +kernel
theorem dX1_stepForward_26 : decode cX1_stepForward 26 = .ok (.iconst 1, 1) := by decide +kernel
theorem dX1_stepForward_27 : decode cX1_stepForward 27 = .ok (.goto 4, 3) := by decide +kernel
theorem dX1_stepForward_30 : decode cX1_stepForward 30 = .ok (.iconst 0, 1) := by decide +kernel
theorem dX1_stepForward_31 : decode cX1_stepForward 31 = .ok (.ireturn, 1) := by decide +kernel
theorem dX1_selectTab_0 : decode cX1_selectTab 0 = .ok (.aload_n 0, 1) := by decide +kernel
theorem dX1_selectTab_1 : decode cX1_selectTab 1 = .ok (.iload_n 1, 1) := by decide +kernel
theorem dX1_selectTab_2 : decode cX1_selectTab 2 = .ok (.invokevirtual 45, 3) := by decide +kernel
theorem dX1_selectTab_5 : decode cX1_selectTab 5 = .ok (.ifCond .eq 11, 3) := by decide +kernel
theorem dX1_selectTab_8 : decode cX1_selectTab 8 = .ok (.iload_n 1, 1) := by decide +kernel
theorem dX1_selectTab_9 : decode cX1_selectTab 9 = .ok (.aload_n 0, 1) := by decide +kernel
theorem dX1_selectTab_10 : decode cX1_selectTab 10 = .ok (.getfield 28, 3) := by decide +kernel
theorem dX1_selectTab_13 : decode cX1_selectTab 13 = .ok (.if_icmp .ne 5, 3) := by decide +kernel
theorem dX1_selectTab_16 : decode cX1_selectTab 16 = .ok (.iconst 0, 1) := by decide +kernel
theorem dX1_selectTab_17 : decode cX1_selectTab 17 = .ok (.ireturn, 1) := by decide +kernel
theorem dX1_selectTab_18 : decode cX1_selectTab 18 = .ok (.aload_n 0, 1) := by decide +kernel
theorem dX1_selectTab_19 : decode cX1_selectTab 19 = .ok (.iload_n 1, 1) := by decide +kernel
theorem dX1_selectTab_20 : decode cX1_selectTab 20 = .ok (.putfield 28, 3) := by decide +kernel
theorem dX1_selectTab_23 : decode cX1_selectTab 23 = .ok (.iconst 1, 1) := by decide +kernel
theorem dX1_selectTab_24 : decode cX1_selectTab 24 = .ok (.ireturn, 1) := by decide +kernel
theorem dX1_openPage_0 : decode cX1_openPage 0 = .ok (.aload_n 0, 1) := by decide +kernel
theorem dX1_openPage_1 : decode cX1_openPage 1 = .ok (.invokevirtual 67, 3) := by decide +kernel
theorem dX1_openPage_4 : decode cX1_openPage 4 = .ok (.ifCond .ne 5, 3) := by decide +kernel
theorem dX1_openPage_7 : decode cX1_openPage 7 = .ok (.iconst 0, 1) := by decide +kernel
theorem dX1_openPage_8 : decode cX1_openPage 8 = .ok (.ireturn, 1) := by decide +kernel
theorem dX1_openPage_9 : decode cX1_openPage 9 = .ok (.aload_n 0, 1) := by decide +kernel
theorem dX1_openPage_10 : decode cX1_openPage 10 = .ok (.aload_n 0, 1) := by decide +kernel
theorem dX1_openPage_11 : decode cX1_openPage 11 = .ok (.getfield 24, 3) := by decide +kernel
theorem dX1_openPage_14 : decode cX1_openPage 14 = .ok (.invokevirtual 71, 3) := by decide +kernel
theorem dX1_openPage_17 : decode cX1_openPage 17 = .ok (.iconst 1, 1) := by decide +kernel
theorem dX1_openPage_18 : decode cX1_openPage 18 = .ok (.iload_n 1, 1) := by decide +kernel
theorem dX1_openPage_19 : decode cX1_openPage 19 = .ok (.invokevirtual 75, 3) := by decide +kernel
theorem dX1_openPage_22 : decode cX1_openPage 22 = .ok (.aload_n 0, 1) := by decide +kernel
theorem dX1_openPage_23 : decode cX1_openPage 23 = .ok (.iload_n 1, 1) := by decide +kernel
theorem dX1_openPage_24 : decode cX1_openPage 24 = .ok (.invokevirtual 80, 3) := by decide +kernel
theorem dX1_openPage_27 : decode cX1_openPage 27 = .ok (.iconst 1, 1) := by decide +kernel
theorem dX1_openPage_28 : decode cX1_openPage 28 = .ok (.ireturn, 1) := by decide +kernel
theorem dX1_closeNow_0 : decode cX1_closeNow 0 = .ok (.aload_n 0, 1) := by decide +kernel
theorem dX1_closeNow_1 : decode cX1_closeNow 1 = .ok (.getfield 24, 3) := by decide +kernel
theorem dX1_closeNow_4 : decode cX1_closeNow 4 = .ok (.iconst 2, 1) := by decide +kernel
theorem dX1_closeNow_5 : decode cX1_closeNow 5 = .ok (.if_icmp .lt 14, 3) := by decide +kernel
theorem dX1_closeNow_8 : decode cX1_closeNow 8 = .ok (.aload_n 0, 1) := by decide +kernel
theorem dX1_closeNow_9 : decode cX1_closeNow 9 = .ok (.aload_n 0, 1) := by decide +kernel
theorem dX1_closeNow_10 : decode cX1_closeNow 10 = .ok (.getfield 28, 3) := by decide +kernel
theorem dX1_closeNow_13 : decode cX1_closeNow 13 = .ok (.invokevirtual 45, 3) := by decide +kernel
theorem dX1_closeNow_16 : decode cX1_closeNow 16 = .ok (.ifCond .ne 5, 3) := by decide +kernel
theorem dX1_closeNow_19 : decode cX1_closeNow 19 = .ok (.iconst 0, 1) := by decide +kernel
theorem dX1_closeNow_20 : decode cX1_closeNow 20 = .ok (.ireturn, 1) := by decide +kernel
theorem dX1_closeNow_21 : decode cX1_closeNow 21 = .ok (.aload_n 0, 1) := by decide +kernel
theorem dX1_closeNow_22 : decode cX1_closeNow 22 = .ok (.getfield 11, 3) := by decide +kernel
theorem dX1_closeNow_25 : decode cX1_closeNow 25 = .ok (.aload_n 0, 1) := by decide +kernel
theorem dX1_closeNow_26 : decode cX1_closeNow 26 = .ok (.getfield 28, 3) := by decide +kernel
theorem dX1_closeNow_29 : decode cX1_closeNow 29 = .ok (.aaload, 1) := by decide +kernel
theorem dX1_closeNow_30 : decode cX1_closeNow 30 = .ok (.iconst 4, 1) := by decide +kernel
theorem dX1_closeNow_31 : decode cX1_closeNow 31 = .ok (.invokevirtual 89, 3) := by decide +kernel
theorem dX1_closeNow_34 : decode cX1_closeNow 34 = .ok (.ifCond .ne 16, 3) := by decide +kernel
theorem dX1_closeNow_37 : decode cX1_closeNow 37 = .ok (.aload_n 0, 1) := by decide +kernel
theorem dX1_closeNow_38 : decode cX1_closeNow 38 = .ok (.aload_n 0, 1) := by decide +kernel
theorem dX1_closeNow_39 : decode cX1_closeNow 39 = .ok (.getfield 11, 3) := by decide +kernel
theorem dX1_closeNow_42 : decode cX1_closeNow 42 = .ok (.aload_n 0, 1) := by decide +kernel
theorem dX1_closeNow_43 : decode cX1_closeNow 43 = .ok (.getfield 28, 3) := by decide +kernel
theorem dX1_closeNow_46 : decode cX1_closeNow 46 = .ok (.aaload, 1) := by decide +kernel
theorem dX1_closeNow_47 : decode cX1_closeNow 47 = .ok (.invokevirtual 92, 3) := by decide +kernel
theorem dX1_closeNow_50 : decode cX1_closeNow 50 = .ok (.aload_n 0, 1) := by decide +kernel
theorem dX1_closeNow_51 : decode cX1_closeNow 51 = .ok (.getfield 11, 3) := by decide +kernel
theorem dX1_closeNow_54 : decode cX1_closeNow 54 = .ok (.aload_n 0, 1) := by decide +kernel
theorem dX1_closeNow_55 : decode cX1_closeNow 55 = .ok (.getfield 28, 3) := by decide +kernel
theorem dX1_closeNow_58 : decode cX1_closeNow 58 = .ok (.aaload, 1) := by decide +kernel
theorem dX1_closeNow_59 : decode cX1_closeNow 59 = .ok (.astore_n 1, 1) := by decide +kernel
theorem dX1_closeNow_60 : decode cX1_closeNow 60 = .ok (.aload_n 0, 1) := by decide +kernel
theorem dX1_closeNow_61 : decode cX1_closeNow 61 = .ok (.getfield 28, 3) := by decide +kernel
theorem dX1_closeNow_64 : decode cX1_closeNow 64 = .ok (.istore_n 2, 1) := by decide +kernel
theorem dX1_closeNow_65 : decode cX1_closeNow 65 = .ok (.iload_n 2, 1) := by decide +kernel
theorem dX1_closeNow_66 : decode cX1_closeNow 66 = .ok (.iconst 1, 1) := by decide +kernel
theorem dX1_closeNow_67 : decode cX1_closeNow 67 = .ok (.iadd, 1) := by decide +kernel
theorem dX1_closeNow_68 : decode cX1_closeNow 68 = .ok (.aload_n 0, 1) := by decide +kernel
theorem dX1_closeNow_69 : decode cX1_closeNow 69 = .ok (.getfield 24, 3) := by decide +kernel
theorem dX1_closeNow_72 : decode cX1_closeNow 72 = .ok (.if_icmp .ge 30, 3) := by decide +kernel
theorem dX1_closeNow_75 : decode cX1_closeNow 75 = .ok (.iload_n 2, 1) := by decide +kernel
theorem dX1_closeNow_76 : decode cX1_closeNow 76 = .ok (.iconst 1, 1) := by decide +kernel
theorem dX1_closeNow_77 : decode cX1_closeNow 77 = .ok (.iadd, 1) := by decide +kernel
theorem dX1_closeNow_78 : decode cX1_closeNow 78 = .ok (.iconst 5, 1) := by decide +kernel
theorem dX1_closeNow_79 : decode cX1_closeNow 79 = .ok (.if_icmp .ge 23, 3) := by decide +kernel
theorem dX1_closeNow_82 : decode cX1_closeNow 82 = .ok (.aload_n 0, 1) := by decide +kernel
theorem dX1_closeNow_83 : decode cX1_closeNow 83 = .ok (.getfield 11, 3) := by decide +kernel
theorem dX1_closeNow_86 : decode cX1_closeNow 86 = .ok (.iload_n 2, 1) := by decide +kernel
theorem dX1_closeNow_87 : decode cX1_closeNow 87 = .ok (.aload_n 0, 1) := by decide +kernel
theorem dX1_closeNow_88 : decode cX1_closeNow 88 = .ok (.getfield 11, 3) := by decide +kernel
theorem dX1_closeNow_91 : decode cX1_closeNow 91 = .ok (.iload_n 2, 1) := by decide +kernel
theorem dX1_closeNow_92 : decode cX1_closeNow 92 = .ok (.iconst 1, 1) := by decide +kernel
theorem dX1_closeNow_93 : decode cX1_closeNow 93 = .ok (.iadd, 1) := by decide +kernel
theorem dX1_closeNow_94 : decode cX1_closeNow 94 = .ok (.aaload, 1) := by decide +kernel
theorem dX1_closeNow_95 : decode cX1_closeNow 95 = .ok (.aastore, 1) := by decide +kernel
theorem dX1_closeNow_96 : decode cX1_closeNow 96 = .ok (.iinc 2 1, 3) := by decide +kernel
theorem dX1_closeNow_99 : decode cX1_closeNow 99 = .ok (.goto (-34), 3) := by decide +kernel
theorem dX1_closeNow_102 : decode cX1_closeNow 102 = .ok (.aload_n 0, 1) := by decide +kernel
theorem dX1_closeNow_103 : decode cX1_closeNow 103 = .ok (.dup, 1) := by decide +kernel
theorem dX1_closeNow_104 : decode cX1_closeNow 104 = .ok (.getfield 24, 3) := by decide +kernel
theorem dX1_closeNow_107 : decode cX1_closeNow 107 = .ok (.iconst 1, 1) := by decide +kernel
theorem dX1_closeNow_108 : decode cX1_closeNow 108 = .ok (.isub, 1) := by decide +kernel
theorem dX1_closeNow_109 : decode cX1_closeNow 109 = .ok (.putfield 24, 3) := by decide +kernel
theorem dX1_closeNow_112 : decode cX1_closeNow 112 = .ok (.aload_n 0, 1) := by decide +kernel
theorem dX1_closeNow_113 : decode cX1_closeNow 113 = .ok (.getfield 11, 3) := by decide +kernel
theorem dX1_closeNow_116 : decode cX1_closeNow 116 = .ok (.aload_n 0, 1) := by decide +kernel
theorem dX1_closeNow_117 : decode cX1_closeNow 117 = .ok (.getfield 24, 3) := by decide +kernel
theorem dX1_closeNow_120 : decode cX1_closeNow 120 = .ok (.aload_n 1, 1) := by decide +kernel
theorem dX1_closeNow_121 : decode cX1_closeNow 121 = .ok (.aastore, 1) := by decide +kernel
theorem dX1_closeNow_122 : decode cX1_closeNow 122 = .ok (.aload_n 0, 1) := by decide +kernel
theorem dX1_closeNow_123 : decode cX1_closeNow 123 = .ok (.aload_n 0, 1) := by decide +kernel
theorem dX1_closeNow_124 : decode cX1_closeNow 124 = .ok (.getfield 28, 3) := by decide +kernel
theorem dX1_closeNow_127 : decode cX1_closeNow 127 = .ok (.aload_n 0, 1) := by decide +kernel
theorem dX1_closeNow_128 : decode cX1_closeNow 128 = .ok (.getfield 24, 3) := by decide +kernel
theorem dX1_closeNow_131 : decode cX1_closeNow 131 = .ok (.iconst 1, 1) := by decide +kernel
theorem dX1_closeNow_132 : decode cX1_closeNow 132 = .ok (.isub, 1) := by decide +kernel
theorem dX1_closeNow_133 : decode cX1_closeNow 133 = .ok (.invokestatic 95, 3) := by decide +kernel
theorem dX1_closeNow_136 : decode cX1_closeNow 136 = .ok (.putfield 28, 3) := by decide +kernel
theorem dX1_closeNow_139 : decode cX1_closeNow 139 = .ok (.iconst 1, 1) := by decide +kernel
theorem dX1_closeNow_140 : decode cX1_closeNow 140 = .ok (.ireturn, 1) := by decide +kernel
theorem dX1_reopen_0 : decode cX1_reopen 0 = .ok (.aload_n 0, 1) := by decide +kernel
theorem dX1_reopen_1 : decode cX1_reopen 1 = .ok (.getfield 31, 3) := by decide +kernel
theorem dX1_reopen_4 : decode cX1_reopen 4 = .ok (.iconst 1, 1) := by decide +kernel
theorem dX1_reopen_5 : decode cX1_reopen 5 = .ok (.if_icmp .lt 18, 3) := by decide +kernel
theorem dX1_reopen_8 : decode cX1_reopen 8 = .ok (.aload_n 0, 1) := by decide +kernel
theorem dX1_reopen_9 : decode cX1_reopen 9 = .ok (.getfield 31, 3) := by decide +kernel
theorem dX1_reopen_12 : decode cX1_reopen 12 = .ok (.iconst 3, 1) := by decide +kernel
theorem dX1_reopen_13 : decode cX1_reopen 13 = .ok (.if_icmp .gt 10, 3) := by decide +kernel
theorem dX1_reopen_16 : decode cX1_reopen 16 = .ok (.aload_n 0, 1) := by decide +kernel
theorem dX1_reopen_17 : decode cX1_reopen 17 = .ok (.invokevirtual 67, 3) := by decide +kernel
theorem dX1_reopen_20 : decode cX1_reopen 20 = .ok (.ifCond .ne 5, 3) := by decide +kernel
theorem dX1_reopen_23 : decode cX1_reopen 23 = .ok (.iconst 0, 1) := by decide +kernel
theorem dX1_reopen_24 : decode cX1_reopen 24 = .ok (.ireturn, 1) := by decide +kernel
theorem dX1_reopen_25 : decode cX1_reopen 25 = .ok (.aload_n 0, 1) := by decide +kernel
theorem dX1_reopen_26 : decode cX1_reopen 26 = .ok (.dup, 1) := by decide +kernel
theorem dX1_reopen_27 : decode cX1_reopen 27 = .ok (.getfield 31, 3) := by decide +kernel
theorem dX1_reopen_30 : decode cX1_reopen 30 = .ok (.iconst 1, 1) := by decide +kernel
theorem dX1_reopen_31 : decode cX1_reopen 31 = .ok (.isub, 1) := by decide +kernel
theorem dX1_reopen_32 : decode cX1_reopen 32 = .ok (.putfield 31, 3) := by decide +kernel
theorem dX1_reopen_35 : decode cX1_reopen 35 = .ok (.aload_n 0, 1) := by decide +kernel
theorem dX1_reopen_36 : decode cX1_reopen 36 = .ok (.aload_n 0, 1) := by decide +kernel
theorem dX1_reopen_37 : decode cX1_reopen 37 = .ok (.getfield 24, 3) := by decide +kernel
theorem dX1_reopen_40 : decode cX1_reopen 40 = .ok (.invokevirtual 71, 3) := by decide +kernel
theorem dX1_reopen_43 : decode cX1_reopen 43 = .ok (.aload_n 0, 1) := by decide +kernel
theorem dX1_reopen_44 : decode cX1_reopen 44 = .ok (.getfield 17, 3) := by decide +kernel
theorem dX1_reopen_47 : decode cX1_reopen 47 = .ok (.aload_n 0, 1) := by decide +kernel
theorem dX1_reopen_48 : decode cX1_reopen 48 = .ok (.getfield 31, 3) := by decide +kernel
theorem dX1_reopen_51 : decode cX1_reopen 51 = .ok (.aaload, 1) := by decide +kernel
theorem dX1_reopen_52 : decode cX1_reopen 52 = .ok (.invokevirtual 35, 3) := by decide +kernel
theorem dX1_reopen_55 : decode cX1_reopen 55 = .ok (.iconst 1, 1) := by decide +kernel
theorem dX1_reopen_56 : decode cX1_reopen 56 = .ok (.ireturn, 1) := by decide +kernel
theorem dX1_allVisits_0 : decode cX1_allVisits 0 = .ok (.iconst 0, 1) := by decide +kernel
theorem dX1_allVisits_1 : decode cX1_allVisits 1 = .ok (.istore_n 1, 1) := by decide +kernel
theorem dX1_allVisits_2 : decode cX1_allVisits 2 = .ok (.iconst 0, 1) := by decide +kernel
theorem dX1_allVisits_3 : decode cX1_allVisits 3 = .ok (.istore_n 2, 1) := by decide +kernel
theorem dX1_allVisits_4 : decode cX1_allVisits 4 = .ok (.iload_n 2, 1) := by decide +kernel
theorem dX1_allVisits_5 : decode cX1_allVisits 5 = .ok (.bipush 8, 2) := by decide +kernel
theorem dX1_allVisits_7 : decode cX1_allVisits 7 = .ok (.if_icmp .ge 18, 3) := by decide +kernel
theorem dX1_allVisits_10 : decode cX1_allVisits 10 = .ok (.iload_n 1, 1) := by decide +kernel
theorem dX1_allVisits_11 : decode cX1_allVisits 11 = .ok (.aload_n 0, 1) := by decide +kernel
theorem dX1_allVisits_12 : decode cX1_allVisits 12 = .ok (.getfield 20, 3) := by decide +kernel
theorem dX1_allVisits_15 : decode cX1_allVisits 15 = .ok (.iload_n 2, 1) := by decide +kernel
theorem dX1_allVisits_16 : decode cX1_allVisits 16 = .ok (.iaload, 1) := by decide +kernel
theorem dX1_allVisits_17 : decode cX1_allVisits 17 = .ok (.iadd, 1) := by decide +kernel
theorem dX1_allVisits_18 : decode cX1_allVisits 18 = .ok (.istore_n 1, 1) := by decide +kernel
theorem dX1_allVisits_19 : decode cX1_allVisits 19 = .ok (.iinc 2 1, 3) := by decide +kernel
theorem dX1_allVisits_22 : decode cX1_allVisits 22 = .ok (.goto (-18), 3) := by decide +kernel
theorem dX1_allVisits_25 : decode cX1_allVisits 25 = .ok (.iload_n 1, 1) := by decide +kernel
theorem dX1_allVisits_26 : decode cX1_allVisits 26 = .ok (.ireturn, 1) := by decide +kernel
theorem dX1_shareOf_0 : decode cX1_shareOf 0 = .ok (.aload_n 0, 1) := by decide +kernel
theorem dX1_shareOf_1 : decode cX1_shareOf 1 = .ok (.invokevirtual 100, 3) := by decide +kernel
theorem dX1_shareOf_4 : decode cX1_shareOf 4 = .ok (.istore_n 3, 1) := by decide +kernel
theorem dX1_shareOf_5 : decode cX1_shareOf 5 = .ok (.iload_n 1, 1) := by decide +kernel
theorem dX1_shareOf_6 : decode cX1_shareOf 6 = .ok (.ifCond .lt 22, 3) := by decide +kernel
theorem dX1_shareOf_9 : decode cX1_shareOf 9 = .ok (.iload_n 1, 1) := by decide +kernel
theorem dX1_shareOf_10 : decode cX1_shareOf 10 = .ok (.bipush 8, 2) := by decide +kernel
theorem dX1_shareOf_12 : decode cX1_shareOf 12 = .ok (.if_icmp .ge 16, 3) := by decide +kernel
theorem dX1_shareOf_15 : decode cX1_shareOf 15 = .ok (.aload_n 0, 1) := by decide +kernel
theorem dX1_shareOf_16 : decode cX1_shareOf 16 = .ok (.getfield 20, 3) := by decide +kernel
theorem dX1_shareOf_19 : decode cX1_shareOf 19 = .ok (.iload_n 1, 1) := by decide +kernel
theorem dX1_shareOf_20 : decode cX1_shareOf 20 = .ok (.iaload, 1) := by decide +kernel
theorem dX1_shareOf_21 : decode cX1_shareOf 21 = .ok (.ifCond .eq 7, 3) := by decide +kernel
theorem dX1_shareOf_24 : decode cX1_shareOf 24 = .ok (.iload_n 3, 1) := by decide +kernel
theorem dX1_shareOf_25 : decode cX1_shareOf 25 = .ok (.ifCond .gt 5, 3) := by decide +kernel
theorem dX1_shareOf_28 : decode cX1_shareOf 28 = .ok (.iconst 0, 1) := by decide +kernel
theorem dX1_shareOf_29 : decode cX1_shareOf 29 = .ok (.ireturn, 1) := by decide +kernel
theorem dX1_shareOf_30 : decode cX1_shareOf 30 = .ok (.iload_n 2, 1) := by decide +kernel
theorem dX1_shareOf_31 : decode cX1_shareOf 31 = .ok (.istore 4, 2) := by decide +kernel
theorem dX1_shareOf_33 : decode cX1_shareOf 33 = .ok (.iconst 0, 1) := by decide +kernel
theorem dX1_shareOf_34 : decode cX1_shareOf 34 = .ok (.istore 5, 2) := by decide +kernel
theorem dX1_shareOf_36 : decode cX1_shareOf 36 = .ok (.iconst 0, 1) := by decide +kernel
theorem dX1_shareOf_37 : decode cX1_shareOf 37 = .ok (.istore 6, 2) := by decide +kernel
theorem dX1_shareOf_39 : decode cX1_shareOf 39 = .ok (.iload 6, 2) := by decide +kernel
theorem dX1_shareOf_41 : decode cX1_shareOf 41 = .ok (.bipush 8, 2) := by decide +kernel
theorem dX1_shareOf_43 : decode cX1_shareOf 43 = .ok (.if_icmp .ge 44, 3) := by decide +kernel
theorem dX1_shareOf_46 : decode cX1_shareOf 46 = .ok (.iload 4, 2) := by decide +kernel
theorem dX1_shareOf_48 : decode cX1_shareOf 48 = .ok (.iload_n 2, 1) := by decide +kernel
theorem dX1_shareOf_49 : decode cX1_shareOf 49 = .ok (.aload_n 0, 1) := by decide +kernel
theorem dX1_shareOf_50 : decode cX1_shareOf 50 = .ok (.getfield 20, 3) := by decide +kernel
theorem dX1_shareOf_53 : decode cX1_shareOf 53 = .ok (.iload 6, 2) := by decide +kernel
theorem dX1_shareOf_55 : decode cX1_shareOf 55 = .ok (.iaload, 1) := by decide +kernel
theorem dX1_shareOf_56 : decode cX1_shareOf 56 = .ok (.imul, 1) := by decide +kernel
theorem dX1_shareOf_57 : decode cX1_shareOf 57 = .ok (.iload_n 3, 1) := by decide +kernel
theorem dX1_shareOf_58 : decode cX1_shareOf 58 = .ok (.idiv, 1) := by decide +kernel
theorem dX1_shareOf_59 : decode cX1_shareOf 59 = .ok (.isub, 1) := by decide +kernel
theorem dX1_shareOf_60 : decode cX1_shareOf 60 = .ok (.istore 4, 2) := by decide +kernel
theorem dX1_shareOf_62 : decode cX1_shareOf 62 = .ok (.iload 6, 2) := by decide +kernel
theorem dX1_shareOf_64 : decode cX1_shareOf 64 = .ok (.iload_n 1, 1) := by decide +kernel
theorem dX1_shareOf_65 : decode cX1_shareOf 65 = .ok (.if_icmp .ge 16, 3) := by decide +kernel
theorem dX1_shareOf_68 : decode cX1_shareOf 68 = .ok (.aload_n 0, 1) := by decide +kernel
theorem dX1_shareOf_69 : decode cX1_shareOf 69 = .ok (.getfield 20, 3) := by decide +kernel
theorem dX1_shareOf_72 : decode cX1_shareOf 72 = .ok (.iload 6, 2) := by decide +kernel
theorem dX1_shareOf_74 : decode cX1_shareOf 74 = .ok (.iaload, 1) := by decide +kernel
theorem dX1_shareOf_75 : decode cX1_shareOf 75 = .ok (.ifCond .le 6, 3) := by decide +kernel
theorem dX1_shareOf_78 : decode cX1_shareOf 78 = .ok (.iinc 5 1, 3) := by decide +kernel
theorem dX1_shareOf_81 : decode cX1_shareOf 81 = .ok (.iinc 6 1, 3) := by decide +kernel
theorem dX1_shareOf_84 : decode cX1_shareOf 84 = .ok (.goto (-45), 3) := by decide +kernel
theorem dX1_shareOf_87 : decode cX1_shareOf 87 = .ok (.iload_n 2, 1) := by decide +kernel
theorem dX1_shareOf_88 : decode cX1_shareOf 88 = .ok (.aload_n 0, 1) := by decide +kernel
theorem dX1_shareOf_89 : decode cX1_shareOf 89 = .ok (.getfield 20, 3) := by decide +kernel
theorem dX1_shareOf_92 : decode cX1_shareOf 92 = .ok (.iload_n 1, 1) := by decide +kernel
theorem dX1_shareOf_93 : decode cX1_shareOf 93 = .ok (.iaload, 1) := by decide +kernel
theorem dX1_shareOf_94 : decode cX1_shareOf 94 = .ok (.imul, 1) := by decide +kernel
theorem dX1_shareOf_95 : decode cX1_shareOf 95 = .ok (.iload_n 3, 1) := by decide +kernel
theorem dX1_shareOf_96 : decode cX1_shareOf 96 = .ok (.idiv, 1) := by decide +kernel
theorem dX1_shareOf_97 : decode cX1_shareOf 97 = .ok (.iload 5, 2) := by decide +kernel
theorem dX1_shareOf_99 : decode cX1_shareOf 99 = .ok (.iload 4, 2) := by decide +kernel
theorem dX1_shareOf_101 : decode cX1_shareOf 101 = .ok (.if_icmp .ge 7, 3) := by decide +kernel
theorem dX1_shareOf_104 : decode cX1_shareOf 104 = .ok (.iconst 1, 1) := by decide +kernel
theorem dX1_shareOf_105 : decode cX1_shareOf 105 = .ok (.goto 4, 3) := by decide +kernel
theorem dX1_shareOf_108 : decode cX1_shareOf 108 = .ok (.iconst 0, 1) := by decide +kernel
theorem dX1_shareOf_109 : decode cX1_shareOf 109 = .ok (.iadd, 1) := by decide +kernel
theorem dX1_shareOf_110 : decode cX1_shareOf 110 = .ok (.ireturn, 1) := by decide +kernel
theorem dX1_addTab_0 : decode cX1_addTab 0 = .ok (.iconst 0, 1) := by decide +kernel
theorem dX1_addTab_1 : decode cX1_addTab 1 = .ok (.aload_n 0, 1) := by decide +kernel
theorem dX1_addTab_2 : decode cX1_addTab 2 = .ok (.getfield 24, 3) := by decide +kernel
theorem dX1_addTab_5 : decode cX1_addTab 5 = .ok (.iconst 4, 1) := by decide +kernel
theorem dX1_addTab_6 : decode cX1_addTab 6 = .ok (.invokestatic 95, 3) := by decide +kernel
theorem dX1_addTab_9 : decode cX1_addTab 9 = .ok (.invokestatic 103, 3) := by decide +kernel
theorem dX1_addTab_12 : decode cX1_addTab 12 = .ok (.istore_n 2, 1) := by decide +kernel
theorem dX1_addTab_13 : decode cX1_addTab 13 = .ok (.iconst 0, 1) := by decide +kernel
theorem dX1_addTab_14 : decode cX1_addTab 14 = .ok (.iload_n 1, 1) := by decide +kernel
theorem dX1_addTab_15 : decode cX1_addTab 15 = .ok (.iload_n 2, 1) := by decide +kernel
theorem dX1_addTab_16 : decode cX1_addTab 16 = .ok (.invokestatic 95, 3) := by decide +kernel
theorem dX1_addTab_19 : decode cX1_addTab 19 = .ok (.invokestatic 103, 3) := by decide +kernel
theorem dX1_addTab_22 : decode cX1_addTab 22 = .ok (.istore_n 3, 1) := by decide +kernel
theorem dX1_addTab_23 : decode cX1_addTab 23 = .ok (.aload_n 0, 1) := by decide +kernel
theorem dX1_addTab_24 : decode cX1_addTab 24 = .ok (.getfield 11, 3) := by decide +kernel
theorem dX1_addTab_27 : decode cX1_addTab 27 = .ok (.iload_n 2, 1) := by decide +kernel
theorem dX1_addTab_28 : decode cX1_addTab 28 = .ok (.aaload, 1) := by decide +kernel
theorem dX1_addTab_29 : decode cX1_addTab 29 = .ok (.astore 4, 2) := by decide +kernel
theorem dX1_addTab_31 : decode cX1_addTab 31 = .ok (.iload_n 2, 1) := by decide +kernel
theorem dX1_addTab_32 : decode cX1_addTab 32 = .ok (.istore 5, 2) := by decide +kernel
theorem dX1_addTab_34 : decode cX1_addTab 34 = .ok (.iload 5, 2) := by decide +kernel
theorem dX1_addTab_36 : decode cX1_addTab 36 = .ok (.iload_n 3, 1) := by decide +kernel
theorem dX1_addTab_37 : decode cX1_addTab 37 = .ok (.if_icmp .le 25, 3) := by decide +kernel
theorem dX1_addTab_40 : decode cX1_addTab 40 = .ok (.aload_n 0, 1) := by decide +kernel
theorem dX1_addTab_41 : decode cX1_addTab 41 = .ok (.getfield 11, 3) := by decide +kernel
theorem dX1_addTab_44 : decode cX1_addTab 44 = .ok (.iload 5, 2) := by decide +kernel
theorem dX1_addTab_46 : decode cX1_addTab 46 = .ok (.aload_n 0, 1) := by decide +kernel
theorem dX1_addTab_47 : decode cX1_addTab 47 = .ok (.getfield 11, 3) := by decide +kernel
theorem dX1_addTab_50 : decode cX1_addTab 50 = .ok (.iload 5, 2) := by decide +kernel
theorem dX1_addTab_52 : decode cX1_addTab 52 = .ok (.iconst 1, 1) := by decide +kernel
theorem dX1_addTab_53 : decode cX1_addTab 53 = .ok (.isub, 1) := by decide +kernel
theorem dX1_addTab_54 : decode cX1_addTab 54 = .ok (.aaload, 1) := by decide +kernel
theorem dX1_addTab_55 : decode cX1_addTab 55 = .ok (.aastore, 1) := by decide +kernel
theorem dX1_addTab_56 : decode cX1_addTab 56 = .ok (.iinc 5 (-1), 3) := by decide +kernel
theorem dX1_addTab_59 : decode cX1_addTab 59 = .ok (.goto (-25), 3) := by decide +kernel
theorem dX1_addTab_62 : decode cX1_addTab 62 = .ok (.aload_n 0, 1) := by decide +kernel
theorem dX1_addTab_63 : decode cX1_addTab 63 = .ok (.getfield 11, 3) := by decide +kernel
theorem dX1_addTab_66 : decode cX1_addTab 66 = .ok (.iload_n 3, 1) := by decide +kernel
theorem dX1_addTab_67 : decode cX1_addTab 67 = .ok (.aload 4, 2) := by decide +kernel
theorem dX1_addTab_69 : decode cX1_addTab 69 = .ok (.aastore, 1) := by decide +kernel
theorem dX1_addTab_70 : decode cX1_addTab 70 = .ok (.aload_n 0, 1) := by decide +kernel
theorem dX1_addTab_71 : decode cX1_addTab 71 = .ok (.iload_n 2, 1) := by decide +kernel
theorem dX1_addTab_72 : decode cX1_addTab 72 = .ok (.iconst 1, 1) := by decide +kernel
theorem dX1_addTab_73 : decode cX1_addTab 73 = .ok (.iadd, 1) := by decide +kernel
theorem dX1_addTab_74 : decode cX1_addTab 74 = .ok (.putfield 24, 3) := by decide +kernel
theorem dX1_addTab_77 : decode cX1_addTab 77 = .ok (.aload_n 0, 1) := by decide +kernel
theorem dX1_addTab_78 : decode cX1_addTab 78 = .ok (.iload_n 3, 1) := by decide +kernel
theorem dX1_addTab_79 : decode cX1_addTab 79 = .ok (.putfield 28, 3) := by decide +kernel
theorem dX1_addTab_82 : decode cX1_addTab 82 = .ok (.aload 4, 2) := by decide +kernel
theorem dX1_addTab_84 : decode cX1_addTab 84 = .ok (.areturn, 1) := by decide +kernel
theorem dX1_keepClosed_0 : decode cX1_keepClosed 0 = .ok (.aload_n 0, 1) := by decide +kernel
theorem dX1_keepClosed_1 : decode cX1_keepClosed 1 = .ok (.getfield 31, 3) := by decide +kernel
theorem dX1_keepClosed_4 : decode cX1_keepClosed 4 = .ok (.iconst 3, 1) := by decide +kernel
theorem dX1_keepClosed_5 : decode cX1_keepClosed 5 = .ok (.if_icmp .lt 49, 3) := by decide +kernel
theorem dX1_keepClosed_8 : decode cX1_keepClosed 8 = .ok (.aload_n 0, 1) := by decide +kernel
theorem dX1_keepClosed_9 : decode cX1_keepClosed 9 = .ok (.getfield 17, 3) := by decide +kernel
theorem dX1_keepClosed_12 : decode cX1_keepClosed 12 = .ok (.iconst 0, 1) := by decide +kernel
theorem dX1_keepClosed_13 : decode cX1_keepClosed 13 = .ok (.aaload, 1) := by decide +kernel
theorem dX1_keepClosed_14 : decode cX1_keepClosed 14 = .ok (.astore_n 2, 1) := by decide +kernel
theorem dX1_keepClosed_15 : decode cX1_keepClosed 15 = .ok (.iconst 1, 1) := by decide +kernel
theorem dX1_keepClosed_16 : decode cX1_keepClosed 16 = .ok (.istore_n 3, 1) := by decide +kernel
theorem dX1_keepClosed_17 : decode cX1_keepClosed 17 = .ok (.iload_n 3, 1) := by decide +kernel
theorem dX1_keepClosed_18 : decode cX1_keepClosed 18 = .ok (.iconst 3, 1) := by decide +kernel
theorem dX1_keepClosed_19 : decode cX1_keepClosed 19 = .ok (.if_icmp .ge 23, 3) := by decide +kernel
theorem dX1_keepClosed_22 : decode cX1_keepClosed 22 = .ok (.aload_n 0, 1) := by decide +kernel
theorem dX1_keepClosed_23 : decode cX1_keepClosed 23 = .ok (.getfield 17, 3) := by decide +kernel
theorem dX1_keepClosed_26 : decode cX1_keepClosed 26 = .ok (.iload_n 3, 1) := by decide +kernel
theorem dX1_keepClosed_27 : decode cX1_keepClosed 27 = .ok (.iconst 1, 1) := by decide +kernel
theorem dX1_keepClosed_28 : decode cX1_keepClosed 28 = .ok (.isub, 1) := by decide +kernel
theorem dX1_keepClosed_29 : decode cX1_keepClosed 29 = .ok (.aload_n 0, 1) := by decide +kernel
theorem dX1_keepClosed_30 : decode cX1_keepClosed 30 = .ok (.getfield 17, 3) := by decide +kernel
theorem dX1_keepClosed_33 : decode cX1_keepClosed 33 = .ok (.iload_n 3, 1) := by decide +kernel
theorem dX1_keepClosed_34 : decode cX1_keepClosed 34 = .ok (.aaload, 1) := by decide +kernel
theorem dX1_keepClosed_35 : decode cX1_keepClosed 35 = .ok (.aastore, 1) := by decide +kernel
theorem dX1_keepClosed_36 : decode cX1_keepClosed 36 = .ok (.iinc 3 1, 3) := by decide +kernel
theorem dX1_keepClosed_39 : decode cX1_keepClosed 39 = .ok (.goto (-22), 3) := by decide +kernel
theorem dX1_keepClosed_42 : decode cX1_keepClosed 42 = .ok (.aload_n 0, 1) := by decide +kernel
theorem dX1_keepClosed_43 : decode cX1_keepClosed 43 = .ok (.getfield 17, 3) := by decide +kernel
theorem dX1_keepClosed_46 : decode cX1_keepClosed 46 = .ok (.iconst 2, 1) := by decide +kernel
theorem dX1_keepClosed_47 : decode cX1_keepClosed 47 = .ok (.aload_n 2, 1) := by decide +kernel
theorem dX1_keepClosed_48 : decode cX1_keepClosed 48 = .ok (.aastore, 1) := by decide +kernel
theorem dX1_keepClosed_49 : decode cX1_keepClosed 49 = .ok (.aload_n 0, 1) := by decide +kernel
theorem dX1_keepClosed_50 : decode cX1_keepClosed 50 = .ok (.iconst 2, 1) := by decide +kernel
theorem dX1_keepClosed_51 : decode cX1_keepClosed 51 = .ok (.putfield 31, 3) := by decide +kernel
theorem dX1_keepClosed_54 : decode cX1_keepClosed 54 = .ok (.aload_n 0, 1) := by decide +kernel
theorem dX1_keepClosed_55 : decode cX1_keepClosed 55 = .ok (.getfield 17, 3) := by decide +kernel
theorem dX1_keepClosed_58 : decode cX1_keepClosed 58 = .ok (.aload_n 0, 1) := by decide +kernel
theorem dX1_keepClosed_59 : decode cX1_keepClosed 59 = .ok (.getfield 31, 3) := by decide +kernel
theorem dX1_keepClosed_62 : decode cX1_keepClosed 62 = .ok (.aaload, 1) := by decide +kernel
theorem dX1_keepClosed_63 : decode cX1_keepClosed 63 = .ok (.aload_n 1, 1) := by decide +kernel
theorem dX1_keepClosed_64 : decode cX1_keepClosed 64 = .ok (.invokevirtual 35, 3) := by decide +kernel
theorem dX1_keepClosed_67 : decode cX1_keepClosed 67 = .ok (.aload_n 0, 1) := by decide +kernel
theorem dX1_keepClosed_68 : decode cX1_keepClosed 68 = .ok (.dup, 1) := by decide +kernel
theorem dX1_keepClosed_69 : decode cX1_keepClosed 69 = .ok (.getfield 31, 3) := by decide +kernel
theorem dX1_keepClosed_72 : decode cX1_keepClosed 72 = .ok (.iconst 1, 1) := by decide +kernel
theorem dX1_keepClosed_73 : decode cX1_keepClosed 73 = .ok (.iadd, 1) := by decide +kernel
theorem dX1_keepClosed_74 : decode cX1_keepClosed 74 = .ok (.putfield 31, 3) := by decide +kernel
theorem dX1_keepClosed_77 : decode cX1_keepClosed 77 = .ok (.return_, 1) := by decide +kernel
theorem dX1_visit_0 : decode cX1_visit 0 = .ok (.iload_n 1, 1) := by decide +kernel
theorem dX1_visit_1 : decode cX1_visit 1 = .ok (.ifCond .lt 31, 3) := by decide +kernel
theorem dX1_visit_4 : decode cX1_visit 4 = .ok (.iload_n 1, 1) := by decide +kernel
theorem dX1_visit_5 : decode cX1_visit 5 = .ok (.bipush 8, 2) := by decide +kernel
theorem dX1_visit_7 : decode cX1_visit 7 = .ok (.if_icmp .ge 25, 3) := by decide +kernel
theorem dX1_visit_10 : decode cX1_visit 10 = .ok (.aload_n 0, 1) := by decide +kernel
theorem dX1_visit_11 : decode cX1_visit 11 = .ok (.getfield 20, 3) := by decide +kernel
theorem dX1_visit_14 : decode cX1_visit 14 = .ok (.iload_n 1, 1) := by decide +kernel
theorem dX1_visit_15 : decode cX1_visit 15 = .ok (.iaload, 1) := by decide +kernel
theorem dX1_visit_16 : decode cX1_visit 16 = .ok (.sipush 999, 3) := by decide +kernel
theorem dX1_visit_19 : decode cX1_visit 19 = .ok (.if_icmp .ge 13, 3) := by decide +kernel
theorem dX1_visit_22 : decode cX1_visit 22 = .ok (.aload_n 0, 1) := by decide +kernel
theorem dX1_visit_23 : decode cX1_visit 23 = .ok (.getfield 20, 3) := by decide +kernel
theorem dX1_visit_26 : decode cX1_visit 26 = .ok (.iload_n 1, 1) := by decide +kernel
theorem dX1_visit_27 : decode cX1_visit 27 = .ok (.dup2, 1) := by decide +kernel
theorem dX1_visit_28 : decode cX1_visit 28 = .ok (.iaload, 1) := by decide +kernel
theorem dX1_visit_29 : decode cX1_visit 29 = .ok (.iconst 1, 1) := by decide +kernel
theorem dX1_visit_30 : decode cX1_visit 30 = .ok (.iadd, 1) := by decide +kernel
theorem dX1_visit_31 : decode cX1_visit 31 = .ok (.iastore, 1) := by decide +kernel
theorem dX1_visit_32 : decode cX1_visit 32 = .ok (.return_, 1) := by decide +kernel
theorem dX2_init_0 : decode cX2_init 0 = .ok (.aload_n 0, 1) := by decide +kernel
theorem dX2_init_1 : decode cX2_init 1 = .ok (.invokespecial 3, 3) := by decide +kernel
theorem dX2_init_4 : decode cX2_init 4 = .ok (.aload_n 0, 1) := by decide +kernel
theorem dX2_init_5 : decode cX2_init 5 = .ok (.iconst 4, 1) := by decide +kernel
theorem dX2_init_6 : decode cX2_init 6 = .ok (.newarray .int, 2) := by decide +kernel
theorem dX2_init_8 : decode cX2_init 8 = .ok (.putfield 9, 3) := by decide +kernel
theorem dX2_init_11 : decode cX2_init 11 = .ok (.aload_n 0, 1) := by decide +kernel
theorem dX2_init_12 : decode cX2_init 12 = .ok (.bipush 8, 2) := by decide +kernel
theorem dX2_init_14 : decode cX2_init 14 = .ok (.newarray .int, 2) := by decide +kernel
theorem dX2_init_16 : decode cX2_init 16 = .ok (.putfield 15, 3) := by decide +kernel
theorem dX2_init_19 : decode cX2_init 19 = .ok (.aload_n 0, 1) := by decide +kernel
theorem dX2_init_20 : decode cX2_init 20 = .ok (.new 18, 3) := by decide +kernel
theorem dX2_init_23 : decode cX2_init 23 = .ok (.dup, 1) := by decide +kernel
theorem dX2_init_24 : decode cX2_init 24 = .ok (.invokespecial 20, 3) := by decide +kernel
theorem dX2_init_27 : decode cX2_init 27 = .ok (.putfield 21, 3) := by decide +kernel
theorem dX2_init_30 : decode cX2_init 30 = .ok (.aload_n 0, 1) := by decide +kernel
theorem dX2_init_31 : decode cX2_init 31 = .ok (.bipush 8, 2) := by decide +kernel
theorem dX2_init_33 : decode cX2_init 33 = .ok (.newarray .int, 2) := by decide +kernel
theorem dX2_init_35 : decode cX2_init 35 = .ok (.putfield 25, 3) := by decide +kernel
theorem dX2_init_38 : decode cX2_init 38 = .ok (.aload_n 0, 1) := by decide +kernel
theorem dX2_init_39 : decode cX2_init 39 = .ok (.iconst 5, 1) := by decide +kernel
theorem dX2_init_40 : decode cX2_init 40 = .ok (.anewarray 28, 3) := by decide +kernel
theorem dX2_init_43 : decode cX2_init 43 = .ok (.putfield 30, 3) := by decide +kernel
theorem dX2_init_46 : decode cX2_init 46 = .ok (.aload_n 0, 1) := by decide +kernel
theorem dX2_init_47 : decode cX2_init 47 = .ok (.new 28, 3) := by decide +kernel
theorem dX2_init_50 : decode cX2_init 50 = .ok (.dup, 1) := by decide +kernel
theorem dX2_init_51 : decode cX2_init 51 = .ok (.invokespecial 34, 3) := by decide +kernel
theorem dX2_init_54 : decode cX2_init 54 = .ok (.putfield 35, 3) := by decide +kernel
theorem dX2_init_57 : decode cX2_init 57 = .ok (.aload_n 0, 1) := by decide +kernel
theorem dX2_init_58 : decode cX2_init 58 = .ok (.new 39, 3) := by decide +kernel
theorem dX2_init_61 : decode cX2_init 61 = .ok (.dup, 1) := by decide +kernel
theorem dX2_init_62 : decode cX2_init 62 = .ok (.invokespecial 41, 3) := by decide +kernel
theorem dX2_init_65 : decode cX2_init 65 = .ok (.putfield 42, 3) := by decide +kernel
theorem dX2_init_68 : decode cX2_init 68 = .ok (.aload_n 0, 1) := by decide +kernel
theorem dX2_init_69 : decode cX2_init 69 = .ok (.bipush 12, 2) := by decide +kernel
theorem dX2_init_71 : decode cX2_init 71 = .ok (.newarray .int, 2) := by decide +kernel
theorem dX2_init_73 : decode cX2_init 73 = .ok (.putfield 46, 3) := by decide +kernel
theorem dX2_init_76 : decode cX2_init 76 = .ok (.aload_n 0, 1) := by decide +kernel
theorem dX2_init_77 : decode cX2_init 77 = .ok (.iconst 0, 1) := by decide +kernel
theorem dX2_init_78 : decode cX2_init 78 = .ok (.putfield 49, 3) := by decide +kernel
theorem dX2_init_81 : decode cX2_init 81 = .ok (.iconst 0, 1) := by decide +kernel
theorem dX2_init_82 : decode cX2_init 82 = .ok (.istore_n 1, 1) := by decide +kernel
theorem dX2_init_83 : decode cX2_init 83 = .ok (.iload_n 1, 1) := by decide +kernel
theorem dX2_init_84 : decode cX2_init 84 = .ok (.aload_n 0, 1) := by decide +kernel
theorem dX2_init_85 : decode cX2_init 85 = .ok (.getfield 30, 3) := by decide +kernel
theorem dX2_init_88 : decode cX2_init 88 = .ok (.arraylength, 1) := by decide +kernel
theorem dX2_init_89 : decode cX2_init 89 = .ok (.if_icmp .ge 22, 3) := by decide +kernel
theorem dX2_init_92 : decode cX2_init 92 = .ok (.aload_n 0, 1) := by decide +kernel
theorem dX2_init_93 : decode cX2_init 93 = .ok (.getfield 30, 3) := by decide +kernel
theorem dX2_init_96 : decode cX2_init 96 = .ok (.iload_n 1, 1) := by decide +kernel
theorem dX2_init_97 : decode cX2_init 97 = .ok (.new 28, 3) := by decide +kernel
theorem dX2_init_100 : decode cX2_init 100 = .ok (.dup, 1) := by decide +kernel
theorem dX2_init_101 : decode cX2_init 101 = .ok (.invokespecial 34, 3) := by decide +kernel
theorem dX2_init_104 : decode cX2_init 104 = .ok (.aastore, 1) := by decide +kernel
theorem dX2_init_105 : decode cX2_init 105 = .ok (.iinc 1 1, 3) := by decide +kernel
theorem dX2_init_108 : decode cX2_init 108 = .ok (.goto (-25), 3) := by decide +kernel
theorem dX2_init_111 : decode cX2_init 111 = .ok (.return_, 1) := by decide +kernel
theorem dX2_fewestPresses_0 : decode cX2_fewestPresses 0 = .ok (.aload_n 2, 1) := by decide +kernel
theorem dX2_fewestPresses_1 : decode cX2_fewestPresses 1 = .ok (.aload_n 2, 1) := by decide +kernel
theorem dX2_fewestPresses_2 : decode cX2_fewestPresses 2 = .ok (.getfield 53, 3) := by decide +kernel
theorem dX2_fewestPresses_5 : decode cX2_fewestPresses 5 = .ok (.invokevirtual 56, 3) := by decide +kernel
theorem dX2_fewestPresses_8 : decode cX2_fewestPresses 8 = .ok (.ifCond .ne 6, 3) := by decide +kernel
theorem dX2_fewestPresses_11 : decode cX2_fewestPresses 11 = .ok (.ldc 60, 2) := by decide +kernel
theorem dX2_fewestPresses_13 : decode cX2_fewestPresses 13 = .ok (.ireturn, 1) := by decide +kernel
theorem dX2_fewestPresses_14 : decode cX2_fewestPresses 14 = .ok (.aload_n 0, 1) := by decide +kernel
theorem dX2_fewestPresses_15 : decode cX2_fewestPresses 15 = .ok (.getfield 30, 3) := by decide +kernel
theorem dX2_fewestPresses_18 : decode cX2_fewestPresses 18 = .ok (.iconst 0, 1) := by decide +kernel
theorem dX2_fewestPresses_19 : decode cX2_fewestPresses 19 = .ok (.aaload, 1) := by decide +kernel
theorem dX2_fewestPresses_20 : decode cX2_fewestPresses 20 = .ok (.aload_n 2, 1) := by decide +kernel
theorem dX2_fewestPresses_21 : decode cX2_fewestPresses 21 = .ok (.getfield 61, 3) := by decide +kernel
theorem dX2_fewestPresses_24 : decode cX2_fewestPresses 24 = .ok (.aload_n 2, 1) := by decide +kernel
theorem dX2_fewestPresses_25 : decode cX2_fewestPresses 25 = .ok (.getfield 53, 3) := by decide +kernel
theorem dX2_fewestPresses_28 : decode cX2_fewestPresses 28 = .ok (.aaload, 1) := by decide +kernel
theorem dX2_fewestPresses_29 : decode cX2_fewestPresses 29 = .ok (.invokevirtual 64, 3) := by decide +kernel
theorem dX2_fewestPresses_32 : decode cX2_fewestPresses 32 = .ok (.iconst 0, 1) := by decide +kernel
theorem dX2_fewestPresses_33 : decode cX2_fewestPresses 33 = .ok (.istore 4, 2) := by decide +kernel
theorem dX2_fewestPresses_35 : decode cX2_fewestPresses 35 = .ok (.iload 4, 2) := by decide +kernel
theorem dX2_fewestPresses_37 : decode cX2_fewestPresses 37 = .ok (.iconst 4, 1) := by decide +kernel
theorem dX2_fewestPresses_38 : decode cX2_fewestPresses 38 = .ok (.if_icmp .gt 28, 3) := by decide +kernel
theorem dX2_fewestPresses_41 : decode cX2_fewestPresses 41 = .ok (.aload_n 0, 1) := by decide +kernel
theorem dX2_fewestPresses_42 : decode cX2_fewestPresses 42 = .ok (.aload_n 1, 1) := by decide +kernel
theorem dX2_fewestPresses_43 : decode cX2_fewestPresses 43 = .ok (.iload_n 3, 1) := by decide +kernel
theorem dX2_fewestPresses_44 : decode cX2_fewestPresses 44 = .ok (.aload_n 2, 1) := by decide +kernel
theorem dX2_fewestPresses_45 : decode cX2_fewestPresses 45 = .ok (.invokevirtual 68, 3) := by decide +kernel
theorem dX2_fewestPresses_48 : decode cX2_fewestPresses 48 = .ok (.iconst 0, 1) := by decide +kernel
theorem dX2_fewestPresses_49 : decode cX2_fewestPresses 49 = .ok (.iload 4, 2) := by decide +kernel
theorem dX2_fewestPresses_51 : decode cX2_fewestPresses 51 = .ok (.invokevirtual 72, 3) := by decide +kernel
theorem dX2_fewestPresses_54 : decode cX2_fewestPresses 54 = .ok (.ifCond .eq 6, 3) := by decide +kernel
theorem dX2_fewestPresses_57 : decode cX2_fewestPresses 57 = .ok (.iload 4, 2) := by decide +kernel
theorem dX2_fewestPresses_59 : decode cX2_fewestPresses 59 = .ok (.ireturn, 1) := by decide +kernel
theorem dX2_fewestPresses_60 : decode cX2_fewestPresses 60 = .ok (.iinc 4 1, 3) := by decide +kernel
theorem dX2_fewestPresses_63 : decode cX2_fewestPresses 63 = .ok (.goto (-28), 3) := by decide +kernel
theorem dX2_fewestPresses_66 : decode cX2_fewestPresses 66 = .ok (.ldc 60, 2) := by decide +kernel
theorem dX2_fewestPresses_68 : decode cX2_fewestPresses 68 = .ok (.ireturn, 1) := by decide +kernel
theorem dX2_pressedTo_0 : decode cX2_pressedTo 0 = .ok (.iload 4, 2) := by decide +kernel
theorem dX2_pressedTo_2 : decode cX2_pressedTo 2 = .ok (.ifCond .lt 16, 3) := by decide +kernel
theorem dX2_pressedTo_5 : decode cX2_pressedTo 5 = .ok (.iload 4, 2) := by decide +kernel
theorem dX2_pressedTo_7 : decode cX2_pressedTo 7 = .ok (.iload 5, 2) := by decide +kernel
theorem dX2_pressedTo_9 : decode cX2_pressedTo 9 = .ok (.if_icmp .ge 9, 3) := by decide +kernel
theorem dX2_pressedTo_12 : decode cX2_pressedTo 12 = .ok (.iload 4, 2) := by decide +kernel
theorem dX2_pressedTo_14 : decode cX2_pressedTo 14 = .ok (.iconst 4, 1) := by decide +kernel
theorem dX2_pressedTo_15 : decode cX2_pressedTo 15 = .ok (.if_icmp .lt 34, 3) := by decide +kernel
theorem dX2_pressedTo_18 : decode cX2_pressedTo 18 = .ok (.iload 4, 2) := by decide +kernel
theorem dX2_pressedTo_20 : decode cX2_pressedTo 20 = .ok (.ifCond .lt 27, 3) := by decide +kernel
theorem dX2_pressedTo_23 : decode cX2_pressedTo 23 = .ok (.iload 4, 2) := by decide +kernel
theorem dX2_pressedTo_25 : decode cX2_pressedTo 25 = .ok (.iconst 4, 1) := by decide +kernel
theorem dX2_pressedTo_26 : decode cX2_pressedTo 26 = .ok (.if_icmp .gt 21, 3) := by decide +kernel
theorem dX2_pressedTo_29 : decode cX2_pressedTo 29 = .ok (.aload_n 0, 1) := by decide +kernel
theorem dX2_pressedTo_30 : decode cX2_pressedTo 30 = .ok (.getfield 30, 3) := by decide +kernel
theorem dX2_pressedTo_33 : decode cX2_pressedTo 33 = .ok (.iload 4, 2) := by decide +kernel
theorem dX2_pressedTo_35 : decode cX2_pressedTo 35 = .ok (.aaload, 1) := by decide +kernel
theorem dX2_pressedTo_36 : decode cX2_pressedTo 36 = .ok (.invokevirtual 76, 3) := by decide +kernel
theorem dX2_pressedTo_39 : decode cX2_pressedTo 39 = .ok (.iload_n 2, 1) := by decide +kernel
theorem dX2_pressedTo_40 : decode cX2_pressedTo 40 = .ok (.if_icmp .ne 7, 3) := by decide +kernel
theorem dX2_pressedTo_43 : decode cX2_pressedTo 43 = .ok (.iconst 1, 1) := by decide +kernel
theorem dX2_pressedTo_44 : decode cX2_pressedTo 44 = .ok (.goto 4, 3) := by decide +kernel
theorem dX2_pressedTo_47 : decode cX2_pressedTo 47 = .ok (.iconst 0, 1) := by decide +kernel
theorem dX2_pressedTo_48 : decode cX2_pressedTo 48 = .ok (.ireturn, 1) := by decide +kernel
theorem dX2_pressedTo_49 : decode cX2_pressedTo 49 = .ok (.iconst 0, 1) := by decide +kernel
theorem dX2_pressedTo_50 : decode cX2_pressedTo 50 = .ok (.istore 6, 2) := by decide +kernel
theorem dX2_pressedTo_52 : decode cX2_pressedTo 52 = .ok (.iload 6, 2) := by decide +kernel
theorem dX2_pressedTo_54 : decode cX2_pressedTo 54 = .ok (.iconst 5, 1) := by decide +kernel
theorem dX2_pressedTo_55 : decode cX2_pressedTo 55 = .ok (.if_icmp .ge 74, 3) := by decide +kernel
theorem dX2_pressedTo_58 : decode cX2_pressedTo 58 = .ok (.aload_n 0, 1) := by decide +kernel
theorem dX2_pressedTo_59 : decode cX2_pressedTo 59 = .ok (.getfield 30, 3) := by decide +kernel
theorem dX2_pressedTo_62 : decode cX2_pressedTo 62 = .ok (.iload 4, 2) := by decide +kernel
theorem dX2_pressedTo_64 : decode cX2_pressedTo 64 = .ok (.iconst 1, 1) := by decide +kernel
theorem dX2_pressedTo_65 : decode cX2_pressedTo 65 = .ok (.iadd, 1) := by decide +kernel
theorem dX2_pressedTo_66 : decode cX2_pressedTo 66 = .ok (.aaload, 1) := by decide +kernel
theorem dX2_pressedTo_67 : decode cX2_pressedTo 67 = .ok (.aload_n 0, 1) := by decide +kernel
theorem dX2_pressedTo_68 : decode cX2_pressedTo 68 = .ok (.getfield 30, 3) := by decide +kernel
theorem dX2_pressedTo_71 : decode cX2_pressedTo 71 = .ok (.iload 4, 2) := by decide +kernel
theorem dX2_pressedTo_73 : decode cX2_pressedTo 73 = .ok (.aaload, 1) := by decide +kernel
theorem dX2_pressedTo_74 : decode cX2_pressedTo 74 = .ok (.invokevirtual 64, 3) := by decide +kernel
theorem dX2_pressedTo_77 : decode cX2_pressedTo 77 = .ok (.aload_n 0, 1) := by decide +kernel
theorem dX2_pressedTo_78 : decode cX2_pressedTo 78 = .ok (.getfield 9, 3) := by decide +kernel
theorem dX2_pressedTo_81 : decode cX2_pressedTo 81 = .ok (.iload 4, 2) := by decide +kernel
theorem dX2_pressedTo_83 : decode cX2_pressedTo 83 = .ok (.iload 6, 2) := by decide +kernel
theorem dX2_pressedTo_85 : decode cX2_pressedTo 85 = .ok (.iastore, 1) := by decide +kernel
theorem dX2_pressedTo_86 : decode cX2_pressedTo 86 = .ok (.aload_n 0, 1) := by decide +kernel
theorem dX2_pressedTo_87 : decode cX2_pressedTo 87 = .ok (.getfield 30, 3) := by decide +kernel
theorem dX2_pressedTo_90 : decode cX2_pressedTo 90 = .ok (.iload 4, 2) := by decide +kernel
theorem dX2_pressedTo_92 : decode cX2_pressedTo 92 = .ok (.iconst 1, 1) := by decide +kernel
theorem dX2_pressedTo_93 : decode cX2_pressedTo 93 = .ok (.iadd, 1) := by decide +kernel
theorem dX2_pressedTo_94 : decode cX2_pressedTo 94 = .ok (.aaload, 1) := by decide +kernel
theorem dX2_pressedTo_95 : decode cX2_pressedTo 95 = .ok (.aload_n 1, 1) := by decide +kernel
theorem dX2_pressedTo_96 : decode cX2_pressedTo 96 = .ok (.iload 6, 2) := by decide +kernel
theorem dX2_pressedTo_98 : decode cX2_pressedTo 98 = .ok (.iload_n 3, 1) := by decide +kernel
theorem dX2_pressedTo_99 : decode cX2_pressedTo 99 = .ok (.invokevirtual 80, 3) := by decide +kernel
theorem dX2_pressedTo_102 : decode cX2_pressedTo 102 = .ok (.ifCond .eq 21, 3) := by decide +kernel
theorem dX2_pressedTo_105 : decode cX2_pressedTo 105 = .ok (.aload_n 0, 1) := by decide +kernel
theorem dX2_pressedTo_106 : decode cX2_pressedTo 106 = .ok (.aload_n 1, 1) := by decide +kernel
theorem dX2_pressedTo_107 : decode cX2_pressedTo 107 = .ok (.iload_n 2, 1) := by decide +kernel
theorem dX2_pressedTo_108 : decode cX2_pressedTo 108 = .ok (.iload_n 3, 1) := by decide +kernel
theorem dX2_pressedTo_109 : decode cX2_pressedTo 109 = .ok (.iload 4, 2) := by decide +kernel
theorem dX2_pressedTo_111 : decode cX2_pressedTo 111 = .ok (.iconst 1, 1) := by decide +kernel
theorem dX2_pressedTo_112 : decode cX2_pressedTo 112 = .ok (.iadd, 1) := by decide +kernel
theorem dX2_pressedTo_113 : decode cX2_pressedTo 113 = .ok (.iload 5, 2) := by decide +kernel
theorem dX2_pressedTo_115 : decode cX2_pressedTo 115 = .ok (.invokevirtual 72, 3) := by decide +kernel
theorem dX2_pressedTo_118 : decode cX2_pressedTo 118 = .ok (.ifCond .eq 5, 3) := by decide +kernel
theorem dX2_pressedTo_121 : decode cX2_pressedTo 121 = .ok (.iconst 1, 1) := by decide +kernel
theorem dX2_pressedTo_122 : decode cX2_pressedTo 122 = .ok (.ireturn, 1) := by decide +kernel
theorem dX2_pressedTo_123 : decode cX2_pressedTo 123 = .ok (.iinc 6 1, 3) := by decide +kernel
theorem dX2_pressedTo_126 : decode cX2_pressedTo 126 = .ok (.goto (-74), 3) := by decide +kernel
theorem dX2_pressedTo_129 : decode cX2_pressedTo 129 = .ok (.iconst 0, 1) := by decide +kernel
theorem dX2_pressedTo_130 : decode cX2_pressedTo 130 = .ok (.ireturn, 1) := by decide +kernel
theorem dX2_countWays_0 : decode cX2_countWays 0 = .ok (.aload_n 0, 1) := by decide +kernel
theorem dX2_countWays_1 : decode cX2_countWays 1 = .ok (.iload_n 2, 1) := by decide +kernel
theorem dX2_countWays_2 : decode cX2_countWays 2 = .ok (.invokevirtual 84, 3) := by decide +kernel
theorem dX2_countWays_5 : decode cX2_countWays 5 = .ok (.iconst 0, 1) := by decide +kernel
theorem dX2_countWays_6 : decode cX2_countWays 6 = .ok (.istore 4, 2) := by decide +kernel
theorem dX2_countWays_8 : decode cX2_countWays 8 = .ok (.iload 4, 2) := by decide +kernel
theorem dX2_countWays_10 : decode cX2_countWays 10 = .ok (.iload_n 3, 1) := by decide +kernel
theorem dX2_countWays_11 : decode cX2_countWays 11 = .ok (.if_icmp .ge 15, 3) := by decide +kernel
theorem dX2_countWays_14 : decode cX2_countWays 14 = .ok (.aload_n 0, 1) := by decide +kernel
theorem dX2_countWays_15 : decode cX2_countWays 15 = .ok (.aload_n 1, 1) := by decide +kernel
theorem dX2_countWays_16 : decode cX2_countWays 16 = .ok (.iconst 0, 1) := by decide +kernel
theorem dX2_countWays_17 : decode cX2_countWays 17 = .ok (.invokevirtual 88, 3) := by decide +kernel
theorem dX2_countWays_20 : decode cX2_countWays 20 = .ok (.iinc 4 1, 3) := by decide +kernel
theorem dX2_countWays_23 : decode cX2_countWays 23 = .ok (.goto (-15), 3) := by decide +kernel
theorem dX2_countWays_26 : decode cX2_countWays 26 = .ok (.return_, 1) := by decide +kernel
theorem dX2_weighWays_0 : decode cX2_weighWays 0 = .ok (.aload_n 0, 1) := by decide +kernel
theorem dX2_weighWays_1 : decode cX2_weighWays 1 = .ok (.iload_n 2, 1) := by decide +kernel
theorem dX2_weighWays_2 : decode cX2_weighWays 2 = .ok (.invokevirtual 84, 3) := by decide +kernel
theorem dX2_weighWays_5 : decode cX2_weighWays 5 = .ok (.iconst 1, 1) := by decide +kernel
theorem dX2_weighWays_6 : decode cX2_weighWays 6 = .ok (.istore 4, 2) := by decide +kernel
theorem dX2_weighWays_8 : decode cX2_weighWays 8 = .ok (.iconst 0, 1) := by decide +kernel
theorem dX2_weighWays_9 : decode cX2_weighWays 9 = .ok (.istore 5, 2) := by decide +kernel
theorem dX2_weighWays_11 : decode cX2_weighWays 11 = .ok (.iload 5, 2) := by decide +kernel
theorem dX2_weighWays_13 : decode cX2_weighWays 13 = .ok (.iload_n 3, 1) := by decide +kernel
theorem dX2_weighWays_14 : decode cX2_weighWays 14 = .ok (.if_icmp .ge 22, 3) := by decide +kernel
theorem dX2_weighWays_17 : decode cX2_weighWays 17 = .ok (.aload_n 0, 1) := by decide +kernel
theorem dX2_weighWays_18 : decode cX2_weighWays 18 = .ok (.aload_n 1, 1) := by decide +kernel
theorem dX2_weighWays_19 : decode cX2_weighWays 19 = .ok (.iconst 1, 1) := by decide +kernel
theorem dX2_weighWays_20 : decode cX2_weighWays 20 = .ok (.invokevirtual 88, 3) := by decide +kernel
theorem dX2_weighWays_23 : decode cX2_weighWays 23 = .ok (.iload 4, 2) := by decide +kernel
theorem dX2_weighWays_25 : decode cX2_weighWays 25 = .ok (.bipush 6, 2) := by decide +kernel
theorem dX2_weighWays_27 : decode cX2_weighWays 27 = .ok (.imul, 1) := by decide +kernel
theorem dX2_weighWays_28 : decode cX2_weighWays 28 = .ok (.istore 4, 2) := by decide +kernel
theorem dX2_weighWays_30 : decode cX2_weighWays 30 = .ok (.iinc 5 1, 3) := by decide +kernel
theorem dX2_weighWays_33 : decode cX2_weighWays 33 = .ok (.goto (-22), 3) := by decide +kernel
theorem dX2_weighWays_36 : decode cX2_weighWays 36 = .ok (.iload 4, 2) := by decide +kernel
theorem dX2_weighWays_38 : decode cX2_weighWays 38 = .ok (.ireturn, 1) := by decide +kernel
theorem dX2_beginAmounts_0 : decode cX2_beginAmounts 0 = .ok (.iconst 0, 1) := by decide +kernel
theorem dX2_beginAmounts_1 : decode cX2_beginAmounts 1 = .ok (.istore_n 2, 1) := by decide +kernel
theorem dX2_beginAmounts_2 : decode cX2_beginAmounts 2 = .ok (.iload_n 2, 1) := by decide +kernel
theorem dX2_beginAmounts_3 : decode cX2_beginAmounts 3 = .ok (.bipush 8, 2) := by decide +kernel
theorem dX2_beginAmounts_5 : decode cX2_beginAmounts 5 = .ok (.if_icmp .ge 25, 3) := by decide +kernel
theorem dX2_beginAmounts_8 : decode cX2_beginAmounts 8 = .ok (.aload_n 0, 1) := by decide +kernel
theorem dX2_beginAmounts_9 : decode cX2_beginAmounts 9 = .ok (.getfield 15, 3) := by decide +kernel
theorem dX2_beginAmounts_12 : decode cX2_beginAmounts 12 = .ok (.iload_n 2, 1) := by decide +kernel
theorem dX2_beginAmounts_13 : decode cX2_beginAmounts 13 = .ok (.iload_n 2, 1) := by decide +kernel
theorem dX2_beginAmounts_14 : decode cX2_beginAmounts 14 = .ok (.iload_n 1, 1) := by decide +kernel
theorem dX2_beginAmounts_15 : decode cX2_beginAmounts 15 = .ok (.if_icmp .ne 7, 3) := by decide +kernel
theorem dX2_beginAmounts_18 : decode cX2_beginAmounts 18 = .ok (.iconst 1, 1) := by decide +kernel
theorem dX2_beginAmounts_19 : decode cX2_beginAmounts 19 = .ok (.goto 4, 3) := by decide +kernel
theorem dX2_beginAmounts_22 : decode cX2_beginAmounts 22 = .ok (.iconst 0, 1) := by decide +kernel
theorem dX2_beginAmounts_23 : decode cX2_beginAmounts 23 = .ok (.iastore, 1) := by decide +kernel
theorem dX2_beginAmounts_24 : decode cX2_beginAmounts 24 = .ok (.iinc 2 1, 3) := by decide +kernel
theorem dX2_beginAmounts_27 : decode cX2_beginAmounts 27 = .ok (.goto (-25), 3) := by decide +kernel
theorem dX2_beginAmounts_30 : decode cX2_beginAmounts 30 = .ok (.return_, 1) := by decide +kernel
theorem dX2_spreadAmounts_0 : decode cX2_spreadAmounts 0 = .ok (.iconst 0, 1) := by decide +kernel
theorem dX2_spreadAmounts_1 : decode cX2_spreadAmounts 1 = .ok (.istore_n 3, 1) := by decide +kernel
theorem dX2_spreadAmounts_2 : decode cX2_spreadAmounts 2 = .ok (.iload_n 3, 1) := by decide +kernel
theorem dX2_spreadAmounts_3 : decode cX2_spreadAmounts 3 = .ok (.bipush 8, 2) := by decide +kernel
theorem dX2_spreadAmounts_5 : decode cX2_spreadAmounts 5 = .ok (.if_icmp .ge 16, 3) := by decide +kernel
theorem dX2_spreadAmounts_8 : decode cX2_spreadAmounts 8 = .ok (.aload_n 0, 1) := by decide +kernel
theorem dX2_spreadAmounts_9 : decode cX2_spreadAmounts 9 = .ok (.getfield 25, 3) := by decide +kernel
theorem dX2_spreadAmounts_12 : decode cX2_spreadAmounts 12 = .ok (.iload_n 3, 1) := by decide +kernel
theorem dX2_spreadAmounts_13 : decode cX2_spreadAmounts 13 = .ok (.iconst 0, 1) := by decide +kernel
theorem dX2_spreadAmounts_14 : decode cX2_spreadAmounts 14 = .ok (.iastore, 1) := by decide +kernel
theorem dX2_spreadAmounts_15 : decode cX2_spreadAmounts 15 = .ok (.iinc 3 1, 3) := by decide +kernel
theorem dX2_spreadAmounts_18 : decode cX2_spreadAmounts 18 = .ok (.goto (-16), 3) := by decide +kernel
theorem dX2_spreadAmounts_21 : decode cX2_spreadAmounts 21 = .ok (.iconst 0, 1) := by decide +kernel
theorem dX2_spreadAmounts_22 : decode cX2_spreadAmounts 22 = .ok (.istore_n 3, 1) := by decide +kernel
theorem dX2_spreadAmounts_23 : decode cX2_spreadAmounts 23 = .ok (.iload_n 3, 1) := by decide +kernel
theorem dX2_spreadAmounts_24 : decode cX2_spreadAmounts 24 = .ok (.aload_n 1, 1) := by decide +kernel
theorem dX2_spreadAmounts_25 : decode cX2_spreadAmounts 25 = .ok (.getfield 92, 3) := by decide +kernel
theorem dX2_spreadAmounts_28 : decode cX2_spreadAmounts 28 = .ok (.if_icmp .ge 100, 3) := by decide +kernel
theorem dX2_spreadAmounts_31 : decode cX2_spreadAmounts 31 = .ok (.iload_n 3, 1) := by decide +kernel
theorem dX2_spreadAmounts_32 : decode cX2_spreadAmounts 32 = .ok (.bipush 8, 2) := by decide +kernel
theorem dX2_spreadAmounts_34 : decode cX2_spreadAmounts 34 = .ok (.if_icmp .ge 94, 3) := by decide +kernel
theorem dX2_spreadAmounts_37 : decode cX2_spreadAmounts 37 = .ok (.aload_n 1, 1) := by decide +kernel
theorem dX2_spreadAmounts_38 : decode cX2_spreadAmounts 38 = .ok (.iload_n 3, 1) := by decide +kernel
theorem dX2_spreadAmounts_39 : decode cX2_spreadAmounts 39 = .ok (.invokevirtual 95, 3) := by decide +kernel
theorem dX2_spreadAmounts_42 : decode cX2_spreadAmounts 42 = .ok (.istore 4, 2) := by decide +kernel
theorem dX2_spreadAmounts_44 : decode cX2_spreadAmounts 44 = .ok (.iload_n 2, 1) := by decide +kernel
theorem dX2_spreadAmounts_45 : decode cX2_spreadAmounts 45 = .ok (.ifCond .eq 23, 3) := by decide +kernel
theorem dX2_spreadAmounts_48 : decode cX2_spreadAmounts 48 = .ok (.iload 4, 2) := by decide +kernel
theorem dX2_spreadAmounts_50 : decode cX2_spreadAmounts 50 = .ok (.ifCond .le 18, 3) := by decide +kernel
theorem dX2_spreadAmounts_53 : decode cX2_spreadAmounts 53 = .ok (.aload_n 0, 1) := by decide +kernel
theorem dX2_spreadAmounts_54 : decode cX2_spreadAmounts 54 = .ok (.getfield 15, 3) := by decide +kernel
theorem dX2_spreadAmounts_57 : decode cX2_spreadAmounts 57 = .ok (.iload_n 3, 1) := by decide +kernel
theorem dX2_spreadAmounts_58 : decode cX2_spreadAmounts 58 = .ok (.iaload, 1) := by decide +kernel
theorem dX2_spreadAmounts_59 : decode cX2_spreadAmounts 59 = .ok (.bipush 6, 2) := by decide +kernel
theorem dX2_spreadAmounts_61 : decode cX2_spreadAmounts 61 = .ok (.iload 4, 2) := by decide +kernel
theorem dX2_spreadAmounts_63 : decode cX2_spreadAmounts 63 = .ok (.idiv, 1) := by decide +kernel
theorem dX2_spreadAmounts_64 : decode cX2_spreadAmounts 64 = .ok (.imul, 1) := by decide +kernel
theorem dX2_spreadAmounts_65 : decode cX2_spreadAmounts 65 = .ok (.goto 9, 3) := by decide +kernel
theorem dX2_spreadAmounts_68 : decode cX2_spreadAmounts 68 = .ok (.aload_n 0, 1) := by decide +kernel
theorem dX2_spreadAmounts_69 : decode cX2_spreadAmounts 69 = .ok (.getfield 15, 3) := by decide +kernel
theorem dX2_spreadAmounts_72 : decode cX2_spreadAmounts 72 = .ok (.iload_n 3, 1) := by decide +kernel
theorem dX2_spreadAmounts_73 : decode cX2_spreadAmounts 73 = .ok (.iaload, 1) := by decide +kernel
theorem dX2_spreadAmounts_74 : decode cX2_spreadAmounts 74 = .ok (.istore 5, 2) := by decide +kernel
theorem dX2_spreadAmounts_76 : decode cX2_spreadAmounts 76 = .ok (.iconst 0, 1) := by decide +kernel
theorem dX2_spreadAmounts_77 : decode cX2_spreadAmounts 77 = .ok (.istore 6, 2) := by decide +kernel
theorem dX2_spreadAmounts_79 : decode cX2_spreadAmounts 79 = .ok (.iload 6, 2) := by decide +kernel
theorem dX2_spreadAmounts_81 : decode cX2_spreadAmounts 81 = .ok (.iload 4, 2) := by decide +kernel
theorem dX2_spreadAmounts_83 : decode cX2_spreadAmounts 83 = .ok (.if_icmp .ge 39, 3) := by decide +kernel
theorem dX2_spreadAmounts_86 : decode cX2_spreadAmounts 86 = .ok (.aload_n 1, 1) := by decide +kernel
theorem dX2_spreadAmounts_87 : decode cX2_spreadAmounts 87 = .ok (.iload_n 3, 1) := by decide +kernel
theorem dX2_spreadAmounts_88 : decode cX2_spreadAmounts 88 = .ok (.iload 6, 2) := by decide +kernel
theorem dX2_spreadAmounts_90 : decode cX2_spreadAmounts 90 = .ok (.invokevirtual 99, 3) := by decide +kernel
theorem dX2_spreadAmounts_93 : decode cX2_spreadAmounts 93 = .ok (.istore 7, 2) := by decide +kernel
theorem dX2_spreadAmounts_95 : decode cX2_spreadAmounts 95 = .ok (.aload_n 1, 1) := by decide +kernel
theorem dX2_spreadAmounts_96 : decode cX2_spreadAmounts 96 = .ok (.iload 7, 2) := by decide +kernel
theorem dX2_spreadAmounts_98 : decode cX2_spreadAmounts 98 = .ok (.invokevirtual 103, 3) := by decide +kernel
theorem dX2_spreadAmounts_101 : decode cX2_spreadAmounts 101 = .ok (.ifCond .eq 15, 3) := by decide +kernel
theorem dX2_spreadAmounts_104 : decode cX2_spreadAmounts 104 = .ok (.aload_n 0, 1) := by decide +kernel
theorem dX2_spreadAmounts_105 : decode cX2_spreadAmounts 105 = .ok (.getfield 25, 3) := by decide +kernel
theorem dX2_spreadAmounts_108 : decode cX2_spreadAmounts 108 = .ok (.iload 7, 2) := by decide +kernel
theorem dX2_spreadAmounts_110 : decode cX2_spreadAmounts 110 = .ok (.dup2, 1) := by decide +kernel
theorem dX2_spreadAmounts_111 : decode cX2_spreadAmounts 111 = .ok (.iaload, 1) := by decide +kernel
theorem dX2_spreadAmounts_112 : decode cX2_spreadAmounts 112 = .ok (.iload 5, 2) := by decide +kernel
theorem dX2_spreadAmounts_114 : decode cX2_spreadAmounts 114 = .ok (.iadd, 1) := by decide +kernel
theorem dX2_spreadAmounts_115 : decode cX2_spreadAmounts 115 = .ok (.iastore, 1) := by decide +kernel
theorem dX2_spreadAmounts_116 : decode cX2_spreadAmounts 116 = .ok (.iinc 6 1, 3) := by decide +kernel
theorem dX2_spreadAmounts_119 : decode cX2_spreadAmounts 119 = .ok (.goto (-40), 3) := by decide +kernel
theorem dX2_spreadAmounts_122 : decode cX2_spreadAmounts 122 = .ok (.iinc 3 1, 3) := by decide +kernel
theorem dX2_spreadAmounts_125 : decode cX2_spreadAmounts 125 = .ok (.goto (-102), 3) := by decide +kernel
theorem dX2_spreadAmounts_128 : decode cX2_spreadAmounts 128 = .ok (.aload_n 0, 1) := by decide +kernel
theorem dX2_spreadAmounts_129 : decode cX2_spreadAmounts 129 = .ok (.getfield 25, 3) := by decide +kernel
theorem dX2_spreadAmounts_132 : decode cX2_spreadAmounts 132 = .ok (.iconst 0, 1) := by decide +kernel
theorem dX2_spreadAmounts_133 : decode cX2_spreadAmounts 133 = .ok (.aload_n 0, 1) := by decide +kernel
theorem dX2_spreadAmounts_134 : decode cX2_spreadAmounts 134 = .ok (.getfield 15, 3) := by decide +kernel
theorem dX2_spreadAmounts_137 : decode cX2_spreadAmounts 137 = .ok (.iconst 0, 1) := by decide +kernel
theorem dX2_spreadAmounts_138 : decode cX2_spreadAmounts 138 = .ok (.bipush 8, 2) := by decide +kernel
theorem dX2_spreadAmounts_140 : decode cX2_spreadAmounts 140 = .ok (.invokestatic 106, 3) := by decide +kernel
theorem dX2_spreadAmounts_143 : decode cX2_spreadAmounts 143 = .ok (.return_, 1) := by decide +kernel
theorem dX2_hear_0 : decode cX2_hear 0 = .ok (.aload_n 0, 1) := by decide +kernel
theorem dX2_hear_1 : decode cX2_hear 1 = .ok (.aload_n 1, 1) := by decide +kernel
theorem dX2_hear_2 : decode cX2_hear 2 = .ok (.iload_n 2, 1) := by decide +kernel
theorem dX2_hear_3 : decode cX2_hear 3 = .ok (.iload_n 3, 1) := by decide +kernel
theorem dX2_hear_4 : decode cX2_hear 4 = .ok (.invokevirtual 112, 3) := by decide +kernel
theorem dX2_hear_7 : decode cX2_hear 7 = .ok (.ifCond .eq 12, 3) := by decide +kernel
theorem dX2_hear_10 : decode cX2_hear 10 = .ok (.iload_n 3, 1) := by decide +kernel
theorem dX2_hear_11 : decode cX2_hear 11 = .ok (.bipush 12, 2) := by decide +kernel
theorem dX2_hear_13 : decode cX2_hear 13 = .ok (.invokestatic 118, 3) := by decide +kernel
theorem dX2_hear_16 : decode cX2_hear 16 = .ok (.goto 4, 3) := by decide +kernel
theorem dX2_hear_19 : decode cX2_hear 19 = .ok (.iconst 0, 1) := by decide +kernel
theorem dX2_hear_20 : decode cX2_hear 20 = .ok (.putfield 49, 3) := by decide +kernel
theorem dX2_hear_23 : decode cX2_hear 23 = .ok (.iconst 0, 1) := by decide +kernel
theorem dX2_hear_24 : decode cX2_hear 24 = .ok (.istore 4, 2) := by decide +kernel
theorem dX2_hear_26 : decode cX2_hear 26 = .ok (.iload 4, 2) := by decide +kernel
theorem dX2_hear_28 : decode cX2_hear 28 = .ok (.aload_n 0, 1) := by decide +kernel
theorem dX2_hear_29 : decode cX2_hear 29 = .ok (.getfield 49, 3) := by decide +kernel
theorem dX2_hear_32 : decode cX2_hear 32 = .ok (.if_icmp .ge 25, 3) := by decide +kernel
theorem dX2_hear_35 : decode cX2_hear 35 = .ok (.aload_n 0, 1) := by decide +kernel
theorem dX2_hear_36 : decode cX2_hear 36 = .ok (.getfield 46, 3) := by decide +kernel
theorem dX2_hear_39 : decode cX2_hear 39 = .ok (.iload 4, 2) := by decide +kernel
theorem dX2_hear_41 : decode cX2_hear 41 = .ok (.aload_n 1, 1) := by decide +kernel
theorem dX2_hear_42 : decode cX2_hear 42 = .ok (.getfield 123, 3) := by decide +kernel
theorem dX2_hear_45 : decode cX2_hear 45 = .ok (.iload_n 2, 1) := by decide +kernel
theorem dX2_hear_46 : decode cX2_hear 46 = .ok (.iload 4, 2) := by decide +kernel
theorem dX2_hear_48 : decode cX2_hear 48 = .ok (.iadd, 1) := by decide +kernel
theorem dX2_hear_49 : decode cX2_hear 49 = .ok (.iaload, 1) := by decide +kernel
theorem dX2_hear_50 : decode cX2_hear 50 = .ok (.iastore, 1) := by decide +kernel
theorem dX2_hear_51 : decode cX2_hear 51 = .ok (.iinc 4 1, 3) := by decide +kernel
theorem dX2_hear_54 : decode cX2_hear 54 = .ok (.goto (-28), 3) := by decide +kernel
theorem dX2_hear_57 : decode cX2_hear 57 = .ok (.return_, 1) := by decide +kernel
theorem dX2_fittingKinds_0 : decode cX2_fittingKinds 0 = .ok (.iconst 0, 1) := by decide +kernel
theorem dX2_fittingKinds_1 : decode cX2_fittingKinds 1 = .ok (.istore_n 3, 1) := by decide +kernel
theorem dX2_fittingKinds_2 : decode cX2_fittingKinds 2 = .ok (.iconst 1, 1) := by decide +kernel
theorem dX2_fittingKinds_3 : decode cX2_fittingKinds 3 = .ok (.istore 4, 2) := by decide +kernel
theorem dX2_fittingKinds_5 : decode cX2_fittingKinds 5 = .ok (.iload 4, 2) := by decide +kernel
theorem dX2_fittingKinds_7 : decode cX2_fittingKinds 7 = .ok (.iconst 5, 1) := by decide +kernel
theorem dX2_fittingKinds_8 : decode cX2_fittingKinds 8 = .ok (.if_icmp .gt 34, 3) := by decide +kernel
theorem dX2_fittingKinds_11 : decode cX2_fittingKinds 11 = .ok (.aload_n 0, 1) := by decide +kernel
theorem dX2_fittingKinds_12 : decode cX2_fittingKinds 12 = .ok (.aload_n 2, 1) := by decide +kernel
theorem dX2_fittingKinds_13 : decode cX2_fittingKinds 13 = .ok (.invokevirtual 126, 3) := by decide +kernel
theorem dX2_fittingKinds_16 : decode cX2_fittingKinds 16 = .ok (.aload_n 0, 1) := by decide +kernel
theorem dX2_fittingKinds_17 : decode cX2_fittingKinds 17 = .ok (.getfield 35, 3) := by decide +kernel
theorem dX2_fittingKinds_20 : decode cX2_fittingKinds 20 = .ok (.iload 4, 2) := by decide +kernel
theorem dX2_fittingKinds_22 : decode cX2_fittingKinds 22 = .ok (.putfield 130, 3) := by decide +kernel
theorem dX2_fittingKinds_25 : decode cX2_fittingKinds 25 = .ok (.iload_n 3, 1) := by decide +kernel
theorem dX2_fittingKinds_26 : decode cX2_fittingKinds 26 = .ok (.aload_n 0, 1) := by decide +kernel
theorem dX2_fittingKinds_27 : decode cX2_fittingKinds 27 = .ok (.aload_n 1, 1) := by decide +kernel
theorem dX2_fittingKinds_28 : decode cX2_fittingKinds 28 = .ok (.aload_n 2, 1) := by decide +kernel
theorem dX2_fittingKinds_29 : decode cX2_fittingKinds 29 = .ok (.iload 4, 2) := by decide +kernel
theorem dX2_fittingKinds_31 : decode cX2_fittingKinds 31 = .ok (.invokevirtual 133, 3) := by decide +kernel
theorem dX2_fittingKinds_34 : decode cX2_fittingKinds 34 = .ok (.ior, 1) := by decide +kernel
theorem dX2_fittingKinds_35 : decode cX2_fittingKinds 35 = .ok (.istore_n 3, 1) := by decide +kernel
theorem dX2_fittingKinds_36 : decode cX2_fittingKinds 36 = .ok (.iinc 4 1, 3) := by decide +kernel
theorem dX2_fittingKinds_39 : decode cX2_fittingKinds 39 = .ok (.goto (-34), 3) := by decide +kernel
theorem dX2_fittingKinds_42 : decode cX2_fittingKinds 42 = .ok (.iload_n 3, 1) := by decide +kernel
theorem dX2_fittingKinds_43 : decode cX2_fittingKinds 43 = .ok (.ireturn, 1) := by decide +kernel
theorem dX2_fittingStarts_0 : decode cX2_fittingStarts 0 = .ok (.iconst 0, 1) := by decide +kernel
theorem dX2_fittingStarts_1 : decode cX2_fittingStarts 1 = .ok (.istore_n 3, 1) := by decide +kernel
theorem dX2_fittingStarts_2 : decode cX2_fittingStarts 2 = .ok (.iconst 0, 1) := by decide +kernel
theorem dX2_fittingStarts_3 : decode cX2_fittingStarts 3 = .ok (.istore 4, 2) := by decide +kernel
theorem dX2_fittingStarts_5 : decode cX2_fittingStarts 5 = .ok (.iload 4, 2) := by decide +kernel
theorem dX2_fittingStarts_7 : decode cX2_fittingStarts 7 = .ok (.aload_n 1, 1) := by decide +kernel
theorem dX2_fittingStarts_8 : decode cX2_fittingStarts 8 = .ok (.getfield 92, 3) := by decide +kernel
theorem dX2_fittingStarts_11 : decode cX2_fittingStarts 11 = .ok (.if_icmp .ge 34, 3) := by decide +kernel
theorem dX2_fittingStarts_14 : decode cX2_fittingStarts 14 = .ok (.aload_n 0, 1) := by decide +kernel
theorem dX2_fittingStarts_15 : decode cX2_fittingStarts 15 = .ok (.aload_n 2, 1) := by decide +kernel
theorem dX2_fittingStarts_16 : decode cX2_fittingStarts 16 = .ok (.invokevirtual 126, 3) := by decide +kernel
theorem dX2_fittingStarts_19 : decode cX2_fittingStarts 19 = .ok (.aload_n 0, 1) := by decide +kernel
theorem dX2_fittingStarts_20 : decode cX2_fittingStarts 20 = .ok (.getfield 35, 3) := by decide +kernel
theorem dX2_fittingStarts_23 : decode cX2_fittingStarts 23 = .ok (.iload 4, 2) := by decide +kernel
theorem dX2_fittingStarts_25 : decode cX2_fittingStarts 25 = .ok (.invokevirtual 137, 3) := by decide +kernel
theorem dX2_fittingStarts_28 : decode cX2_fittingStarts 28 = .ok (.iload_n 3, 1) := by decide +kernel
theorem dX2_fittingStarts_29 : decode cX2_fittingStarts 29 = .ok (.aload_n 0, 1) := by decide +kernel
theorem dX2_fittingStarts_30 : decode cX2_fittingStarts 30 = .ok (.aload_n 1, 1) := by decide +kernel
theorem dX2_fittingStarts_31 : decode cX2_fittingStarts 31 = .ok (.aload_n 2, 1) := by decide +kernel
theorem dX2_fittingStarts_32 : decode cX2_fittingStarts 32 = .ok (.iload 4, 2) := by decide +kernel
theorem dX2_fittingStarts_34 : decode cX2_fittingStarts 34 = .ok (.invokevirtual 133, 3) := by decide +kernel
theorem dX2_fittingStarts_37 : decode cX2_fittingStarts 37 = .ok (.ior, 1) := by decide +kernel
theorem dX2_fittingStarts_38 : decode cX2_fittingStarts 38 = .ok (.istore_n 3, 1) := by decide +kernel
theorem dX2_fittingStarts_39 : decode cX2_fittingStarts 39 = .ok (.iinc 4 1, 3) := by decide +kernel
theorem dX2_fittingStarts_42 : decode cX2_fittingStarts 42 = .ok (.goto (-37), 3) := by decide +kernel
theorem dX2_fittingStarts_45 : decode cX2_fittingStarts 45 = .ok (.iload_n 3, 1) := by decide +kernel
theorem dX2_fittingStarts_46 : decode cX2_fittingStarts 46 = .ok (.ireturn, 1) := by decide +kernel
theorem dX2_fittingLeads_0 : decode cX2_fittingLeads 0 = .ok (.iconst 0, 1) := by decide +kernel
theorem dX2_fittingLeads_1 : decode cX2_fittingLeads 1 = .ok (.istore 4, 2) := by decide +kernel
theorem dX2_fittingLeads_3 : decode cX2_fittingLeads 3 = .ok (.aload_n 0, 1) := by decide +kernel
theorem dX2_fittingLeads_4 : decode cX2_fittingLeads 4 = .ok (.getfield 42, 3) := by decide +kernel
theorem dX2_fittingLeads_7 : decode cX2_fittingLeads 7 = .ok (.aload_n 1, 1) := by decide +kernel
theorem dX2_fittingLeads_8 : decode cX2_fittingLeads 8 = .ok (.invokevirtual 140, 3) := by decide +kernel
theorem dX2_fittingLeads_11 : decode cX2_fittingLeads 11 = .ok (.iconst 0, 1) := by decide +kernel
theorem dX2_fittingLeads_12 : decode cX2_fittingLeads 12 = .ok (.istore 5, 2) := by decide +kernel
theorem dX2_fittingLeads_14 : decode cX2_fittingLeads 14 = .ok (.iload 5, 2) := by decide +kernel
theorem dX2_fittingLeads_16 : decode cX2_fittingLeads 16 = .ok (.aload_n 1, 1) := by decide +kernel
theorem dX2_fittingLeads_17 : decode cX2_fittingLeads 17 = .ok (.getfield 92, 3) := by decide +kernel
theorem dX2_fittingLeads_20 : decode cX2_fittingLeads 20 = .ok (.if_icmp .ge 40, 3) := by decide +kernel
theorem dX2_fittingLeads_23 : decode cX2_fittingLeads 23 = .ok (.aload_n 0, 1) := by decide +kernel
theorem dX2_fittingLeads_24 : decode cX2_fittingLeads 24 = .ok (.aload_n 2, 1) := by decide +kernel
theorem dX2_fittingLeads_25 : decode cX2_fittingLeads 25 = .ok (.invokevirtual 126, 3) := by decide +kernel
theorem dX2_fittingLeads_28 : decode cX2_fittingLeads 28 = .ok (.aload_n 0, 1) := by decide +kernel
theorem dX2_fittingLeads_29 : decode cX2_fittingLeads 29 = .ok (.getfield 42, 3) := by decide +kernel
theorem dX2_fittingLeads_32 : decode cX2_fittingLeads 32 = .ok (.iload_n 3, 1) := by decide +kernel
theorem dX2_fittingLeads_33 : decode cX2_fittingLeads 33 = .ok (.iload 5, 2) := by decide +kernel
theorem dX2_fittingLeads_35 : decode cX2_fittingLeads 35 = .ok (.invokevirtual 143, 3) := by decide +kernel
theorem dX2_fittingLeads_38 : decode cX2_fittingLeads 38 = .ok (.iload 4, 2) := by decide +kernel
theorem dX2_fittingLeads_40 : decode cX2_fittingLeads 40 = .ok (.aload_n 0, 1) := by decide +kernel
theorem dX2_fittingLeads_41 : decode cX2_fittingLeads 41 = .ok (.aload_n 0, 1) := by decide +kernel
theorem dX2_fittingLeads_42 : decode cX2_fittingLeads 42 = .ok (.getfield 42, 3) := by decide +kernel
theorem dX2_fittingLeads_45 : decode cX2_fittingLeads 45 = .ok (.aload_n 2, 1) := by decide +kernel
theorem dX2_fittingLeads_46 : decode cX2_fittingLeads 46 = .ok (.iload 5, 2) := by decide +kernel
theorem dX2_fittingLeads_48 : decode cX2_fittingLeads 48 = .ok (.invokevirtual 133, 3) := by decide +kernel
theorem dX2_fittingLeads_51 : decode cX2_fittingLeads 51 = .ok (.ior, 1) := by decide +kernel
theorem dX2_fittingLeads_52 : decode cX2_fittingLeads 52 = .ok (.istore 4, 2) := by decide +kernel
theorem dX2_fittingLeads_54 : decode cX2_fittingLeads 54 = .ok (.iinc 5 1, 3) := by decide +kernel
theorem dX2_fittingLeads_57 : decode cX2_fittingLeads 57 = .ok (.goto (-43), 3) := by decide +kernel
theorem dX2_fittingLeads_60 : decode cX2_fittingLeads 60 = .ok (.iload 4, 2) := by decide +kernel
theorem dX2_fittingLeads_62 : decode cX2_fittingLeads 62 = .ok (.ireturn, 1) := by decide +kernel
theorem dX2_fittingHomes_0 : decode cX2_fittingHomes 0 = .ok (.iconst 0, 1) := by decide +kernel
theorem dX2_fittingHomes_1 : decode cX2_fittingHomes 1 = .ok (.istore_n 3, 1) := by decide +kernel
theorem dX2_fittingHomes_2 : decode cX2_fittingHomes 2 = .ok (.iconst 0, 1) := by decide +kernel
theorem dX2_fittingHomes_3 : decode cX2_fittingHomes 3 = .ok (.istore 4, 2) := by decide +kernel
theorem dX2_fittingHomes_5 : decode cX2_fittingHomes 5 = .ok (.iload 4, 2) := by decide +kernel
theorem dX2_fittingHomes_7 : decode cX2_fittingHomes 7 = .ok (.aload_n 1, 1) := by decide +kernel
theorem dX2_fittingHomes_8 : decode cX2_fittingHomes 8 = .ok (.getfield 92, 3) := by decide +kernel
theorem dX2_fittingHomes_11 : decode cX2_fittingHomes 11 = .ok (.if_icmp .ge 34, 3) := by decide +kernel
theorem dX2_fittingHomes_14 : decode cX2_fittingHomes 14 = .ok (.aload_n 0, 1) := by decide +kernel
theorem dX2_fittingHomes_15 : decode cX2_fittingHomes 15 = .ok (.aload_n 2, 1) := by decide +kernel
theorem dX2_fittingHomes_16 : decode cX2_fittingHomes 16 = .ok (.invokevirtual 126, 3) := by decide +kernel
theorem dX2_fittingHomes_19 : decode cX2_fittingHomes 19 = .ok (.aload_n 0, 1) := by decide +kernel
theorem dX2_fittingHomes_20 : decode cX2_fittingHomes 20 = .ok (.getfield 35, 3) := by decide +kernel
theorem dX2_fittingHomes_23 : decode cX2_fittingHomes 23 = .ok (.iload 4, 2) := by decide +kernel
theorem dX2_fittingHomes_25 : decode cX2_fittingHomes 25 = .ok (.putfield 147, 3) := by decide +kernel
theorem dX2_fittingHomes_28 : decode cX2_fittingHomes 28 = .ok (.iload_n 3, 1) := by decide +kernel
theorem dX2_fittingHomes_29 : decode cX2_fittingHomes 29 = .ok (.aload_n 0, 1) := by decide +kernel
theorem dX2_fittingHomes_30 : decode cX2_fittingHomes 30 = .ok (.aload_n 1, 1) := by decide +kernel
theorem dX2_fittingHomes_31 : decode cX2_fittingHomes 31 = .ok (.aload_n 2, 1) := by decide +kernel
theorem dX2_fittingHomes_32 : decode cX2_fittingHomes 32 = .ok (.iload 4, 2) := by decide +kernel
theorem dX2_fittingHomes_34 : decode cX2_fittingHomes 34 = .ok (.invokevirtual 133, 3) := by decide +kernel
theorem dX2_fittingHomes_37 : decode cX2_fittingHomes 37 = .ok (.ior, 1) := by decide +kernel
theorem dX2_fittingHomes_38 : decode cX2_fittingHomes 38 = .ok (.istore_n 3, 1) := by decide +kernel
theorem dX2_fittingHomes_39 : decode cX2_fittingHomes 39 = .ok (.iinc 4 1, 3) := by decide +kernel
theorem dX2_fittingHomes_42 : decode cX2_fittingHomes 42 = .ok (.goto (-37), 3) := by decide +kernel
theorem dX2_fittingHomes_45 : decode cX2_fittingHomes 45 = .ok (.iload_n 3, 1) := by decide +kernel
theorem dX2_fittingHomes_46 : decode cX2_fittingHomes 46 = .ok (.ireturn, 1) := by decide +kernel
theorem dX2_guessNow_0 : decode cX2_guessNow 0 = .ok (.aload_n 1, 1) := by decide +kernel
theorem dX2_guessNow_1 : decode cX2_guessNow 1 = .ok (.aload_n 1, 1) := by decide +kernel
theorem dX2_guessNow_2 : decode cX2_guessNow 2 = .ok (.getfield 53, 3) := by decide +kernel
theorem dX2_guessNow_5 : decode cX2_guessNow 5 = .ok (.invokevirtual 56, 3) := by decide +kernel
theorem dX2_guessNow_8 : decode cX2_guessNow 8 = .ok (.ifCond .eq 19, 3) := by decide +kernel
theorem dX2_guessNow_11 : decode cX2_guessNow 11 = .ok (.aload_n 0, 1) := by decide +kernel
theorem dX2_guessNow_12 : decode cX2_guessNow 12 = .ok (.getfield 35, 3) := by decide +kernel
theorem dX2_guessNow_15 : decode cX2_guessNow 15 = .ok (.aload_n 1, 1) := by decide +kernel
theorem dX2_guessNow_16 : decode cX2_guessNow 16 = .ok (.getfield 61, 3) := by decide +kernel
theorem dX2_guessNow_19 : decode cX2_guessNow 19 = .ok (.aload_n 1, 1) := by decide +kernel
theorem dX2_guessNow_20 : decode cX2_guessNow 20 = .ok (.getfield 53, 3) := by decide +kernel
theorem dX2_guessNow_23 : decode cX2_guessNow 23 = .ok (.aaload, 1) := by decide +kernel
theorem dX2_guessNow_24 : decode cX2_guessNow 24 = .ok (.invokevirtual 64, 3) := by decide +kernel
theorem dX2_guessNow_27 : decode cX2_guessNow 27 = .ok (.return_, 1) := by decide +kernel
theorem dX2_bitIfFits_0 : decode cX2_bitIfFits 0 = .ok (.iconst 0, 1) := by decide +kernel
theorem dX2_bitIfFits_1 : decode cX2_bitIfFits 1 = .ok (.istore 4, 2) := by decide +kernel
theorem dX2_bitIfFits_3 : decode cX2_bitIfFits 3 = .ok (.iload 4, 2) := by decide +kernel
theorem dX2_bitIfFits_5 : decode cX2_bitIfFits 5 = .ok (.aload_n 0, 1) := by decide +kernel
theorem dX2_bitIfFits_6 : decode cX2_bitIfFits 6 = .ok (.getfield 49, 3) := by decide +kernel
theorem dX2_bitIfFits_9 : decode cX2_bitIfFits 9 = .ok (.if_icmp .ge 42, 3) := by decide +kernel
theorem dX2_bitIfFits_12 : decode cX2_bitIfFits 12 = .ok (.aload_n 0, 1) := by decide +kernel
theorem dX2_bitIfFits_13 : decode cX2_bitIfFits 13 = .ok (.getfield 35, 3) := by decide +kernel
theorem dX2_bitIfFits_16 : decode cX2_bitIfFits 16 = .ok (.aload_n 1, 1) := by decide +kernel
theorem dX2_bitIfFits_17 : decode cX2_bitIfFits 17 = .ok (.iconst 2, 1) := by decide +kernel
theorem dX2_bitIfFits_18 : decode cX2_bitIfFits 18 = .ok (.aload_n 2, 1) := by decide +kernel
theorem dX2_bitIfFits_19 : decode cX2_bitIfFits 19 = .ok (.invokevirtual 68, 3) := by decide +kernel
theorem dX2_bitIfFits_22 : decode cX2_bitIfFits 22 = .ok (.invokevirtual 80, 3) := by decide +kernel
theorem dX2_bitIfFits_25 : decode cX2_bitIfFits 25 = .ok (.pop, 1) := by decide +kernel
theorem dX2_bitIfFits_26 : decode cX2_bitIfFits 26 = .ok (.aload_n 0, 1) := by decide +kernel
theorem dX2_bitIfFits_27 : decode cX2_bitIfFits 27 = .ok (.getfield 35, 3) := by decide +kernel
theorem dX2_bitIfFits_30 : decode cX2_bitIfFits 30 = .ok (.invokevirtual 76, 3) := by decide +kernel
theorem dX2_bitIfFits_33 : decode cX2_bitIfFits 33 = .ok (.aload_n 0, 1) := by decide +kernel
theorem dX2_bitIfFits_34 : decode cX2_bitIfFits 34 = .ok (.getfield 46, 3) := by decide +kernel
theorem dX2_bitIfFits_37 : decode cX2_bitIfFits 37 = .ok (.iload 4, 2) := by decide +kernel
theorem dX2_bitIfFits_39 : decode cX2_bitIfFits 39 = .ok (.iaload, 1) := by decide +kernel
theorem dX2_bitIfFits_40 : decode cX2_bitIfFits 40 = .ok (.if_icmp .eq 5, 3) := by decide +kernel
theorem dX2_bitIfFits_43 : decode cX2_bitIfFits 43 = .ok (.iconst 0, 1) := by decide +kernel
theorem dX2_bitIfFits_44 : decode cX2_bitIfFits 44 = .ok (.ireturn, 1) := by decide +kernel
theorem dX2_bitIfFits_45 : decode cX2_bitIfFits 45 = .ok (.iinc 4 1, 3) := by decide +kernel
theorem dX2_bitIfFits_48 : decode cX2_bitIfFits 48 = .ok (.goto (-45), 3) := by decide +kernel
theorem dX2_bitIfFits_51 : decode cX2_bitIfFits 51 = .ok (.iconst 1, 1) := by decide +kernel
theorem dX2_bitIfFits_52 : decode cX2_bitIfFits 52 = .ok (.iload_n 3, 1) := by decide +kernel
theorem dX2_bitIfFits_53 : decode cX2_bitIfFits 53 = .ok (.ishl, 1) := by decide +kernel
theorem dX2_bitIfFits_54 : decode cX2_bitIfFits 54 = .ok (.ireturn, 1) := by decide +kernel
theorem dX2_spendEvening_0 : decode cX2_spendEvening 0 = .ok (.aload_n 0, 1) := by decide +kernel
theorem dX2_spendEvening_1 : decode cX2_spendEvening 1 = .ok (.getfield 21, 3) := by decide +kernel
theorem dX2_spendEvening_4 : decode cX2_spendEvening 4 = .ok (.aload_n 2, 1) := by decide +kernel
theorem dX2_spendEvening_5 : decode cX2_spendEvening 5 = .ok (.invokevirtual 150, 3) := by decide +kernel
theorem dX2_spendEvening_8 : decode cX2_spendEvening 8 = .ok (.iload 4, 2) := by decide +kernel
theorem dX2_spendEvening_10 : decode cX2_spendEvening 10 = .ok (.i2l, 1) := by decide +kernel
theorem dX2_spendEvening_11 : decode cX2_spendEvening 11 = .ok (.lstore 5, 2) := by decide +kernel
theorem dX2_spendEvening_13 : decode cX2_spendEvening 13 = .ok (.iconst 0, 1) := by decide +kernel
theorem dX2_spendEvening_14 : decode cX2_spendEvening 14 = .ok (.istore 7, 2) := by decide +kernel
theorem dX2_spendEvening_16 : decode cX2_spendEvening 16 = .ok (.iconst 0, 1) := by decide +kernel
theorem dX2_spendEvening_17 : decode cX2_spendEvening 17 = .ok (.istore 8, 2) := by decide +kernel
theorem dX2_spendEvening_19 : decode cX2_spendEvening 19 = .ok (.iload 8, 2) := by decide +kernel
theorem dX2_spendEvening_21 : decode cX2_spendEvening 21 = .ok (.iload_n 3, 1) := by decide +kernel
theorem dX2_spendEvening_22 : decode cX2_spendEvening 22 = .ok (.if_icmp .ge 42, 3) := by decide +kernel
theorem dX2_spendEvening_25 : decode cX2_spendEvening 25 = .ok (.lload 5, 2) := by decide +kernel
theorem dX2_spendEvening_27 : decode cX2_spendEvening 27 = .ok (.ldc2_w 152, 3) := by decide +kernel
theorem dX2_spendEvening_30 : decode cX2_spendEvening 30 = .ok (.lmul, 1) := by decide +kernel
theorem dX2_spendEvening_31 : decode cX2_spendEvening 31 = .ok (.ldc2_w 154, 3) := by decide +kernel
theorem dX2_spendEvening_34 : decode cX2_spendEvening 34 = .ok (.lrem, 1) := by decide +kernel
theorem dX2_spendEvening_35 : decode cX2_spendEvening 35 = .ok (.lstore 5, 2) := by decide +kernel
theorem dX2_spendEvening_37 : decode cX2_spendEvening 37 = .ok (.iload 7, 2) := by decide +kernel
theorem dX2_spendEvening_39 : decode cX2_spendEvening 39 = .ok (.aload_n 0, 1) := by decide +kernel
theorem dX2_spendEvening_40 : decode cX2_spendEvening 40 = .ok (.aload_n 1, 1) := by decide +kernel
theorem dX2_spendEvening_41 : decode cX2_spendEvening 41 = .ok (.lload 5, 2) := by decide +kernel
theorem dX2_spendEvening_43 : decode cX2_spendEvening 43 = .ok (.l2i, 1) := by decide +kernel
theorem dX2_spendEvening_44 : decode cX2_spendEvening 44 = .ok (.invokevirtual 156, 3) := by decide +kernel
theorem dX2_spendEvening_47 : decode cX2_spendEvening 47 = .ok (.ifCond .eq 7, 3) := by decide +kernel
theorem dX2_spendEvening_50 : decode cX2_spendEvening 50 = .ok (.iconst 1, 1) := by decide +kernel
theorem dX2_spendEvening_51 : decode cX2_spendEvening 51 = .ok (.goto 4, 3) := by decide +kernel
theorem dX2_spendEvening_54 : decode cX2_spendEvening 54 = .ok (.iconst 0, 1) := by decide +kernel
theorem dX2_spendEvening_55 : decode cX2_spendEvening 55 = .ok (.iadd, 1) := by decide +kernel
theorem dX2_spendEvening_56 : decode cX2_spendEvening 56 = .ok (.istore 7, 2) := by decide +kernel
theorem dX2_spendEvening_58 : decode cX2_spendEvening 58 = .ok (.iinc 8 1, 3) := by decide +kernel
theorem dX2_spendEvening_61 : decode cX2_spendEvening 61 = .ok (.goto (-42), 3) := by decide +kernel
theorem dX2_spendEvening_64 : decode cX2_spendEvening 64 = .ok (.iload 7, 2) := by decide +kernel
theorem dX2_spendEvening_66 : decode cX2_spendEvening 66 = .ok (.ireturn, 1) := by decide +kernel
theorem dX2_drawnAct_0 : decode cX2_drawnAct 0 = .ok (.iload_n 2, 1) := by decide +kernel
theorem dX2_drawnAct_1 : decode cX2_drawnAct 1 = .ok (.ifCond .lt 20, 3) := by decide +kernel
theorem dX2_drawnAct_4 : decode cX2_drawnAct 4 = .ok (.aload_n 0, 1) := by decide +kernel
theorem dX2_drawnAct_5 : decode cX2_drawnAct 5 = .ok (.getfield 21, 3) := by decide +kernel
theorem dX2_drawnAct_8 : decode cX2_drawnAct 8 = .ok (.getfield 160, 3) := by decide +kernel
theorem dX2_drawnAct_11 : decode cX2_drawnAct 11 = .ok (.ifCond .le 10, 3) := by decide +kernel
theorem dX2_drawnAct_14 : decode cX2_drawnAct 14 = .ok (.aload_n 1, 1) := by decide +kernel
theorem dX2_drawnAct_15 : decode cX2_drawnAct 15 = .ok (.getfield 92, 3) := by decide +kernel
theorem dX2_drawnAct_18 : decode cX2_drawnAct 18 = .ok (.ifCond .gt 5, 3) := by decide +kernel
theorem dX2_drawnAct_21 : decode cX2_drawnAct 21 = .ok (.iconst 0, 1) := by decide +kernel
theorem dX2_drawnAct_22 : decode cX2_drawnAct 22 = .ok (.ireturn, 1) := by decide +kernel
theorem dX2_drawnAct_23 : decode cX2_drawnAct 23 = .ok (.iload_n 2, 1) := by decide +kernel
theorem dX2_drawnAct_24 : decode cX2_drawnAct 24 = .ok (.bipush 7, 2) := by decide +kernel
theorem dX2_drawnAct_26 : decode cX2_drawnAct 26 = .ok (.irem, 1) := by decide +kernel
theorem dX2_drawnAct_27 : decode cX2_drawnAct 27 = .ok (.istore_n 3, 1) := by decide +kernel
theorem dX2_drawnAct_28 : decode cX2_drawnAct 28 = .ok (.iload_n 3, 1) := by decide +kernel
theorem dX2_drawnAct_29 : decode cX2_drawnAct 29 = .ok (.tableswitch 84 3 6 #[31, 41, 60, 74], 31) := by decide +kernel
theorem dX2_drawnAct_60 : decode cX2_drawnAct 60 = .ok (.aload_n 0, 1) := by decide +kernel
theorem dX2_drawnAct_61 : decode cX2_drawnAct 61 = .ok (.getfield 21, 3) := by decide +kernel
theorem dX2_drawnAct_64 : decode cX2_drawnAct 64 = .ok (.invokevirtual 163, 3) := by decide +kernel
theorem dX2_drawnAct_67 : decode cX2_drawnAct 67 = .ok (.pop, 1) := by decide +kernel
theorem dX2_drawnAct_68 : decode cX2_drawnAct 68 = .ok (.iconst 0, 1) := by decide +kernel
theorem dX2_drawnAct_69 : decode cX2_drawnAct 69 = .ok (.ireturn, 1) := by decide +kernel
theorem dX2_drawnAct_70 : decode cX2_drawnAct 70 = .ok (.aload_n 0, 1) := by decide +kernel
theorem dX2_drawnAct_71 : decode cX2_drawnAct 71 = .ok (.getfield 21, 3) := by decide +kernel
theorem dX2_drawnAct_74 : decode cX2_drawnAct 74 = .ok (.iload_n 2, 1) := by decide +kernel
theorem dX2_drawnAct_75 : decode cX2_drawnAct 75 = .ok (.aload_n 0, 1) := by decide +kernel
theorem dX2_drawnAct_76 : decode cX2_drawnAct 76 = .ok (.getfield 21, 3) := by decide +kernel
theorem dX2_drawnAct_79 : decode cX2_drawnAct 79 = .ok (.getfield 160, 3) := by decide +kernel
theorem dX2_drawnAct_82 : decode cX2_drawnAct 82 = .ok (.irem, 1) := by decide +kernel
theorem dX2_drawnAct_83 : decode cX2_drawnAct 83 = .ok (.invokevirtual 166, 3) := by decide +kernel
theorem dX2_drawnAct_86 : decode cX2_drawnAct 86 = .ok (.pop, 1) := by decide +kernel
theorem dX2_drawnAct_87 : decode cX2_drawnAct 87 = .ok (.iconst 0, 1) := by decide +kernel
theorem dX2_drawnAct_88 : decode cX2_drawnAct 88 = .ok (.ireturn, 1) := by decide +kernel
theorem dX2_drawnAct_89 : decode cX2_drawnAct 89 = .ok (.aload_n 0, 1) := by decide +kernel
theorem dX2_drawnAct_90 : decode cX2_drawnAct 90 = .ok (.getfield 21, 3) := by decide +kernel
theorem dX2_drawnAct_93 : decode cX2_drawnAct 93 = .ok (.iload_n 2, 1) := by decide +kernel
theorem dX2_drawnAct_94 : decode cX2_drawnAct 94 = .ok (.aload_n 1, 1) := by decide +kernel
theorem dX2_drawnAct_95 : decode cX2_drawnAct 95 = .ok (.getfield 92, 3) := by decide +kernel
theorem dX2_drawnAct_98 : decode cX2_drawnAct 98 = .ok (.irem, 1) := by decide +kernel
theorem dX2_drawnAct_99 : decode cX2_drawnAct 99 = .ok (.invokevirtual 169, 3) := by decide +kernel
theorem dX2_drawnAct_102 : decode cX2_drawnAct 102 = .ok (.ireturn, 1) := by decide +kernel
theorem dX2_drawnAct_103 : decode cX2_drawnAct 103 = .ok (.aload_n 0, 1) := by decide +kernel
theorem dX2_drawnAct_104 : decode cX2_drawnAct 104 = .ok (.getfield 21, 3) := by decide +kernel
theorem dX2_drawnAct_107 : decode cX2_drawnAct 107 = .ok (.invokevirtual 172, 3) := by decide +kernel
theorem dX2_drawnAct_110 : decode cX2_drawnAct 110 = .ok (.pop, 1) := by decide +kernel
theorem dX2_drawnAct_111 : decode cX2_drawnAct 111 = .ok (.iconst 0, 1) := by decide +kernel
theorem dX2_drawnAct_112 : decode cX2_drawnAct 112 = .ok (.ireturn, 1) := by decide +kernel
theorem dX2_drawnAct_113 : decode cX2_drawnAct 113 = .ok (.aload_n 0, 1) := by decide +kernel
theorem dX2_drawnAct_114 : decode cX2_drawnAct 114 = .ok (.getfield 21, 3) := by decide +kernel
theorem dX2_drawnAct_117 : decode cX2_drawnAct 117 = .ok (.aload_n 1, 1) := by decide +kernel
theorem dX2_drawnAct_118 : decode cX2_drawnAct 118 = .ok (.iload_n 3, 1) := by decide +kernel
theorem dX2_drawnAct_119 : decode cX2_drawnAct 119 = .ok (.invokevirtual 175, 3) := by decide +kernel
theorem dX2_drawnAct_122 : decode cX2_drawnAct 122 = .ok (.ireturn, 1) := by decide +kernel
theorem dX3_init_0 : decode cX3_init 0 = .ok (.aload_n 0, 1) := by decide +kernel
theorem dX3_init_1 : decode cX3_init 1 = .ok (.invokespecial 3, 3) := by decide +kernel
theorem dX3_init_4 : decode cX3_init 4 = .ok (.aload_n 0, 1) := by decide +kernel
theorem dX3_init_5 : decode cX3_init 5 = .ok (.bipush 25, 2) := by decide +kernel
theorem dX3_init_7 : decode cX3_init 7 = .ok (.anewarray 11, 3) := by decide +kernel
theorem dX3_init_10 : decode cX3_init 10 = .ok (.putfield 13, 3) := by decide +kernel
theorem dX3_init_13 : decode cX3_init 13 = .ok (.aload_n 0, 1) := by decide +kernel
theorem dX3_init_14 : decode cX3_init 14 = .ok (.iconst 0, 1) := by decide +kernel
theorem dX3_init_15 : decode cX3_init 15 = .ok (.putfield 17, 3) := by decide +kernel
theorem dX3_init_18 : decode cX3_init 18 = .ok (.aload_n 0, 1) := by decide +kernel
theorem dX3_init_19 : decode cX3_init 19 = .ok (.iconst 0, 1) := by decide +kernel
theorem dX3_init_20 : decode cX3_init 20 = .ok (.putfield 21, 3) := by decide +kernel
theorem dX3_init_23 : decode cX3_init 23 = .ok (.iconst 0, 1) := by decide +kernel
theorem dX3_init_24 : decode cX3_init 24 = .ok (.istore_n 1, 1) := by decide +kernel
theorem dX3_init_25 : decode cX3_init 25 = .ok (.iload_n 1, 1) := by decide +kernel
theorem dX3_init_26 : decode cX3_init 26 = .ok (.aload_n 0, 1) := by decide +kernel
theorem dX3_init_27 : decode cX3_init 27 = .ok (.getfield 13, 3) := by decide +kernel
theorem dX3_init_30 : decode cX3_init 30 = .ok (.arraylength, 1) := by decide +kernel
theorem dX3_init_31 : decode cX3_init 31 = .ok (.if_icmp .ge 22, 3) := by decide +kernel
theorem dX3_init_34 : decode cX3_init 34 = .ok (.aload_n 0, 1) := by decide +kernel
theorem dX3_init_35 : decode cX3_init 35 = .ok (.getfield 13, 3) := by decide +kernel
theorem dX3_init_38 : decode cX3_init 38 = .ok (.iload_n 1, 1) := by decide +kernel
theorem dX3_init_39 : decode cX3_init 39 = .ok (.new 11, 3) := by decide +kernel
theorem dX3_init_42 : decode cX3_init 42 = .ok (.dup, 1) := by decide +kernel
theorem dX3_init_43 : decode cX3_init 43 = .ok (.invokespecial 24, 3) := by decide +kernel
theorem dX3_init_46 : decode cX3_init 46 = .ok (.aastore, 1) := by decide +kernel
theorem dX3_init_47 : decode cX3_init 47 = .ok (.iinc 1 1, 3) := by decide +kernel
theorem dX3_init_50 : decode cX3_init 50 = .ok (.goto (-25), 3) := by decide +kernel
theorem dX3_init_53 : decode cX3_init 53 = .ok (.return_, 1) := by decide +kernel
theorem dX3_forget_0 : decode cX3_forget 0 = .ok (.aload_n 0, 1) := by decide +kernel
theorem dX3_forget_1 : decode cX3_forget 1 = .ok (.iconst 0, 1) := by decide +kernel
theorem dX3_forget_2 : decode cX3_forget 2 = .ok (.putfield 21, 3) := by decide +kernel
theorem dX3_forget_5 : decode cX3_forget 5 = .ok (.return_, 1) := by decide +kernel
theorem dX3_prepare_0 : decode cX3_prepare 0 = .ok (.aload_n 0, 1) := by decide +kernel
theorem dX3_prepare_1 : decode cX3_prepare 1 = .ok (.getfield 13, 3) := by decide +kernel
theorem dX3_prepare_4 : decode cX3_prepare 4 = .ok (.aload_n 0, 1) := by decide +kernel
theorem dX3_prepare_5 : decode cX3_prepare 5 = .ok (.getfield 17, 3) := by decide +kernel
theorem dX3_prepare_8 : decode cX3_prepare 8 = .ok (.aaload, 1) := by decide +kernel
theorem dX3_prepare_9 : decode cX3_prepare 9 = .ok (.aload_n 1, 1) := by decide +kernel
theorem dX3_prepare_10 : decode cX3_prepare 10 = .ok (.invokevirtual 25, 3) := by decide +kernel
theorem dX3_prepare_13 : decode cX3_prepare 13 = .ok (.return_, 1) := by decide +kernel
theorem dX3_commit_0 : decode cX3_commit 0 = .ok (.aload_n 0, 1) := by decide +kernel
theorem dX3_commit_1 : decode cX3_commit 1 = .ok (.aload_n 0, 1) := by decide +kernel
theorem dX3_commit_2 : decode cX3_commit 2 = .ok (.getfield 17, 3) := by decide +kernel
theorem dX3_commit_5 : decode cX3_commit 5 = .ok (.iconst 1, 1) := by decide +kernel
theorem dX3_commit_6 : decode cX3_commit 6 = .ok (.iadd, 1) := by decide +kernel
theorem dX3_commit_7 : decode cX3_commit 7 = .ok (.bipush 25, 2) := by decide +kernel
theorem dX3_commit_9 : decode cX3_commit 9 = .ok (.irem, 1) := by decide +kernel
theorem dX3_commit_10 : decode cX3_commit 10 = .ok (.putfield 17, 3) := by decide +kernel
theorem dX3_commit_13 : decode cX3_commit 13 = .ok (.aload_n 0, 1) := by decide +kernel
theorem dX3_commit_14 : decode cX3_commit 14 = .ok (.aload_n 0, 1) := by decide +kernel
theorem dX3_commit_15 : decode cX3_commit 15 = .ok (.getfield 21, 3) := by decide +kernel
theorem dX3_commit_18 : decode cX3_commit 18 = .ok (.iconst 1, 1) := by decide +kernel
theorem dX3_commit_19 : decode cX3_commit 19 = .ok (.iadd, 1) := by decide +kernel
theorem dX3_commit_20 : decode cX3_commit 20 = .ok (.bipush 24, 2) := by decide +kernel
theorem dX3_commit_22 : decode cX3_commit 22 = .ok (.invokestatic 29, 3) := by decide +kernel
theorem dX3_commit_25 : decode cX3_commit 25 = .ok (.putfield 21, 3) := by decide +kernel
theorem dX3_commit_28 : decode cX3_commit 28 = .ok (.return_, 1) := by decide +kernel
theorem dX3_takeBack_0 : decode cX3_takeBack 0 = .ok (.aload_n 0, 1) := by decide +kernel
theorem dX3_takeBack_1 : decode cX3_takeBack 1 = .ok (.getfield 21, 3) := by decide +kernel
theorem dX3_takeBack_4 : decode cX3_takeBack 4 = .ok (.iconst 1, 1) := by decide +kernel
theorem dX3_takeBack_5 : decode cX3_takeBack 5 = .ok (.if_icmp .ge 5, 3) := by decide +kernel
theorem dX3_takeBack_8 : decode cX3_takeBack 8 = .ok (.iconst 0, 1) := by decide +kernel
theorem dX3_takeBack_9 : decode cX3_takeBack 9 = .ok (.ireturn, 1) := by decide +kernel
theorem dX3_takeBack_10 : decode cX3_takeBack 10 = .ok (.aload_n 0, 1) := by decide +kernel
theorem dX3_takeBack_11 : decode cX3_takeBack 11 = .ok (.dup, 1) := by decide +kernel
theorem dX3_takeBack_12 : decode cX3_takeBack 12 = .ok (.getfield 21, 3) := by decide +kernel
theorem dX3_takeBack_15 : decode cX3_takeBack 15 = .ok (.iconst 1, 1) := by decide +kernel
theorem dX3_takeBack_16 : decode cX3_takeBack 16 = .ok (.isub, 1) := by decide +kernel
theorem dX3_takeBack_17 : decode cX3_takeBack 17 = .ok (.putfield 21, 3) := by decide +kernel
theorem dX3_takeBack_20 : decode cX3_takeBack 20 = .ok (.aload_n 0, 1) := by decide +kernel
theorem dX3_takeBack_21 : decode cX3_takeBack 21 = .ok (.aload_n 0, 1) := by decide +kernel
theorem dX3_takeBack_22 : decode cX3_takeBack 22 = .ok (.getfield 17, 3) := by decide +kernel
theorem dX3_takeBack_25 : decode cX3_takeBack 25 = .ok (.bipush 25, 2) := by decide +kernel
theorem dX3_takeBack_27 : decode cX3_takeBack 27 = .ok (.iadd, 1) := by decide +kernel
theorem dX3_takeBack_28 : decode cX3_takeBack 28 = .ok (.iconst 1, 1) := by decide +kernel
theorem dX3_takeBack_29 : decode cX3_takeBack 29 = .ok (.isub, 1) := by decide +kernel
theorem dX3_takeBack_30 : decode cX3_takeBack 30 = .ok (.bipush 25, 2) := by decide +kernel
theorem dX3_takeBack_32 : decode cX3_takeBack 32 = .ok (.irem, 1) := by decide +kernel
theorem dX3_takeBack_33 : decode cX3_takeBack 33 = .ok (.putfield 17, 3) := by decide +kernel
theorem dX3_takeBack_36 : decode cX3_takeBack 36 = .ok (.aload_n 1, 1) := by decide +kernel
theorem dX3_takeBack_37 : decode cX3_takeBack 37 = .ok (.aload_n 0, 1) := by decide +kernel
theorem dX3_takeBack_38 : decode cX3_takeBack 38 = .ok (.getfield 13, 3) := by decide +kernel
theorem dX3_takeBack_41 : decode cX3_takeBack 41 = .ok (.aload_n 0, 1) := by decide +kernel
theorem dX3_takeBack_42 : decode cX3_takeBack 42 = .ok (.getfield 17, 3) := by decide +kernel
theorem dX3_takeBack_45 : decode cX3_takeBack 45 = .ok (.aaload, 1) := by decide +kernel
theorem dX3_takeBack_46 : decode cX3_takeBack 46 = .ok (.invokevirtual 25, 3) := by decide +kernel
theorem dX3_takeBack_49 : decode cX3_takeBack 49 = .ok (.iconst 1, 1) := by decide +kernel
theorem dX3_takeBack_50 : decode cX3_takeBack 50 = .ok (.ireturn, 1) := by decide +kernel
theorem dX4_init_0 : decode cX4_init 0 = .ok (.aload_n 0, 1) := by decide +kernel
theorem dX4_init_1 : decode cX4_init 1 = .ok (.invokespecial 1, 3) := by decide +kernel
theorem dX4_init_4 : decode cX4_init 4 = .ok (.aload_n 0, 1) := by decide +kernel
theorem dX4_init_5 : decode cX4_init 5 = .ok (.new 7, 3) := by decide +kernel
theorem dX4_init_8 : decode cX4_init 8 = .ok (.dup, 1) := by decide +kernel
theorem dX4_init_9 : decode cX4_init 9 = .ok (.invokespecial 9, 3) := by decide +kernel
theorem dX4_init_12 : decode cX4_init 12 = .ok (.putfield 10, 3) := by decide +kernel
theorem dX4_init_15 : decode cX4_init 15 = .ok (.aload_n 0, 1) := by decide +kernel
theorem dX4_init_16 : decode cX4_init 16 = .ok (.new 16, 3) := by decide +kernel
theorem dX4_init_19 : decode cX4_init 19 = .ok (.dup, 1) := by decide +kernel
theorem dX4_init_20 : decode cX4_init 20 = .ok (.invokespecial 18, 3) := by decide +kernel
theorem dX4_init_23 : decode cX4_init 23 = .ok (.putfield 19, 3) := by decide +kernel
theorem dX4_init_26 : decode cX4_init 26 = .ok (.aload_n 0, 1) := by decide +kernel
theorem dX4_init_27 : decode cX4_init 27 = .ok (.iconst 0, 1) := by decide +kernel
theorem dX4_init_28 : decode cX4_init 28 = .ok (.putfield 23, 3) := by decide +kernel
theorem dX4_init_31 : decode cX4_init 31 = .ok (.return_, 1) := by decide +kernel
theorem dX4_keep_0 : decode cX4_keep 0 = .ok (.aload_n 0, 1) := by decide +kernel
theorem dX4_keep_1 : decode cX4_keep 1 = .ok (.getfield 10, 3) := by decide +kernel
theorem dX4_keep_4 : decode cX4_keep 4 = .ok (.aload_n 1, 1) := by decide +kernel
theorem dX4_keep_5 : decode cX4_keep 5 = .ok (.invokevirtual 27, 3) := by decide +kernel
theorem dX4_keep_8 : decode cX4_keep 8 = .ok (.aload_n 0, 1) := by decide +kernel
theorem dX4_keep_9 : decode cX4_keep 9 = .ok (.getfield 19, 3) := by decide +kernel
theorem dX4_keep_12 : decode cX4_keep 12 = .ok (.aload_n 2, 1) := by decide +kernel
theorem dX4_keep_13 : decode cX4_keep 13 = .ok (.invokevirtual 31, 3) := by decide +kernel
theorem dX4_keep_16 : decode cX4_keep 16 = .ok (.aload_n 0, 1) := by decide +kernel
theorem dX4_keep_17 : decode cX4_keep 17 = .ok (.iconst 1, 1) := by decide +kernel
theorem dX4_keep_18 : decode cX4_keep 18 = .ok (.putfield 23, 3) := by decide +kernel
theorem dX4_keep_21 : decode cX4_keep 21 = .ok (.return_, 1) := by decide +kernel
