theorem dX5_init_0 : decode cX5_init 0 = .ok (.aload_n 0, 1) := by decide +kernel
theorem dX5_init_1 : decode cX5_init 1 = .ok (.invokespecial 1, 3) := by decide +kernel
theorem dX5_init_4 : decode cX5_init 4 = .ok (.aload_n 0, 1) := by decide +kernel
theorem dX5_init_5 : decode cX5_init 5 = .ok (.bipush 6, 2) := by decide +kernel
theorem dX5_init_7 : decode cX5_init 7 = .ok (.newarray .int, 2) := by decide +kernel
theorem dX5_init_9 : decode cX5_init 9 = .ok (.putfield 7, 3) := by decide +kernel
theorem dX5_init_12 : decode cX5_init 12 = .ok (.aload_n 0, 1) := by decide +kernel
theorem dX5_init_13 : decode cX5_init 13 = .ok (.bipush 6, 2) := by decide +kernel
theorem dX5_init_15 : decode cX5_init 15 = .ok (.newarray .int, 2) := by decide +kernel
theorem dX5_init_17 : decode cX5_init 17 = .ok (.putfield 13, 3) := by decide +kernel
theorem dX5_init_20 : decode cX5_init 20 = .ok (.aload_n 0, 1) := by decide +kernel
theorem dX5_init_21 : decode cX5_init 21 = .ok (.bipush 6, 2) := by decide +kernel
theorem dX5_init_23 : decode cX5_init 23 = .ok (.newarray .int, 2) := by decide +kernel
theorem dX5_init_25 : decode cX5_init 25 = .ok (.putfield 16, 3) := by decide +kernel
theorem dX5_init_28 : decode cX5_init 28 = .ok (.aload_n 0, 1) := by decide +kernel
theorem dX5_init_29 : decode cX5_init 29 = .ok (.bipush 6, 2) := by decide +kernel
theorem dX5_init_31 : decode cX5_init 31 = .ok (.newarray .int, 2) := by decide +kernel
theorem dX5_init_33 : decode cX5_init 33 = .ok (.putfield 19, 3) := by decide +kernel
theorem dX5_init_36 : decode cX5_init 36 = .ok (.aload_n 0, 1) := by decide +kernel
theorem dX5_init_37 : decode cX5_init 37 = .ok (.bipush 6, 2) := by decide +kernel
theorem dX5_init_39 : decode cX5_init 39 = .ok (.newarray .int, 2) := by decide +kernel
theorem dX5_init_41 : decode cX5_init 41 = .ok (.putfield 22, 3) := by decide +kernel
theorem dX5_init_44 : decode cX5_init 44 = .ok (.aload_n 0, 1) := by decide +kernel
theorem dX5_init_45 : decode cX5_init 45 = .ok (.bipush 10, 2) := by decide +kernel
theorem dX5_init_47 : decode cX5_init 47 = .ok (.newarray .int, 2) := by decide +kernel
theorem dX5_init_49 : decode cX5_init 49 = .ok (.putfield 25, 3) := by decide +kernel
theorem dX5_init_52 : decode cX5_init 52 = .ok (.aload_n 0, 1) := by decide +kernel
theorem dX5_init_53 : decode cX5_init 53 = .ok (.iconst 3, 1) := by decide +kernel
theorem dX5_init_54 : decode cX5_init 54 = .ok (.newarray .int, 2) := by decide +kernel
theorem dX5_init_56 : decode cX5_init 56 = .ok (.putfield 28, 3) := by decide +kernel
theorem dX5_init_59 : decode cX5_init 59 = .ok (.aload_n 0, 1) := by decide +kernel
theorem dX5_init_60 : decode cX5_init 60 = .ok (.bipush 8, 2) := by decide +kernel
theorem dX5_init_62 : decode cX5_init 62 = .ok (.newarray .int, 2) := by decide +kernel
theorem dX5_init_64 : decode cX5_init 64 = .ok (.putfield 31, 3) := by decide +kernel
theorem dX5_init_67 : decode cX5_init 67 = .ok (.aload_n 0, 1) := by decide +kernel
theorem dX5_init_68 : decode cX5_init 68 = .ok (.bipush 6, 2) := by decide +kernel
theorem dX5_init_70 : decode cX5_init 70 = .ok (.newarray .int, 2) := by decide +kernel
theorem dX5_init_72 : decode cX5_init 72 = .ok (.putfield 34, 3) := by decide +kernel
theorem dX5_init_75 : decode cX5_init 75 = .ok (.aload_n 0, 1) := by decide +kernel
theorem dX5_init_76 : decode cX5_init 76 = .ok (.bipush 6, 2) := by decide +kernel
theorem dX5_init_78 : decode cX5_init 78 = .ok (.newarray .int, 2) := by decide +kernel
theorem dX5_init_80 : decode cX5_init 80 = .ok (.putfield 37, 3) := by decide +kernel
theorem dX5_init_83 : decode cX5_init 83 = .ok (.aload_n 0, 1) := by decide +kernel
theorem dX5_init_84 : decode cX5_init 84 = .ok (.bipush 6, 2) := by decide +kernel
theorem dX5_init_86 : decode cX5_init 86 = .ok (.newarray .int, 2) := by decide +kernel
theorem dX5_init_88 : decode cX5_init 88 = .ok (.putfield 40, 3) := by decide +kernel
theorem dX5_init_91 : decode cX5_init 91 = .ok (.aload_n 0, 1) := by decide +kernel
theorem dX5_init_92 : decode cX5_init 92 = .ok (.bipush 6, 2) := by decide +kernel
theorem dX5_init_94 : decode cX5_init 94 = .ok (.newarray .int, 2) := by decide +kernel
theorem dX5_init_96 : decode cX5_init 96 = .ok (.putfield 43, 3) := by decide +kernel
theorem dX5_init_99 : decode cX5_init 99 = .ok (.aload_n 0, 1) := by decide +kernel
theorem dX5_init_100 : decode cX5_init 100 = .ok (.bipush 6, 2) := by decide +kernel
theorem dX5_init_102 : decode cX5_init 102 = .ok (.newarray .int, 2) := by decide +kernel
theorem dX5_init_104 : decode cX5_init 104 = .ok (.putfield 46, 3) := by decide +kernel
theorem dX5_init_107 : decode cX5_init 107 = .ok (.aload_n 0, 1) := by decide +kernel
theorem dX5_init_108 : decode cX5_init 108 = .ok (.bipush 96, 2) := by decide +kernel
theorem dX5_init_110 : decode cX5_init 110 = .ok (.newarray .int, 2) := by decide +kernel
theorem dX5_init_112 : decode cX5_init 112 = .ok (.putfield 49, 3) := by decide +kernel
theorem dX5_init_115 : decode cX5_init 115 = .ok (.aload_n 0, 1) := by decide +kernel
theorem dX5_init_116 : decode cX5_init 116 = .ok (.bipush 6, 2) := by decide +kernel
theorem dX5_init_118 : decode cX5_init 118 = .ok (.newarray .int, 2) := by decide +kernel
theorem dX5_init_120 : decode cX5_init 120 = .ok (.putfield 52, 3) := by decide +kernel
theorem dX5_init_123 : decode cX5_init 123 = .ok (.aload_n 0, 1) := by decide +kernel
theorem dX5_init_124 : decode cX5_init 124 = .ok (.bipush 12, 2) := by decide +kernel
theorem dX5_init_126 : decode cX5_init 126 = .ok (.newarray .int, 2) := by decide +kernel
theorem dX5_init_128 : decode cX5_init 128 = .ok (.putfield 55, 3) := by decide +kernel
theorem dX5_init_131 : decode cX5_init 131 = .ok (.aload_n 0, 1) := by decide +kernel
theorem dX5_init_132 : decode cX5_init 132 = .ok (.bipush 7, 2) := by decide +kernel
theorem dX5_init_134 : decode cX5_init 134 = .ok (.newarray .int, 2) := by decide +kernel
theorem dX5_init_136 : decode cX5_init 136 = .ok (.putfield 58, 3) := by decide +kernel
theorem dX5_init_139 : decode cX5_init 139 = .ok (.aload_n 0, 1) := by decide +kernel
theorem dX5_init_140 : decode cX5_init 140 = .ok (.bipush 41, 2) := by decide +kernel
theorem dX5_init_142 : decode cX5_init 142 = .ok (.newarray .int, 2) := by decide +kernel
theorem dX5_init_144 : decode cX5_init 144 = .ok (.putfield 61, 3) := by decide +kernel
theorem dX5_init_147 : decode cX5_init 147 = .ok (.aload_n 0, 1) := by decide +kernel
theorem dX5_init_148 : decode cX5_init 148 = .ok (.bipush 41, 2) := by decide +kernel
theorem dX5_init_150 : decode cX5_init 150 = .ok (.newarray .int, 2) := by decide +kernel
theorem dX5_init_152 : decode cX5_init 152 = .ok (.putfield 64, 3) := by decide +kernel
theorem dX5_init_155 : decode cX5_init 155 = .ok (.aload_n 0, 1) := by decide +kernel
theorem dX5_init_156 : decode cX5_init 156 = .ok (.bipush 6, 2) := by decide +kernel
theorem dX5_init_158 : decode cX5_init 158 = .ok (.newarray .int, 2) := by decide +kernel
theorem dX5_init_160 : decode cX5_init 160 = .ok (.putfield 67, 3) := by decide +kernel
theorem dX5_init_163 : decode cX5_init 163 = .ok (.aload_n 0, 1) := by decide +kernel
theorem dX5_init_164 : decode cX5_init 164 = .ok (.bipush 6, 2) := by decide +kernel
theorem dX5_init_166 : decode cX5_init 166 = .ok (.newarray .int, 2) := by decide +kernel
theorem dX5_init_168 : decode cX5_init 168 = .ok (.putfield 70, 3) := by decide +kernel
theorem dX5_init_171 : decode cX5_init 171 = .ok (.aload_n 0, 1) := by decide +kernel
theorem dX5_init_172 : decode cX5_init 172 = .ok (.getfield 25, 3) := by decide +kernel
theorem dX5_init_175 : decode cX5_init 175 = .ok (.iconst 0, 1) := by decide +kernel
theorem dX5_init_176 : decode cX5_init 176 = .ok (.bipush 40, 2) := by decide +kernel
theorem dX5_init_178 : decode cX5_init 178 = .ok (.iastore, 1) := by decide +kernel
theorem dX5_init_179 : decode cX5_init 179 = .ok (.aload_n 0, 1) := by decide +kernel
theorem dX5_init_180 : decode cX5_init 180 = .ok (.getfield 25, 3) := by decide +kernel
theorem dX5_init_183 : decode cX5_init 183 = .ok (.iconst 1, 1) := by decide +kernel
theorem dX5_init_184 : decode cX5_init 184 = .ok (.bipush 90, 2) := by decide +kernel
theorem dX5_init_186 : decode cX5_init 186 = .ok (.iastore, 1) := by decide +kernel
theorem dX5_init_187 : decode cX5_init 187 = .ok (.aload_n 0, 1) := by decide +kernel
theorem dX5_init_188 : decode cX5_init 188 = .ok (.getfield 25, 3) := by decide +kernel
theorem dX5_init_191 : decode cX5_init 191 = .ok (.iconst 2, 1) := by decide +kernel
theorem dX5_init_192 : decode cX5_init 192 = .ok (.bipush 10, 2) := by decide +kernel
theorem dX5_init_194 : decode cX5_init 194 = .ok (.iastore, 1) := by decide +kernel
theorem dX5_init_195 : decode cX5_init 195 = .ok (.aload_n 0, 1) := by decide +kernel
theorem dX5_init_196 : decode cX5_init 196 = .ok (.getfield 25, 3) := by decide +kernel
theorem dX5_init_199 : decode cX5_init 199 = .ok (.iconst 3, 1) := by decide +kernel
theorem dX5_init_200 : decode cX5_init 200 = .ok (.bipush 10, 2) := by decide +kernel
theorem dX5_init_202 : decode cX5_init 202 = .ok (.iastore, 1) := by decide +kernel
theorem dX5_init_203 : decode cX5_init 203 = .ok (.aload_n 0, 1) := by decide +kernel
theorem dX5_init_204 : decode cX5_init 204 = .ok (.getfield 25, 3) := by decide +kernel
theorem dX5_init_207 : decode cX5_init 207 = .ok (.iconst 4, 1) := by decide +kernel
theorem dX5_init_208 : decode cX5_init 208 = .ok (.bipush 10, 2) := by decide +kernel
theorem dX5_init_210 : decode cX5_init 210 = .ok (.iastore, 1) := by decide +kernel
theorem dX5_init_211 : decode cX5_init 211 = .ok (.aload_n 0, 1) := by decide +kernel
theorem dX5_init_212 : decode cX5_init 212 = .ok (.getfield 25, 3) := by decide +kernel
theorem dX5_init_215 : decode cX5_init 215 = .ok (.iconst 5, 1) := by decide +kernel
theorem dX5_init_216 : decode cX5_init 216 = .ok (.iconst 4, 1) := by decide +kernel
theorem dX5_init_217 : decode cX5_init 217 = .ok (.iastore, 1) := by decide +kernel
theorem dX5_init_218 : decode cX5_init 218 = .ok (.aload_n 0, 1) := by decide +kernel
theorem dX5_init_219 : decode cX5_init 219 = .ok (.getfield 25, 3) := by decide +kernel
theorem dX5_init_222 : decode cX5_init 222 = .ok (.bipush 7, 2) := by decide +kernel
theorem dX5_init_224 : decode cX5_init 224 = .ok (.iconst 1, 1) := by decide +kernel
theorem dX5_init_225 : decode cX5_init 225 = .ok (.iastore, 1) := by decide +kernel
theorem dX5_init_226 : decode cX5_init 226 = .ok (.aload_n 0, 1) := by decide +kernel
theorem dX5_init_227 : decode cX5_init 227 = .ok (.getfield 25, 3) := by decide +kernel
theorem dX5_init_230 : decode cX5_init 230 = .ok (.bipush 8, 2) := by decide +kernel
theorem dX5_init_232 : decode cX5_init 232 = .ok (.iconst 1, 1) := by decide +kernel
theorem dX5_init_233 : decode cX5_init 233 = .ok (.iastore, 1) := by decide +kernel
theorem dX5_init_234 : decode cX5_init 234 = .ok (.return_, 1) := by decide +kernel
theorem dX5_no_0 : decode cX5_no 0 = .ok (.aload_n 0, 1) := by decide +kernel
theorem dX5_no_1 : decode cX5_no 1 = .ok (.getfield 58, 3) := by decide +kernel
theorem dX5_no_4 : decode cX5_no 4 = .ok (.iload_n 1, 1) := by decide +kernel
theorem dX5_no_5 : decode cX5_no 5 = .ok (.ineg, 1) := by decide +kernel
theorem dX5_no_6 : decode cX5_no 6 = .ok (.dup2, 1) := by decide +kernel
theorem dX5_no_7 : decode cX5_no 7 = .ok (.iaload, 1) := by decide +kernel
theorem dX5_no_8 : decode cX5_no 8 = .ok (.iconst 1, 1) := by decide +kernel
theorem dX5_no_9 : decode cX5_no 9 = .ok (.iadd, 1) := by decide +kernel
theorem dX5_no_10 : decode cX5_no 10 = .ok (.iastore, 1) := by decide +kernel
theorem dX5_no_11 : decode cX5_no 11 = .ok (.iload_n 1, 1) := by decide +kernel
theorem dX5_no_12 : decode cX5_no 12 = .ok (.ireturn, 1) := by decide +kernel
theorem dX5_noFar_0 : decode cX5_noFar 0 = .ok (.ldc2_w 73, 3) := by decide +kernel
theorem dX5_noFar_3 : decode cX5_noFar 3 = .ok (.aload_n 0, 1) := by decide +kernel
theorem dX5_noFar_4 : decode cX5_noFar 4 = .ok (.iload_n 1, 1) := by decide +kernel
theorem dX5_noFar_5 : decode cX5_noFar 5 = .ok (.invokevirtual 75, 3) := by decide +kernel
theorem dX5_noFar_8 : decode cX5_noFar 8 = .ok (.i2l, 1) := by decide +kernel
theorem dX5_noFar_9 : decode cX5_noFar 9 = .ok (.lsub, 1) := by decide +kernel
theorem dX5_noFar_10 : decode cX5_noFar 10 = .ok (.lreturn, 1) := by decide +kernel
theorem dX5_within_0 : decode cX5_within 0 = .ok (.iload_n 0, 1) := by decide +kernel
theorem dX5_within_1 : decode cX5_within 1 = .ok (.iload_n 1, 1) := by decide +kernel
theorem dX5_within_2 : decode cX5_within 2 = .ok (.if_icmp .lt 12, 3) := by decide +kernel
theorem dX5_within_5 : decode cX5_within 5 = .ok (.iload_n 0, 1) := by decide +kernel
theorem dX5_within_6 : decode cX5_within 6 = .ok (.iload_n 2, 1) := by decide +kernel
theorem dX5_within_7 : decode cX5_within 7 = .ok (.if_icmp .gt 7, 3) := by decide +kernel
theorem dX5_within_10 : decode cX5_within 10 = .ok (.iconst 1, 1) := by decide +kernel
theorem dX5_within_11 : decode cX5_within 11 = .ok (.goto 4, 3) := by decide +kernel
theorem dX5_within_14 : decode cX5_within 14 = .ok (.iconst 0, 1) := by decide +kernel
theorem dX5_within_15 : decode cX5_within 15 = .ok (.ireturn, 1) := by decide +kernel
theorem dX5_isFloor_0 : decode cX5_isFloor 0 = .ok (.iload_n 1, 1) := by decide +kernel
theorem dX5_isFloor_1 : decode cX5_isFloor 1 = .ok (.iconst 0, 1) := by decide +kernel
theorem dX5_isFloor_2 : decode cX5_isFloor 2 = .ok (.aload_n 0, 1) := by decide +kernel
theorem dX5_isFloor_3 : decode cX5_isFloor 3 = .ok (.getfield 79, 3) := by decide +kernel
theorem dX5_isFloor_6 : decode cX5_isFloor 6 = .ok (.iconst 1, 1) := by decide +kernel
theorem dX5_isFloor_7 : decode cX5_isFloor 7 = .ok (.isub, 1) := by decide +kernel
theorem dX5_isFloor_8 : decode cX5_isFloor 8 = .ok (.invokestatic 83, 3) := by decide +kernel
theorem dX5_isFloor_11 : decode cX5_isFloor 11 = .ok (.ireturn, 1) := by decide +kernel
theorem dX5_letter_0 : decode cX5_letter 0 = .ok (.iload_n 1, 1) := by decide +kernel
theorem dX5_letter_1 : decode cX5_letter 1 = .ok (.ifCond .ge 10, 3) := by decide +kernel
theorem dX5_letter_4 : decode cX5_letter 4 = .ok (.aload_n 0, 1) := by decide +kernel
theorem dX5_letter_5 : decode cX5_letter 5 = .ok (.bipush (-4), 2) := by decide +kernel
theorem dX5_letter_7 : decode cX5_letter 7 = .ok (.invokevirtual 75, 3) := by decide +kernel
theorem dX5_letter_10 : decode cX5_letter 10 = .ok (.ireturn, 1) := by decide +kernel
theorem dX5_letter_11 : decode cX5_letter 11 = .ok (.iload_n 1, 1) := by decide +kernel
theorem dX5_letter_12 : decode cX5_letter 12 = .ok (.sipush 255, 3) := by decide +kernel
theorem dX5_letter_15 : decode cX5_letter 15 = .ok (.if_icmp .gt 12, 3) := by decide +kernel
theorem dX5_letter_18 : decode cX5_letter 18 = .ok (.aload_n 0, 1) := by decide +kernel
theorem dX5_letter_19 : decode cX5_letter 19 = .ok (.getfield 87, 3) := by decide +kernel
theorem dX5_letter_22 : decode cX5_letter 22 = .ok (.bipush 96, 2) := by decide +kernel
theorem dX5_letter_24 : decode cX5_letter 24 = .ok (.if_icmp .ne 10, 3) := by decide +kernel
theorem dX5_letter_27 : decode cX5_letter 27 = .ok (.aload_n 0, 1) := by decide +kernel
theorem dX5_letter_28 : decode cX5_letter 28 = .ok (.bipush (-6), 2) := by decide +kernel
theorem dX5_letter_30 : decode cX5_letter 30 = .ok (.invokevirtual 75, 3) := by decide +kernel
theorem dX5_letter_33 : decode cX5_letter 33 = .ok (.ireturn, 1) := by decide +kernel
theorem dX5_letter_34 : decode cX5_letter 34 = .ok (.aload_n 0, 1) := by decide +kernel
theorem dX5_letter_35 : decode cX5_letter 35 = .ok (.getfield 49, 3) := by decide +kernel
theorem dX5_letter_38 : decode cX5_letter 38 = .ok (.aload_n 0, 1) := by decide +kernel
theorem dX5_letter_39 : decode cX5_letter 39 = .ok (.dup, 1) := by decide +kernel
theorem dX5_letter_40 : decode cX5_letter 40 = .ok (.getfield 87, 3) := by decide +kernel
theorem dX5_letter_43 : decode cX5_letter 43 = .ok (.dup_x1, 1) := by decide +kernel
theorem dX5_letter_44 : decode cX5_letter 44 = .ok (.iconst 1, 1) := by decide +kernel
theorem dX5_letter_45 : decode cX5_letter 45 = .ok (.iadd, 1) := by decide +kernel
theorem dX5_letter_46 : decode cX5_letter 46 = .ok (.putfield 87, 3) := by decide +kernel
theorem dX5_letter_49 : decode cX5_letter 49 = .ok (.iload_n 1, 1) := by decide +kernel
theorem dX5_letter_50 : decode cX5_letter 50 = .ok (.iastore, 1) := by decide +kernel
theorem dX5_letter_51 : decode cX5_letter 51 = .ok (.aload_n 0, 1) := by decide +kernel
theorem dX5_letter_52 : decode cX5_letter 52 = .ok (.getfield 87, 3) := by decide +kernel
theorem dX5_letter_55 : decode cX5_letter 55 = .ok (.ireturn, 1) := by decide +kernel
theorem dX5_is_0 : decode cX5_is 0 = .ok (.aload_n 0, 1) := by decide +kernel
theorem dX5_is_1 : decode cX5_is 1 = .ok (.getfield 90, 3) := by decide +kernel
theorem dX5_is_4 : decode cX5_is 4 = .ok (.aload_n 0, 1) := by decide +kernel
theorem dX5_is_5 : decode cX5_is 5 = .ok (.getfield 87, 3) := by decide +kernel
theorem dX5_is_8 : decode cX5_is 8 = .ok (.if_icmp .eq 16, 3) := by decide +kernel
theorem dX5_is_11 : decode cX5_is 11 = .ok (.aload_n 0, 1) := by decide +kernel
theorem dX5_is_12 : decode cX5_is 12 = .ok (.getfield 49, 3) := by decide +kernel
theorem dX5_is_15 : decode cX5_is 15 = .ok (.aload_n 0, 1) := by decide +kernel
theorem dX5_is_16 : decode cX5_is 16 = .ok (.getfield 90, 3) := by decide +kernel
theorem dX5_is_19 : decode cX5_is 19 = .ok (.iaload, 1) := by decide +kernel
theorem dX5_is_20 : decode cX5_is 20 = .ok (.iload_n 1, 1) := by decide +kernel
theorem dX5_is_21 : decode cX5_is 21 = .ok (.if_icmp .eq 5, 3) := by decide +kernel
theorem dX5_is_24 : decode cX5_is 24 = .ok (.iconst 0, 1) := by decide +kernel
theorem dX5_is_25 : decode cX5_is 25 = .ok (.ireturn, 1) := by decide +kernel
theorem dX5_is_26 : decode cX5_is 26 = .ok (.aload_n 0, 1) := by decide +kernel
theorem dX5_is_27 : decode cX5_is 27 = .ok (.dup, 1) := by decide +kernel
theorem dX5_is_28 : decode cX5_is 28 = .ok (.getfield 90, 3) := by decide +kernel
theorem dX5_is_31 : decode cX5_is 31 = .ok (.iconst 1, 1) := by decide +kernel
theorem dX5_is_32 : decode cX5_is 32 = .ok (.iadd, 1) := by decide +kernel
theorem dX5_is_33 : decode cX5_is 33 = .ok (.putfield 90, 3) := by decide +kernel
theorem dX5_is_36 : decode cX5_is 36 = .ok (.iconst 1, 1) := by decide +kernel
theorem dX5_is_37 : decode cX5_is 37 = .ok (.ireturn, 1) := by decide +kernel
theorem dX5_digits_0 : decode cX5_digits 0 = .ok (.iload_n 1, 1) := by decide +kernel
theorem dX5_digits_1 : decode cX5_digits 1 = .ok (.istore_n 3, 1) := by decide +kernel
theorem dX5_digits_2 : decode cX5_digits 2 = .ok (.iload_n 3, 1) := by decide +kernel
theorem dX5_digits_3 : decode cX5_digits 3 = .ok (.iload_n 1, 1) := by decide +kernel
theorem dX5_digits_4 : decode cX5_digits 4 = .ok (.iload_n 2, 1) := by decide +kernel
theorem dX5_digits_5 : decode cX5_digits 5 = .ok (.iadd, 1) := by decide +kernel
theorem dX5_digits_6 : decode cX5_digits 6 = .ok (.if_icmp .ge 75, 3) := by decide +kernel
theorem dX5_digits_9 : decode cX5_digits 9 = .ok (.aload_n 0, 1) := by decide +kernel
theorem dX5_digits_10 : decode cX5_digits 10 = .ok (.getfield 90, 3) := by decide +kernel
theorem dX5_digits_13 : decode cX5_digits 13 = .ok (.aload_n 0, 1) := by decide +kernel
theorem dX5_digits_14 : decode cX5_digits 14 = .ok (.getfield 87, 3) := by decide +kernel
theorem dX5_digits_17 : decode cX5_digits 17 = .ok (.if_icmp .eq 31, 3) := by decide +kernel
theorem dX5_digits_20 : decode cX5_digits 20 = .ok (.aload_n 0, 1) := by decide +kernel
theorem dX5_digits_21 : decode cX5_digits 21 = .ok (.getfield 49, 3) := by decide +kernel
theorem dX5_digits_24 : decode cX5_digits 24 = .ok (.aload_n 0, 1) := by decide +kernel
theorem dX5_digits_25 : decode cX5_digits 25 = .ok (.getfield 90, 3) := by decide +kernel
theorem dX5_digits_28 : decode cX5_digits 28 = .ok (.iaload, 1) := by decide +kernel
theorem dX5_digits_29 : decode cX5_digits 29 = .ok (.bipush 48, 2) := by decide +kernel
theorem dX5_digits_31 : decode cX5_digits 31 = .ok (.if_icmp .lt 17, 3) := by decide +kernel
theorem dX5_digits_34 : decode cX5_digits 34 = .ok (.aload_n 0, 1) := by decide +kernel
theorem dX5_digits_35 : decode cX5_digits 35 = .ok (.getfield 49, 3) := by decide +kernel
theorem dX5_digits_38 : decode cX5_digits 38 = .ok (.aload_n 0, 1) := by decide +kernel
theorem dX5_digits_39 : decode cX5_digits 39 = .ok (.getfield 90, 3) := by decide +kernel
theorem dX5_digits_42 : decode cX5_digits 42 = .ok (.iaload, 1) := by decide +kernel
theorem dX5_digits_43 : decode cX5_digits 43 = .ok (.bipush 57, 2) := by decide +kernel
theorem dX5_digits_45 : decode cX5_digits 45 = .ok (.if_icmp .le 5, 3) := by decide +kernel
theorem dX5_digits_48 : decode cX5_digits 48 = .ok (.iconst 0, 1) := by decide +kernel
theorem dX5_digits_49 : decode cX5_digits 49 = .ok (.ireturn, 1) := by decide +kernel
theorem dX5_digits_50 : decode cX5_digits 50 = .ok (.aload_n 0, 1) := by decide +kernel
theorem dX5_digits_51 : decode cX5_digits 51 = .ok (.getfield 52, 3) := by decide +kernel
theorem dX5_digits_54 : decode cX5_digits 54 = .ok (.iload_n 3, 1) := by decide +kernel
theorem dX5_digits_55 : decode cX5_digits 55 = .ok (.aload_n 0, 1) := by decide +kernel
theorem dX5_digits_56 : decode cX5_digits 56 = .ok (.getfield 49, 3) := by decide +kernel
theorem dX5_digits_59 : decode cX5_digits 59 = .ok (.aload_n 0, 1) := by decide +kernel
theorem dX5_digits_60 : decode cX5_digits 60 = .ok (.dup, 1) := by decide +kernel
theorem dX5_digits_61 : decode cX5_digits 61 = .ok (.getfield 90, 3) := by decide +kernel
theorem dX5_digits_64 : decode cX5_digits 64 = .ok (.dup_x1, 1) := by decide +kernel
theorem dX5_digits_65 : decode cX5_digits 65 = .ok (.iconst 1, 1) := by decide +kernel
theorem dX5_digits_66 : decode cX5_digits 66 = .ok (.iadd, 1) := by decide +kernel
theorem dX5_digits_67 : decode cX5_digits 67 = .ok (.putfield 90, 3) := by decide +kernel
theorem dX5_digits_70 : decode cX5_digits 70 = .ok (.iaload, 1) := by decide +kernel
theorem dX5_digits_71 : decode cX5_digits 71 = .ok (.bipush 48, 2) := by decide +kernel
theorem dX5_digits_73 : decode cX5_digits 73 = .ok (.isub, 1) := by decide +kernel
theorem dX5_digits_74 : decode cX5_digits 74 = .ok (.iastore, 1) := by decide +kernel
theorem dX5_digits_75 : decode cX5_digits 75 = .ok (.iinc 3 1, 3) := by decide +kernel
theorem dX5_digits_78 : decode cX5_digits 78 = .ok (.goto (-76), 3) := by decide +kernel
theorem dX5_digits_81 : decode cX5_digits 81 = .ok (.iconst 1, 1) := by decide +kernel
theorem dX5_digits_82 : decode cX5_digits 82 = .ok (.ireturn, 1) := by decide +kernel
theorem dX5_two_0 : decode cX5_two 0 = .ok (.bipush 10, 2) := by decide +kernel
theorem dX5_two_2 : decode cX5_two 2 = .ok (.aload_n 0, 1) := by decide +kernel
theorem dX5_two_3 : decode cX5_two 3 = .ok (.getfield 52, 3) := by decide +kernel
theorem dX5_two_6 : decode cX5_two 6 = .ok (.iload_n 1, 1) := by decide +kernel
theorem dX5_two_7 : decode cX5_two 7 = .ok (.iaload, 1) := by decide +kernel
theorem dX5_two_8 : decode cX5_two 8 = .ok (.imul, 1) := by decide +kernel
theorem dX5_two_9 : decode cX5_two 9 = .ok (.aload_n 0, 1) := by decide +kernel
theorem dX5_two_10 : decode cX5_two 10 = .ok (.getfield 52, 3) := by decide +kernel
theorem dX5_two_13 : decode cX5_two 13 = .ok (.iload_n 1, 1) := by decide +kernel
theorem dX5_two_14 : decode cX5_two 14 = .ok (.iconst 1, 1) := by decide +kernel
theorem dX5_two_15 : decode cX5_two 15 = .ok (.iadd, 1) := by decide +kernel
theorem dX5_two_16 : decode cX5_two 16 = .ok (.iaload, 1) := by decide +kernel
theorem dX5_two_17 : decode cX5_two 17 = .ok (.iadd, 1) := by decide +kernel
theorem dX5_two_18 : decode cX5_two 18 = .ok (.ireturn, 1) := by decide +kernel
theorem dX5_statement_0 : decode cX5_statement 0 = .ok (.aload_n 0, 1) := by decide +kernel
theorem dX5_statement_1 : decode cX5_statement 1 = .ok (.bipush 102, 2) := by decide +kernel
theorem dX5_statement_3 : decode cX5_statement 3 = .ok (.invokevirtual 93, 3) := by decide +kernel
theorem dX5_statement_6 : decode cX5_statement 6 = .ok (.ifCond .eq 182, 3) := by decide +kernel
theorem dX5_statement_9 : decode cX5_statement 9 = .ok (.aload_n 0, 1) := by decide +kernel
theorem dX5_statement_10 : decode cX5_statement 10 = .ok (.getfield 90, 3) := by decide +kernel
theorem dX5_statement_13 : decode cX5_statement 13 = .ok (.aload_n 0, 1) := by decide +kernel
theorem dX5_statement_14 : decode cX5_statement 14 = .ok (.getfield 87, 3) := by decide +kernel
theorem dX5_statement_17 : decode cX5_statement 17 = .ok (.if_icmp .ge 32, 3) := by decide +kernel
theorem dX5_statement_20 : decode cX5_statement 20 = .ok (.aload_n 0, 1) := by decide +kernel
theorem dX5_statement_21 : decode cX5_statement 21 = .ok (.getfield 49, 3) := by decide +kernel
theorem dX5_statement_24 : decode cX5_statement 24 = .ok (.aload_n 0, 1) := by decide +kernel
theorem dX5_statement_25 : decode cX5_statement 25 = .ok (.getfield 90, 3) := by decide +kernel
theorem dX5_statement_28 : decode cX5_statement 28 = .ok (.iaload, 1) := by decide +kernel
theorem dX5_statement_29 : decode cX5_statement 29 = .ok (.ifCond .le 20, 3) := by decide +kernel
theorem dX5_statement_32 : decode cX5_statement 32 = .ok (.ldc 97, 2) := by decide +kernel
theorem dX5_statement_34 : decode cX5_statement 34 = .ok (.aload_n 0, 1) := by decide +kernel
theorem dX5_statement_35 : decode cX5_statement 35 = .ok (.getfield 49, 3) := by decide +kernel
theorem dX5_statement_38 : decode cX5_statement 38 = .ok (.aload_n 0, 1) := by decide +kernel
theorem dX5_statement_39 : decode cX5_statement 39 = .ok (.getfield 90, 3) := by decide +kernel
theorem dX5_statement_42 : decode cX5_statement 42 = .ok (.iaload, 1) := by decide +kernel
theorem dX5_statement_43 : decode cX5_statement 43 = .ok (.invokevirtual 99, 3) := by decide +kernel
theorem dX5_statement_46 : decode cX5_statement 46 = .ok (.goto 4, 3) := by decide +kernel
theorem dX5_statement_49 : decode cX5_statement 49 = .ok (.iconst (-1), 1) := by decide +kernel
theorem dX5_statement_50 : decode cX5_statement 50 = .ok (.istore_n 2, 1) := by decide +kernel
theorem dX5_statement_51 : decode cX5_statement 51 = .ok (.iload_n 2, 1) := by decide +kernel
theorem dX5_statement_52 : decode cX5_statement 52 = .ok (.ifCond .ge 5, 3) := by decide +kernel
theorem dX5_statement_55 : decode cX5_statement 55 = .ok (.iconst (-1), 1) := by decide +kernel
theorem dX5_statement_56 : decode cX5_statement 56 = .ok (.ireturn, 1) := by decide +kernel
theorem dX5_statement_57 : decode cX5_statement 57 = .ok (.aload_n 0, 1) := by decide +kernel
theorem dX5_statement_58 : decode cX5_statement 58 = .ok (.dup, 1) := by decide +kernel
theorem dX5_statement_59 : decode cX5_statement 59 = .ok (.getfield 90, 3) := by decide +kernel
theorem dX5_statement_62 : decode cX5_statement 62 = .ok (.iconst 1, 1) := by decide +kernel
theorem dX5_statement_63 : decode cX5_statement 63 = .ok (.iadd, 1) := by decide +kernel
theorem dX5_statement_64 : decode cX5_statement 64 = .ok (.putfield 90, 3) := by decide +kernel
theorem dX5_statement_67 : decode cX5_statement 67 = .ok (.aload_n 0, 1) := by decide +kernel
theorem dX5_statement_68 : decode cX5_statement 68 = .ok (.iconst 0, 1) := by decide +kernel
theorem dX5_statement_69 : decode cX5_statement 69 = .ok (.iconst 4, 1) := by decide +kernel
theorem dX5_statement_70 : decode cX5_statement 70 = .ok (.invokevirtual 104, 3) := by decide +kernel
theorem dX5_statement_73 : decode cX5_statement 73 = .ok (.ifCond .ne 5, 3) := by decide +kernel
theorem dX5_statement_76 : decode cX5_statement 76 = .ok (.iconst (-1), 1) := by decide +kernel
theorem dX5_statement_77 : decode cX5_statement 77 = .ok (.ireturn, 1) := by decide +kernel
theorem dX5_statement_78 : decode cX5_statement 78 = .ok (.iload_n 1, 1) := by decide +kernel
theorem dX5_statement_79 : decode cX5_statement 79 = .ok (.ifCond .ne 5, 3) := by decide +kernel
theorem dX5_statement_82 : decode cX5_statement 82 = .ok (.iconst 1, 1) := by decide +kernel
theorem dX5_statement_83 : decode cX5_statement 83 = .ok (.ireturn, 1) := by decide +kernel
theorem dX5_statement_84 : decode cX5_statement 84 = .ok (.aload_n 0, 1) := by decide +kernel
theorem dX5_statement_85 : decode cX5_statement 85 = .ok (.iconst 1, 1) := by decide +kernel
theorem dX5_statement_86 : decode cX5_statement 86 = .ok (.invokevirtual 108, 3) := by decide +kernel
theorem dX5_statement_89 : decode cX5_statement 89 = .ok (.iconst 1, 1) := by decide +kernel
theorem dX5_statement_90 : decode cX5_statement 90 = .ok (.bipush 20, 2) := by decide +kernel
theorem dX5_statement_92 : decode cX5_statement 92 = .ok (.invokestatic 83, 3) := by decide +kernel
theorem dX5_statement_95 : decode cX5_statement 95 = .ok (.ifCond .eq 12, 3) := by decide +kernel
theorem dX5_statement_98 : decode cX5_statement 98 = .ok (.aload_n 0, 1) := by decide +kernel
theorem dX5_statement_99 : decode cX5_statement 99 = .ok (.getfield 79, 3) := by decide +kernel
theorem dX5_statement_102 : decode cX5_statement 102 = .ok (.bipush 6, 2) := by decide +kernel
theorem dX5_statement_104 : decode cX5_statement 104 = .ok (.if_icmp .ne 5, 3) := by decide +kernel
theorem dX5_statement_107 : decode cX5_statement 107 = .ok (.iconst 0, 1) := by decide +kernel
theorem dX5_statement_108 : decode cX5_statement 108 = .ok (.ireturn, 1) := by decide +kernel
theorem dX5_statement_109 : decode cX5_statement 109 = .ok (.aload_n 0, 1) := by decide +kernel
theorem dX5_statement_110 : decode cX5_statement 110 = .ok (.getfield 7, 3) := by decide +kernel
theorem dX5_statement_113 : decode cX5_statement 113 = .ok (.aload_n 0, 1) := by decide +kernel
theorem dX5_statement_114 : decode cX5_statement 114 = .ok (.getfield 79, 3) := by decide +kernel
theorem dX5_statement_117 : decode cX5_statement 117 = .ok (.iload_n 2, 1) := by decide +kernel
theorem dX5_statement_118 : decode cX5_statement 118 = .ok (.iastore, 1) := by decide +kernel
theorem dX5_statement_119 : decode cX5_statement 119 = .ok (.aload_n 0, 1) := by decide +kernel
theorem dX5_statement_120 : decode cX5_statement 120 = .ok (.getfield 13, 3) := by decide +kernel
theorem dX5_statement_123 : decode cX5_statement 123 = .ok (.aload_n 0, 1) := by decide +kernel
theorem dX5_statement_124 : decode cX5_statement 124 = .ok (.getfield 79, 3) := by decide +kernel
theorem dX5_statement_127 : decode cX5_statement 127 = .ok (.aload_n 0, 1) := by decide +kernel
theorem dX5_statement_128 : decode cX5_statement 128 = .ok (.getfield 52, 3) := by decide +kernel
theorem dX5_statement_131 : decode cX5_statement 131 = .ok (.iconst 0, 1) := by decide +kernel
theorem dX5_statement_132 : decode cX5_statement 132 = .ok (.iaload, 1) := by decide +kernel
theorem dX5_statement_133 : decode cX5_statement 133 = .ok (.iastore, 1) := by decide +kernel
theorem dX5_statement_134 : decode cX5_statement 134 = .ok (.aload_n 0, 1) := by decide +kernel
theorem dX5_statement_135 : decode cX5_statement 135 = .ok (.getfield 16, 3) := by decide +kernel
theorem dX5_statement_138 : decode cX5_statement 138 = .ok (.aload_n 0, 1) := by decide +kernel
theorem dX5_statement_139 : decode cX5_statement 139 = .ok (.getfield 79, 3) := by decide +kernel
theorem dX5_statement_142 : decode cX5_statement 142 = .ok (.aload_n 0, 1) := by decide +kernel
theorem dX5_statement_143 : decode cX5_statement 143 = .ok (.iconst 1, 1) := by decide +kernel
theorem dX5_statement_144 : decode cX5_statement 144 = .ok (.invokevirtual 108, 3) := by decide +kernel
theorem dX5_statement_147 : decode cX5_statement 147 = .ok (.iastore, 1) := by decide +kernel
theorem dX5_statement_148 : decode cX5_statement 148 = .ok (.aload_n 0, 1) := by decide +kernel
theorem dX5_statement_149 : decode cX5_statement 149 = .ok (.getfield 19, 3) := by decide +kernel
theorem dX5_statement_152 : decode cX5_statement 152 = .ok (.aload_n 0, 1) := by decide +kernel
theorem dX5_statement_153 : decode cX5_statement 153 = .ok (.getfield 79, 3) := by decide +kernel
theorem dX5_statement_156 : decode cX5_statement 156 = .ok (.aload_n 0, 1) := by decide +kernel
theorem dX5_statement_157 : decode cX5_statement 157 = .ok (.getfield 52, 3) := by decide +kernel
theorem dX5_statement_160 : decode cX5_statement 160 = .ok (.iconst 3, 1) := by decide +kernel
theorem dX5_statement_161 : decode cX5_statement 161 = .ok (.iaload, 1) := by decide +kernel
theorem dX5_statement_162 : decode cX5_statement 162 = .ok (.iastore, 1) := by decide +kernel
theorem dX5_statement_163 : decode cX5_statement 163 = .ok (.aload_n 0, 1) := by decide +kernel
theorem dX5_statement_164 : decode cX5_statement 164 = .ok (.getfield 22, 3) := by decide +kernel
theorem dX5_statement_167 : decode cX5_statement 167 = .ok (.aload_n 0, 1) := by decide +kernel
theorem dX5_statement_168 : decode cX5_statement 168 = .ok (.getfield 79, 3) := by decide +kernel
theorem dX5_statement_171 : decode cX5_statement 171 = .ok (.aload_n 0, 1) := by decide +kernel
theorem dX5_statement_172 : decode cX5_statement 172 = .ok (.getfield 79, 3) := by decide +kernel
theorem dX5_statement_175 : decode cX5_statement 175 = .ok (.iastore, 1) := by decide +kernel
theorem dX5_statement_176 : decode cX5_statement 176 = .ok (.aload_n 0, 1) := by decide +kernel
theorem dX5_statement_177 : decode cX5_statement 177 = .ok (.dup, 1) := by decide +kernel
theorem dX5_statement_178 : decode cX5_statement 178 = .ok (.getfield 79, 3) := by decide +kernel
theorem dX5_statement_181 : decode cX5_statement 181 = .ok (.iconst 1, 1) := by decide +kernel
theorem dX5_statement_182 : decode cX5_statement 182 = .ok (.iadd, 1) := by decide +kernel
theorem dX5_statement_183 : decode cX5_statement 183 = .ok (.putfield 79, 3) := by decide +kernel
theorem dX5_statement_186 : decode cX5_statement 186 = .ok (.iconst 1, 1) := by decide +kernel
theorem dX5_statement_187 : decode cX5_statement 187 = .ok (.ireturn, 1) := by decide +kernel
theorem dX5_statement_188 : decode cX5_statement 188 = .ok (.aload_n 0, 1) := by decide +kernel
theorem dX5_statement_189 : decode cX5_statement 189 = .ok (.bipush 117, 2) := by decide +kernel
theorem dX5_statement_191 : decode cX5_statement 191 = .ok (.invokevirtual 93, 3) := by decide +kernel
theorem dX5_statement_194 : decode cX5_statement 194 = .ok (.ifCond .eq 56, 3) := by decide +kernel
theorem dX5_statement_197 : decode cX5_statement 197 = .ok (.aload_n 0, 1) := by decide +kernel
theorem dX5_statement_198 : decode cX5_statement 198 = .ok (.iconst 0, 1) := by decide +kernel
theorem dX5_statement_199 : decode cX5_statement 199 = .ok (.iconst 4, 1) := by decide +kernel
theorem dX5_statement_200 : decode cX5_statement 200 = .ok (.invokevirtual 104, 3) := by decide +kernel
theorem dX5_statement_203 : decode cX5_statement 203 = .ok (.ifCond .ne 5, 3) := by decide +kernel
theorem dX5_statement_206 : decode cX5_statement 206 = .ok (.iconst (-1), 1) := by decide +kernel
theorem dX5_statement_207 : decode cX5_statement 207 = .ok (.ireturn, 1) := by decide +kernel
theorem dX5_statement_208 : decode cX5_statement 208 = .ok (.iload_n 1, 1) := by decide +kernel
theorem dX5_statement_209 : decode cX5_statement 209 = .ok (.ifCond .ne 5, 3) := by decide +kernel
theorem dX5_statement_212 : decode cX5_statement 212 = .ok (.iconst 1, 1) := by decide +kernel
theorem dX5_statement_213 : decode cX5_statement 213 = .ok (.ireturn, 1) := by decide +kernel
theorem dX5_statement_214 : decode cX5_statement 214 = .ok (.aload_n 0, 1) := by decide +kernel
theorem dX5_statement_215 : decode cX5_statement 215 = .ok (.iconst 0, 1) := by decide +kernel
theorem dX5_statement_216 : decode cX5_statement 216 = .ok (.invokevirtual 108, 3) := by decide +kernel
theorem dX5_statement_219 : decode cX5_statement 219 = .ok (.bipush 40, 2) := by decide +kernel
theorem dX5_statement_221 : decode cX5_statement 221 = .ok (.if_icmp .le 5, 3) := by decide +kernel
theorem dX5_statement_224 : decode cX5_statement 224 = .ok (.iconst 0, 1) := by decide +kernel
theorem dX5_statement_225 : decode cX5_statement 225 = .ok (.ireturn, 1) := by decide +kernel
theorem dX5_statement_226 : decode cX5_statement 226 = .ok (.aload_n 0, 1) := by decide +kernel
theorem dX5_statement_227 : decode cX5_statement 227 = .ok (.getfield 25, 3) := by decide +kernel
theorem dX5_statement_230 : decode cX5_statement 230 = .ok (.iconst 0, 1) := by decide +kernel
theorem dX5_statement_231 : decode cX5_statement 231 = .ok (.aload_n 0, 1) := by decide +kernel
theorem dX5_statement_232 : decode cX5_statement 232 = .ok (.iconst 0, 1) := by decide +kernel
theorem dX5_statement_233 : decode cX5_statement 233 = .ok (.invokevirtual 108, 3) := by decide +kernel
theorem dX5_statement_236 : decode cX5_statement 236 = .ok (.iastore, 1) := by decide +kernel
theorem dX5_statement_237 : decode cX5_statement 237 = .ok (.aload_n 0, 1) := by decide +kernel
theorem dX5_statement_238 : decode cX5_statement 238 = .ok (.getfield 25, 3) := by decide +kernel
theorem dX5_statement_241 : decode cX5_statement 241 = .ok (.iconst 1, 1) := by decide +kernel
theorem dX5_statement_242 : decode cX5_statement 242 = .ok (.aload_n 0, 1) := by decide +kernel
theorem dX5_statement_243 : decode cX5_statement 243 = .ok (.iconst 2, 1) := by decide +kernel
theorem dX5_statement_244 : decode cX5_statement 244 = .ok (.invokevirtual 108, 3) := by decide +kernel
theorem dX5_statement_247 : decode cX5_statement 247 = .ok (.iastore, 1) := by decide +kernel
theorem dX5_statement_248 : decode cX5_statement 248 = .ok (.iconst 1, 1) := by decide +kernel
theorem dX5_statement_249 : decode cX5_statement 249 = .ok (.ireturn, 1) := by decide +kernel
theorem dX5_statement_250 : decode cX5_statement 250 = .ok (.aload_n 0, 1) := by decide +kernel
theorem dX5_statement_251 : decode cX5_statement 251 = .ok (.bipush 98, 2) := by decide +kernel
theorem dX5_statement_253 : decode cX5_statement 253 = .ok (.invokevirtual 93, 3) := by decide +kernel
theorem dX5_statement_256 : decode cX5_statement 256 = .ok (.ifCond .eq 83, 3) := by decide +kernel
theorem dX5_statement_259 : decode cX5_statement 259 = .ok (.aload_n 0, 1) := by decide +kernel
theorem dX5_statement_260 : decode cX5_statement 260 = .ok (.iconst 0, 1) := by decide +kernel
theorem dX5_statement_261 : decode cX5_statement 261 = .ok (.bipush 6, 2) := by decide +kernel
theorem dX5_statement_263 : decode cX5_statement 263 = .ok (.invokevirtual 104, 3) := by decide +kernel
theorem dX5_statement_266 : decode cX5_statement 266 = .ok (.ifCond .ne 5, 3) := by decide +kernel
theorem dX5_statement_269 : decode cX5_statement 269 = .ok (.iconst (-1), 1) := by decide +kernel
theorem dX5_statement_270 : decode cX5_statement 270 = .ok (.ireturn, 1) := by decide +kernel
theorem dX5_statement_271 : decode cX5_statement 271 = .ok (.iload_n 1, 1) := by decide +kernel
theorem dX5_statement_272 : decode cX5_statement 272 = .ok (.ifCond .ne 5, 3) := by decide +kernel
theorem dX5_statement_275 : decode cX5_statement 275 = .ok (.iconst 1, 1) := by decide +kernel
theorem dX5_statement_276 : decode cX5_statement 276 = .ok (.ireturn, 1) := by decide +kernel
theorem dX5_statement_277 : decode cX5_statement 277 = .ok (.aload_n 0, 1) := by decide +kernel
theorem dX5_statement_278 : decode cX5_statement 278 = .ok (.iconst 0, 1) := by decide +kernel
theorem dX5_statement_279 : decode cX5_statement 279 = .ok (.invokevirtual 108, 3) := by decide +kernel
theorem dX5_statement_282 : decode cX5_statement 282 = .ok (.bipush 60, 2) := by decide +kernel
theorem dX5_statement_284 : decode cX5_statement 284 = .ok (.if_icmp .gt 23, 3) := by decide +kernel
theorem dX5_statement_287 : decode cX5_statement 287 = .ok (.aload_n 0, 1) := by decide +kernel
theorem dX5_statement_288 : decode cX5_statement 288 = .ok (.iconst 2, 1) := by decide +kernel
theorem dX5_statement_289 : decode cX5_statement 289 = .ok (.invokevirtual 108, 3) := by decide +kernel
theorem dX5_statement_292 : decode cX5_statement 292 = .ok (.bipush 60, 2) := by decide +kernel
theorem dX5_statement_294 : decode cX5_statement 294 = .ok (.if_icmp .gt 13, 3) := by decide +kernel
theorem dX5_statement_297 : decode cX5_statement 297 = .ok (.aload_n 0, 1) := by decide +kernel
theorem dX5_statement_298 : decode cX5_statement 298 = .ok (.iconst 4, 1) := by decide +kernel
theorem dX5_statement_299 : decode cX5_statement 299 = .ok (.invokevirtual 108, 3) := by decide +kernel
theorem dX5_statement_302 : decode cX5_statement 302 = .ok (.bipush 60, 2) := by decide +kernel
theorem dX5_statement_304 : decode cX5_statement 304 = .ok (.if_icmp .le 5, 3) := by decide +kernel
theorem dX5_statement_307 : decode cX5_statement 307 = .ok (.iconst 0, 1) := by decide +kernel
theorem dX5_statement_308 : decode cX5_statement 308 = .ok (.ireturn, 1) := by decide +kernel
theorem dX5_statement_309 : decode cX5_statement 309 = .ok (.iconst 0, 1) := by decide +kernel
theorem dX5_statement_310 : decode cX5_statement 310 = .ok (.istore_n 2, 1) := by decide +kernel
theorem dX5_statement_311 : decode cX5_statement 311 = .ok (.iload_n 2, 1) := by decide +kernel
theorem dX5_statement_312 : decode cX5_statement 312 = .ok (.iconst 3, 1) := by decide +kernel
theorem dX5_statement_313 : decode cX5_statement 313 = .ok (.if_icmp .ge 24, 3) := by decide +kernel
theorem dX5_statement_316 : decode cX5_statement 316 = .ok (.aload_n 0, 1) := by decide +kernel
theorem dX5_statement_317 : decode cX5_statement 317 = .ok (.getfield 25, 3) := by decide +kernel
theorem dX5_statement_320 : decode cX5_statement 320 = .ok (.iconst 2, 1) := by decide +kernel
theorem dX5_statement_321 : decode cX5_statement 321 = .ok (.iload_n 2, 1) := by decide +kernel
theorem dX5_statement_322 : decode cX5_statement 322 = .ok (.iadd, 1) := by decide +kernel
theorem dX5_statement_323 : decode cX5_statement 323 = .ok (.aload_n 0, 1) := by decide +kernel
theorem dX5_statement_324 : decode cX5_statement 324 = .ok (.iconst 2, 1) := by decide +kernel
theorem dX5_statement_325 : decode cX5_statement 325 = .ok (.iload_n 2, 1) := by decide +kernel
theorem dX5_statement_326 : decode cX5_statement 326 = .ok (.imul, 1) := by decide +kernel
theorem dX5_statement_327 : decode cX5_statement 327 = .ok (.invokevirtual 108, 3) := by decide +kernel
theorem dX5_statement_330 : decode cX5_statement 330 = .ok (.iastore, 1) := by decide +kernel
theorem dX5_statement_331 : decode cX5_statement 331 = .ok (.iinc 2 1, 3) := by decide +kernel
theorem dX5_statement_334 : decode cX5_statement 334 = .ok (.goto (-23), 3) := by decide +kernel
theorem dX5_statement_337 : decode cX5_statement 337 = .ok (.iconst 1, 1) := by decide +kernel
theorem dX5_statement_338 : decode cX5_statement 338 = .ok (.ireturn, 1) := by decide +kernel
theorem dX5_statement_339 : decode cX5_statement 339 = .ok (.aload_n 0, 1) := by decide +kernel
theorem dX5_statement_340 : decode cX5_statement 340 = .ok (.bipush 115, 2) := by decide +kernel
theorem dX5_statement_342 : decode cX5_statement 342 = .ok (.invokevirtual 93, 3) := by decide +kernel
theorem dX5_statement_345 : decode cX5_statement 345 = .ok (.ifCond .eq 32, 3) := by decide +kernel
theorem dX5_statement_348 : decode cX5_statement 348 = .ok (.aload_n 0, 1) := by decide +kernel
theorem dX5_statement_349 : decode cX5_statement 349 = .ok (.iconst 0, 1) := by decide +kernel
theorem dX5_statement_350 : decode cX5_statement 350 = .ok (.iconst 1, 1) := by decide +kernel
theorem dX5_statement_351 : decode cX5_statement 351 = .ok (.invokevirtual 104, 3) := by decide +kernel
theorem dX5_statement_354 : decode cX5_statement 354 = .ok (.ifCond .ne 5, 3) := by decide +kernel
theorem dX5_statement_357 : decode cX5_statement 357 = .ok (.iconst (-1), 1) := by decide +kernel
theorem dX5_statement_358 : decode cX5_statement 358 = .ok (.ireturn, 1) := by decide +kernel
theorem dX5_statement_359 : decode cX5_statement 359 = .ok (.iload_n 1, 1) := by decide +kernel
theorem dX5_statement_360 : decode cX5_statement 360 = .ok (.ifCond .eq 15, 3) := by decide +kernel
theorem dX5_statement_363 : decode cX5_statement 363 = .ok (.aload_n 0, 1) := by decide +kernel
theorem dX5_statement_364 : decode cX5_statement 364 = .ok (.getfield 25, 3) := by decide +kernel
theorem dX5_statement_367 : decode cX5_statement 367 = .ok (.iconst 5, 1) := by decide +kernel
theorem dX5_statement_368 : decode cX5_statement 368 = .ok (.aload_n 0, 1) := by decide +kernel
theorem dX5_statement_369 : decode cX5_statement 369 = .ok (.getfield 52, 3) := by decide +kernel
theorem dX5_statement_372 : decode cX5_statement 372 = .ok (.iconst 0, 1) := by decide +kernel
theorem dX5_statement_373 : decode cX5_statement 373 = .ok (.iaload, 1) := by decide +kernel
theorem dX5_statement_374 : decode cX5_statement 374 = .ok (.iastore, 1) := by decide +kernel
theorem dX5_statement_375 : decode cX5_statement 375 = .ok (.iconst 1, 1) := by decide +kernel
theorem dX5_statement_376 : decode cX5_statement 376 = .ok (.ireturn, 1) := by decide +kernel
theorem dX5_statement_377 : decode cX5_statement 377 = .ok (.aload_n 0, 1) := by decide +kernel
theorem dX5_statement_378 : decode cX5_statement 378 = .ok (.bipush 103, 2) := by decide +kernel
theorem dX5_statement_380 : decode cX5_statement 380 = .ok (.invokevirtual 93, 3) := by decide +kernel
theorem dX5_statement_383 : decode cX5_statement 383 = .ok (.ifCond .eq 60, 3) := by decide +kernel
theorem dX5_statement_386 : decode cX5_statement 386 = .ok (.aload_n 0, 1) := by decide +kernel
theorem dX5_statement_387 : decode cX5_statement 387 = .ok (.iconst 0, 1) := by decide +kernel
theorem dX5_statement_388 : decode cX5_statement 388 = .ok (.iconst 2, 1) := by decide +kernel
theorem dX5_statement_389 : decode cX5_statement 389 = .ok (.invokevirtual 104, 3) := by decide +kernel
theorem dX5_statement_392 : decode cX5_statement 392 = .ok (.ifCond .ne 5, 3) := by decide +kernel
theorem dX5_statement_395 : decode cX5_statement 395 = .ok (.iconst (-1), 1) := by decide +kernel
theorem dX5_statement_396 : decode cX5_statement 396 = .ok (.ireturn, 1) := by decide +kernel
theorem dX5_statement_397 : decode cX5_statement 397 = .ok (.iload_n 1, 1) := by decide +kernel
theorem dX5_statement_398 : decode cX5_statement 398 = .ok (.ifCond .ne 5, 3) := by decide +kernel
theorem dX5_statement_401 : decode cX5_statement 401 = .ok (.iconst 1, 1) := by decide +kernel
theorem dX5_statement_402 : decode cX5_statement 402 = .ok (.ireturn, 1) := by decide +kernel
theorem dX5_statement_403 : decode cX5_statement 403 = .ok (.aload_n 0, 1) := by decide +kernel
theorem dX5_statement_404 : decode cX5_statement 404 = .ok (.getfield 52, 3) := by decide +kernel
theorem dX5_statement_407 : decode cX5_statement 407 = .ok (.iconst 0, 1) := by decide +kernel
theorem dX5_statement_408 : decode cX5_statement 408 = .ok (.iaload, 1) := by decide +kernel
theorem dX5_statement_409 : decode cX5_statement 409 = .ok (.iconst 1, 1) := by decide +kernel
theorem dX5_statement_410 : decode cX5_statement 410 = .ok (.if_icmp .le 5, 3) := by decide +kernel
theorem dX5_statement_413 : decode cX5_statement 413 = .ok (.iconst 0, 1) := by decide +kernel
theorem dX5_statement_414 : decode cX5_statement 414 = .ok (.ireturn, 1) := by decide +kernel
theorem dX5_statement_415 : decode cX5_statement 415 = .ok (.aload_n 0, 1) := by decide +kernel
theorem dX5_statement_416 : decode cX5_statement 416 = .ok (.getfield 25, 3) := by decide +kernel
theorem dX5_statement_419 : decode cX5_statement 419 = .ok (.bipush 6, 2) := by decide +kernel
theorem dX5_statement_421 : decode cX5_statement 421 = .ok (.aload_n 0, 1) := by decide +kernel
theorem dX5_statement_422 : decode cX5_statement 422 = .ok (.getfield 52, 3) := by decide +kernel
theorem dX5_statement_425 : decode cX5_statement 425 = .ok (.iconst 0, 1) := by decide +kernel
theorem dX5_statement_426 : decode cX5_statement 426 = .ok (.iaload, 1) := by decide +kernel
theorem dX5_statement_427 : decode cX5_statement 427 = .ok (.iastore, 1) := by decide +kernel
theorem dX5_statement_428 : decode cX5_statement 428 = .ok (.aload_n 0, 1) := by decide +kernel
theorem dX5_statement_429 : decode cX5_statement 429 = .ok (.getfield 25, 3) := by decide +kernel
theorem dX5_statement_432 : decode cX5_statement 432 = .ok (.bipush 7, 2) := by decide +kernel
theorem dX5_statement_434 : decode cX5_statement 434 = .ok (.aload_n 0, 1) := by decide +kernel
theorem dX5_statement_435 : decode cX5_statement 435 = .ok (.getfield 52, 3) := by decide +kernel
theorem dX5_statement_438 : decode cX5_statement 438 = .ok (.iconst 1, 1) := by decide +kernel
theorem dX5_statement_439 : decode cX5_statement 439 = .ok (.iaload, 1) := by decide +kernel
theorem dX5_statement_440 : decode cX5_statement 440 = .ok (.iastore, 1) := by decide +kernel
theorem dX5_statement_441 : decode cX5_statement 441 = .ok (.iconst 1, 1) := by decide +kernel
theorem dX5_statement_442 : decode cX5_statement 442 = .ok (.ireturn, 1) := by decide +kernel
theorem dX5_statement_443 : decode cX5_statement 443 = .ok (.aload_n 0, 1) := by decide +kernel
theorem dX5_statement_444 : decode cX5_statement 444 = .ok (.bipush 114, 2) := by decide +kernel
theorem dX5_statement_446 : decode cX5_statement 446 = .ok (.invokevirtual 93, 3) := by decide +kernel
theorem dX5_statement_449 : decode cX5_statement 449 = .ok (.ifCond .eq 69, 3) := by decide +kernel
theorem dX5_statement_452 : decode cX5_statement 452 = .ok (.aload_n 0, 1) := by decide +kernel
theorem dX5_statement_453 : decode cX5_statement 453 = .ok (.iconst 0, 1) := by decide +kernel
theorem dX5_statement_454 : decode cX5_statement 454 = .ok (.iconst 3, 1) := by decide +kernel
theorem dX5_statement_455 : decode cX5_statement 455 = .ok (.invokevirtual 104, 3) := by decide +kernel
theorem dX5_statement_458 : decode cX5_statement 458 = .ok (.ifCond .ne 5, 3) := by decide +kernel
theorem dX5_statement_461 : decode cX5_statement 461 = .ok (.iconst (-1), 1) := by decide +kernel
theorem dX5_statement_462 : decode cX5_statement 462 = .ok (.ireturn, 1) := by decide +kernel
theorem dX5_statement_463 : decode cX5_statement 463 = .ok (.iload_n 1, 1) := by decide +kernel
theorem dX5_statement_464 : decode cX5_statement 464 = .ok (.ifCond .ne 5, 3) := by decide +kernel
theorem dX5_statement_467 : decode cX5_statement 467 = .ok (.iconst 1, 1) := by decide +kernel
theorem dX5_statement_468 : decode cX5_statement 468 = .ok (.ireturn, 1) := by decide +kernel
theorem dX5_statement_469 : decode cX5_statement 469 = .ok (.aload_n 0, 1) := by decide +kernel
theorem dX5_statement_470 : decode cX5_statement 470 = .ok (.getfield 52, 3) := by decide +kernel
theorem dX5_statement_473 : decode cX5_statement 473 = .ok (.iconst 0, 1) := by decide +kernel
theorem dX5_statement_474 : decode cX5_statement 474 = .ok (.iaload, 1) := by decide +kernel
theorem dX5_statement_475 : decode cX5_statement 475 = .ok (.iconst 2, 1) := by decide +kernel
theorem dX5_statement_476 : decode cX5_statement 476 = .ok (.if_icmp .gt 13, 3) := by decide +kernel
theorem dX5_statement_479 : decode cX5_statement 479 = .ok (.aload_n 0, 1) := by decide +kernel
theorem dX5_statement_480 : decode cX5_statement 480 = .ok (.iconst 1, 1) := by decide +kernel
theorem dX5_statement_481 : decode cX5_statement 481 = .ok (.invokevirtual 108, 3) := by decide +kernel
theorem dX5_statement_484 : decode cX5_statement 484 = .ok (.bipush 20, 2) := by decide +kernel
theorem dX5_statement_486 : decode cX5_statement 486 = .ok (.if_icmp .le 5, 3) := by decide +kernel
theorem dX5_statement_489 : decode cX5_statement 489 = .ok (.iconst 0, 1) := by decide +kernel
theorem dX5_statement_490 : decode cX5_statement 490 = .ok (.ireturn, 1) := by decide +kernel
theorem dX5_statement_491 : decode cX5_statement 491 = .ok (.aload_n 0, 1) := by decide +kernel
theorem dX5_statement_492 : decode cX5_statement 492 = .ok (.getfield 25, 3) := by decide +kernel
theorem dX5_statement_495 : decode cX5_statement 495 = .ok (.bipush 8, 2) := by decide +kernel
theorem dX5_statement_497 : decode cX5_statement 497 = .ok (.aload_n 0, 1) := by decide +kernel
theorem dX5_statement_498 : decode cX5_statement 498 = .ok (.getfield 52, 3) := by decide +kernel
theorem dX5_statement_501 : decode cX5_statement 501 = .ok (.iconst 0, 1) := by decide +kernel
theorem dX5_statement_502 : decode cX5_statement 502 = .ok (.iaload, 1) := by decide +kernel
theorem dX5_statement_503 : decode cX5_statement 503 = .ok (.iastore, 1) := by decide +kernel
theorem dX5_statement_504 : decode cX5_statement 504 = .ok (.aload_n 0, 1) := by decide +kernel
theorem dX5_statement_505 : decode cX5_statement 505 = .ok (.getfield 25, 3) := by decide +kernel
theorem dX5_statement_508 : decode cX5_statement 508 = .ok (.bipush 9, 2) := by decide +kernel
theorem dX5_statement_510 : decode cX5_statement 510 = .ok (.aload_n 0, 1) := by decide +kernel
theorem dX5_statement_511 : decode cX5_statement 511 = .ok (.iconst 1, 1) := by decide +kernel
theorem dX5_statement_512 : decode cX5_statement 512 = .ok (.invokevirtual 108, 3) := by decide +kernel
theorem dX5_statement_515 : decode cX5_statement 515 = .ok (.iastore, 1) := by decide +kernel
theorem dX5_statement_516 : decode cX5_statement 516 = .ok (.iconst 1, 1) := by decide +kernel
theorem dX5_statement_517 : decode cX5_statement 517 = .ok (.ireturn, 1) := by decide +kernel
theorem dX5_statement_518 : decode cX5_statement 518 = .ok (.aload_n 0, 1) := by decide +kernel
theorem dX5_statement_519 : decode cX5_statement 519 = .ok (.bipush 120, 2) := by decide +kernel
theorem dX5_statement_521 : decode cX5_statement 521 = .ok (.invokevirtual 93, 3) := by decide +kernel
theorem dX5_statement_524 : decode cX5_statement 524 = .ok (.ifCond .eq 12, 3) := by decide +kernel
theorem dX5_statement_527 : decode cX5_statement 527 = .ok (.aload_n 0, 1) := by decide +kernel
theorem dX5_statement_528 : decode cX5_statement 528 = .ok (.iconst 0, 1) := by decide +kernel
theorem dX5_statement_529 : decode cX5_statement 529 = .ok (.iconst 2, 1) := by decide +kernel
theorem dX5_statement_530 : decode cX5_statement 530 = .ok (.invokevirtual 104, 3) := by decide +kernel
theorem dX5_statement_533 : decode cX5_statement 533 = .ok (.ifCond .ne 5, 3) := by decide +kernel
theorem dX5_statement_536 : decode cX5_statement 536 = .ok (.iconst (-1), 1) := by decide +kernel
theorem dX5_statement_537 : decode cX5_statement 537 = .ok (.ireturn, 1) := by decide +kernel
theorem dX5_statement_538 : decode cX5_statement 538 = .ok (.iload_n 1, 1) := by decide +kernel
theorem dX5_statement_539 : decode cX5_statement 539 = .ok (.ifCond .ne 5, 3) := by decide +kernel
theorem dX5_statement_542 : decode cX5_statement 542 = .ok (.iconst 1, 1) := by decide +kernel
theorem dX5_statement_543 : decode cX5_statement 543 = .ok (.ireturn, 1) := by decide +kernel
theorem dX5_statement_544 : decode cX5_statement 544 = .ok (.aload_n 0, 1) := by decide +kernel
theorem dX5_statement_545 : decode cX5_statement 545 = .ok (.aload_n 0, 1) := by decide +kernel
theorem dX5_statement_546 : decode cX5_statement 546 = .ok (.getfield 52, 3) := by decide +kernel
theorem dX5_statement_549 : decode cX5_statement 549 = .ok (.iconst 0, 1) := by decide +kernel
theorem dX5_statement_550 : decode cX5_statement 550 = .ok (.iaload, 1) := by decide +kernel
theorem dX5_statement_551 : decode cX5_statement 551 = .ok (.invokevirtual 111, 3) := by decide +kernel
theorem dX5_statement_554 : decode cX5_statement 554 = .ok (.ifCond .eq 31, 3) := by decide +kernel
theorem dX5_statement_557 : decode cX5_statement 557 = .ok (.aload_n 0, 1) := by decide +kernel
theorem dX5_statement_558 : decode cX5_statement 558 = .ok (.aload_n 0, 1) := by decide +kernel
theorem dX5_statement_559 : decode cX5_statement 559 = .ok (.getfield 52, 3) := by decide +kernel
theorem dX5_statement_562 : decode cX5_statement 562 = .ok (.iconst 1, 1) := by decide +kernel
theorem dX5_statement_563 : decode cX5_statement 563 = .ok (.iaload, 1) := by decide +kernel
theorem dX5_statement_564 : decode cX5_statement 564 = .ok (.invokevirtual 111, 3) := by decide +kernel
theorem dX5_statement_567 : decode cX5_statement 567 = .ok (.ifCond .eq 18, 3) := by decide +kernel
theorem dX5_statement_570 : decode cX5_statement 570 = .ok (.aload_n 0, 1) := by decide +kernel
theorem dX5_statement_571 : decode cX5_statement 571 = .ok (.getfield 52, 3) := by decide +kernel
theorem dX5_statement_574 : decode cX5_statement 574 = .ok (.iconst 0, 1) := by decide +kernel
theorem dX5_statement_575 : decode cX5_statement 575 = .ok (.iaload, 1) := by decide +kernel
theorem dX5_statement_576 : decode cX5_statement 576 = .ok (.aload_n 0, 1) := by decide +kernel
theorem dX5_statement_577 : decode cX5_statement 577 = .ok (.getfield 52, 3) := by decide +kernel
theorem dX5_statement_580 : decode cX5_statement 580 = .ok (.iconst 1, 1) := by decide +kernel
theorem dX5_statement_581 : decode cX5_statement 581 = .ok (.iaload, 1) := by decide +kernel
theorem dX5_statement_582 : decode cX5_statement 582 = .ok (.if_icmp .ne 5, 3) := by decide +kernel
theorem dX5_statement_585 : decode cX5_statement 585 = .ok (.iconst 0, 1) := by decide +kernel
theorem dX5_statement_586 : decode cX5_statement 586 = .ok (.ireturn, 1) := by decide +kernel
theorem dX5_statement_587 : decode cX5_statement 587 = .ok (.aload_n 0, 1) := by decide +kernel
theorem dX5_statement_588 : decode cX5_statement 588 = .ok (.aload_n 0, 1) := by decide +kernel
theorem dX5_statement_589 : decode cX5_statement 589 = .ok (.getfield 52, 3) := by decide +kernel
theorem dX5_statement_592 : decode cX5_statement 592 = .ok (.iconst 0, 1) := by decide +kernel
theorem dX5_statement_593 : decode cX5_statement 593 = .ok (.iaload, 1) := by decide +kernel
theorem dX5_statement_594 : decode cX5_statement 594 = .ok (.aload_n 0, 1) := by decide +kernel
theorem dX5_statement_595 : decode cX5_statement 595 = .ok (.getfield 52, 3) := by decide +kernel
theorem dX5_statement_598 : decode cX5_statement 598 = .ok (.iconst 1, 1) := by decide +kernel
theorem dX5_statement_599 : decode cX5_statement 599 = .ok (.iaload, 1) := by decide +kernel
theorem dX5_statement_600 : decode cX5_statement 600 = .ok (.invokevirtual 114, 3) := by decide +kernel
theorem dX5_statement_603 : decode cX5_statement 603 = .ok (.pop, 1) := by decide +kernel
theorem dX5_statement_604 : decode cX5_statement 604 = .ok (.iconst 1, 1) := by decide +kernel
theorem dX5_statement_605 : decode cX5_statement 605 = .ok (.ireturn, 1) := by decide +kernel
theorem dX5_house_0 : decode cX5_house 0 = .ok (.aload_n 0, 1) := by decide +kernel
theorem dX5_house_1 : decode cX5_house 1 = .ok (.iconst 0, 1) := by decide +kernel
theorem dX5_house_2 : decode cX5_house 2 = .ok (.putfield 90, 3) := by decide +kernel
theorem dX5_house_5 : decode cX5_house 5 = .ok (.iconst 1, 1) := by decide +kernel
theorem dX5_house_6 : decode cX5_house 6 = .ok (.istore_n 1, 1) := by decide +kernel
theorem dX5_house_7 : decode cX5_house 7 = .ok (.iload_n 1, 1) := by decide +kernel
theorem dX5_house_8 : decode cX5_house 8 = .ok (.ifCond .eq 45, 3) := by decide +kernel
theorem dX5_house_11 : decode cX5_house 11 = .ok (.aload_n 0, 1) := by decide +kernel
theorem dX5_house_12 : decode cX5_house 12 = .ok (.iconst 0, 1) := by decide +kernel
theorem dX5_house_13 : decode cX5_house 13 = .ok (.invokevirtual 118, 3) := by decide +kernel
theorem dX5_house_16 : decode cX5_house 16 = .ok (.iconst 1, 1) := by decide +kernel
theorem dX5_house_17 : decode cX5_house 17 = .ok (.if_icmp .ne 16, 3) := by decide +kernel
theorem dX5_house_20 : decode cX5_house 20 = .ok (.aload_n 0, 1) := by decide +kernel
theorem dX5_house_21 : decode cX5_house 21 = .ok (.bipush 59, 2) := by decide +kernel
theorem dX5_house_23 : decode cX5_house 23 = .ok (.invokevirtual 93, 3) := by decide +kernel
theorem dX5_house_26 : decode cX5_house 26 = .ok (.ifCond .eq 7, 3) := by decide +kernel
theorem dX5_house_29 : decode cX5_house 29 = .ok (.iconst 1, 1) := by decide +kernel
theorem dX5_house_30 : decode cX5_house 30 = .ok (.goto 4, 3) := by decide +kernel
theorem dX5_house_33 : decode cX5_house 33 = .ok (.iconst 0, 1) := by decide +kernel
theorem dX5_house_34 : decode cX5_house 34 = .ok (.istore_n 1, 1) := by decide +kernel
theorem dX5_house_35 : decode cX5_house 35 = .ok (.iload_n 1, 1) := by decide +kernel
theorem dX5_house_36 : decode cX5_house 36 = .ok (.ifCond .eq (-29), 3) := by decide +kernel
theorem dX5_house_39 : decode cX5_house 39 = .ok (.aload_n 0, 1) := by decide +kernel
theorem dX5_house_40 : decode cX5_house 40 = .ok (.getfield 90, 3) := by decide +kernel
theorem dX5_house_43 : decode cX5_house 43 = .ok (.aload_n 0, 1) := by decide +kernel
theorem dX5_house_44 : decode cX5_house 44 = .ok (.getfield 87, 3) := by decide +kernel
theorem dX5_house_47 : decode cX5_house 47 = .ok (.if_icmp .ne (-40), 3) := by decide +kernel
theorem dX5_house_50 : decode cX5_house 50 = .ok (.goto 3, 3) := by decide +kernel
theorem dX5_house_53 : decode cX5_house 53 = .ok (.iload_n 1, 1) := by decide +kernel
theorem dX5_house_54 : decode cX5_house 54 = .ok (.ifCond .ne 17, 3) := by decide +kernel
theorem dX5_house_57 : decode cX5_house 57 = .ok (.aload_n 0, 1) := by decide +kernel
theorem dX5_house_58 : decode cX5_house 58 = .ok (.iconst 0, 1) := by decide +kernel
theorem dX5_house_59 : decode cX5_house 59 = .ok (.putfield 87, 3) := by decide +kernel
theorem dX5_house_62 : decode cX5_house 62 = .ok (.sipush (-1000), 3) := by decide +kernel
theorem dX5_house_65 : decode cX5_house 65 = .ok (.aload_n 0, 1) := by decide +kernel
theorem dX5_house_66 : decode cX5_house 66 = .ok (.getfield 90, 3) := by decide +kernel
theorem dX5_house_69 : decode cX5_house 69 = .ok (.isub, 1) := by decide +kernel
theorem dX5_house_70 : decode cX5_house 70 = .ok (.ireturn, 1) := by decide +kernel
theorem dX5_house_71 : decode cX5_house 71 = .ok (.aload_n 0, 1) := by decide +kernel
theorem dX5_house_72 : decode cX5_house 72 = .ok (.aload_n 0, 1) := by decide +kernel
theorem dX5_house_73 : decode cX5_house 73 = .ok (.getfield 64, 3) := by decide +kernel
theorem dX5_house_76 : decode cX5_house 76 = .ok (.invokevirtual 122, 3) := by decide +kernel
theorem dX5_house_79 : decode cX5_house 79 = .ok (.aload_n 0, 1) := by decide +kernel
theorem dX5_house_80 : decode cX5_house 80 = .ok (.iconst 0, 1) := by decide +kernel
theorem dX5_house_81 : decode cX5_house 81 = .ok (.putfield 90, 3) := by decide +kernel
theorem dX5_house_84 : decode cX5_house 84 = .ok (.iconst 0, 1) := by decide +kernel
theorem dX5_house_85 : decode cX5_house 85 = .ok (.istore_n 2, 1) := by decide +kernel
theorem dX5_house_86 : decode cX5_house 86 = .ok (.aload_n 0, 1) := by decide +kernel
theorem dX5_house_87 : decode cX5_house 87 = .ok (.getfield 90, 3) := by decide +kernel
theorem dX5_house_90 : decode cX5_house 90 = .ok (.aload_n 0, 1) := by decide +kernel
theorem dX5_house_91 : decode cX5_house 91 = .ok (.getfield 87, 3) := by decide +kernel
theorem dX5_house_94 : decode cX5_house 94 = .ok (.if_icmp .ge 48, 3) := by decide +kernel
theorem dX5_house_97 : decode cX5_house 97 = .ok (.aload_n 0, 1) := by decide +kernel
theorem dX5_house_98 : decode cX5_house 98 = .ok (.getfield 90, 3) := by decide +kernel
theorem dX5_house_101 : decode cX5_house 101 = .ok (.istore_n 3, 1) := by decide +kernel
theorem dX5_house_102 : decode cX5_house 102 = .ok (.aload_n 0, 1) := by decide +kernel
theorem dX5_house_103 : decode cX5_house 103 = .ok (.iconst 1, 1) := by decide +kernel
theorem dX5_house_104 : decode cX5_house 104 = .ok (.invokevirtual 118, 3) := by decide +kernel
theorem dX5_house_107 : decode cX5_house 107 = .ok (.ifCond .ne 22, 3) := by decide +kernel
theorem dX5_house_110 : decode cX5_house 110 = .ok (.aload_n 0, 1) := by decide +kernel
theorem dX5_house_111 : decode cX5_house 111 = .ok (.aload_n 0, 1) := by decide +kernel
theorem dX5_house_112 : decode cX5_house 112 = .ok (.getfield 64, 3) := by decide +kernel
theorem dX5_house_115 : decode cX5_house 115 = .ok (.invokevirtual 126, 3) := by decide +kernel
theorem dX5_house_118 : decode cX5_house 118 = .ok (.aload_n 0, 1) := by decide +kernel
theorem dX5_house_119 : decode cX5_house 119 = .ok (.iconst 0, 1) := by decide +kernel
theorem dX5_house_120 : decode cX5_house 120 = .ok (.putfield 87, 3) := by decide +kernel
theorem dX5_house_123 : decode cX5_house 123 = .ok (.sipush (-2000), 3) := by decide +kernel
theorem dX5_house_126 : decode cX5_house 126 = .ok (.iload_n 3, 1) := by decide +kernel
theorem dX5_house_127 : decode cX5_house 127 = .ok (.isub, 1) := by decide +kernel
theorem dX5_house_128 : decode cX5_house 128 = .ok (.ireturn, 1) := by decide +kernel
theorem dX5_house_129 : decode cX5_house 129 = .ok (.aload_n 0, 1) := by decide +kernel
theorem dX5_house_130 : decode cX5_house 130 = .ok (.bipush 59, 2) := by decide +kernel
theorem dX5_house_132 : decode cX5_house 132 = .ok (.invokevirtual 93, 3) := by decide +kernel
theorem dX5_house_135 : decode cX5_house 135 = .ok (.pop, 1) := by decide +kernel
theorem dX5_house_136 : decode cX5_house 136 = .ok (.iinc 2 1, 3) := by decide +kernel
theorem dX5_house_139 : decode cX5_house 139 = .ok (.goto (-53), 3) := by decide +kernel
theorem dX5_house_142 : decode cX5_house 142 = .ok (.aload_n 0, 1) := by decide +kernel
theorem dX5_house_143 : decode cX5_house 143 = .ok (.iconst 0, 1) := by decide +kernel
theorem dX5_house_144 : decode cX5_house 144 = .ok (.putfield 87, 3) := by decide +kernel
theorem dX5_house_147 : decode cX5_house 147 = .ok (.iload_n 2, 1) := by decide +kernel
theorem dX5_house_148 : decode cX5_house 148 = .ok (.ireturn, 1) := by decide +kernel
theorem dX5_placeOf_0 : decode cX5_placeOf 0 = .ok (.iconst 0, 1) := by decide +kernel
theorem dX5_placeOf_1 : decode cX5_placeOf 1 = .ok (.istore_n 2, 1) := by decide +kernel
theorem dX5_placeOf_2 : decode cX5_placeOf 2 = .ok (.aload_n 0, 1) := by decide +kernel
theorem dX5_placeOf_3 : decode cX5_placeOf 3 = .ok (.getfield 22, 3) := by decide +kernel
theorem dX5_placeOf_6 : decode cX5_placeOf 6 = .ok (.iload_n 2, 1) := by decide +kernel
theorem dX5_placeOf_7 : decode cX5_placeOf 7 = .ok (.iaload, 1) := by decide +kernel
theorem dX5_placeOf_8 : decode cX5_placeOf 8 = .ok (.iload_n 1, 1) := by decide +kernel
theorem dX5_placeOf_9 : decode cX5_placeOf 9 = .ok (.if_icmp .eq 9, 3) := by decide +kernel
theorem dX5_placeOf_12 : decode cX5_placeOf 12 = .ok (.iinc 2 1, 3) := by decide +kernel
theorem dX5_placeOf_15 : decode cX5_placeOf 15 = .ok (.goto (-13), 3) := by decide +kernel
theorem dX5_placeOf_18 : decode cX5_placeOf 18 = .ok (.iload_n 2, 1) := by decide +kernel
theorem dX5_placeOf_19 : decode cX5_placeOf 19 = .ok (.ireturn, 1) := by decide +kernel
theorem dX5_swap_0 : decode cX5_swap 0 = .ok (.aload_n 0, 1) := by decide +kernel
theorem dX5_swap_1 : decode cX5_swap 1 = .ok (.iload_n 1, 1) := by decide +kernel
theorem dX5_swap_2 : decode cX5_swap 2 = .ok (.invokevirtual 129, 3) := by decide +kernel
theorem dX5_swap_5 : decode cX5_swap 5 = .ok (.istore_n 3, 1) := by decide +kernel
theorem dX5_swap_6 : decode cX5_swap 6 = .ok (.aload_n 0, 1) := by decide +kernel
theorem dX5_swap_7 : decode cX5_swap 7 = .ok (.iload_n 2, 1) := by decide +kernel
theorem dX5_swap_8 : decode cX5_swap 8 = .ok (.invokevirtual 129, 3) := by decide +kernel
theorem dX5_swap_11 : decode cX5_swap 11 = .ok (.istore 4, 2) := by decide +kernel
theorem dX5_swap_13 : decode cX5_swap 13 = .ok (.aload_n 0, 1) := by decide +kernel
theorem dX5_swap_14 : decode cX5_swap 14 = .ok (.getfield 22, 3) := by decide +kernel
theorem dX5_swap_17 : decode cX5_swap 17 = .ok (.iload_n 3, 1) := by decide +kernel
theorem dX5_swap_18 : decode cX5_swap 18 = .ok (.iload_n 2, 1) := by decide +kernel
theorem dX5_swap_19 : decode cX5_swap 19 = .ok (.iastore, 1) := by decide +kernel
theorem dX5_swap_20 : decode cX5_swap 20 = .ok (.aload_n 0, 1) := by decide +kernel
theorem dX5_swap_21 : decode cX5_swap 21 = .ok (.getfield 22, 3) := by decide +kernel
theorem dX5_swap_24 : decode cX5_swap 24 = .ok (.iload 4, 2) := by decide +kernel
theorem dX5_swap_26 : decode cX5_swap 26 = .ok (.iload_n 1, 1) := by decide +kernel
theorem dX5_swap_27 : decode cX5_swap 27 = .ok (.iastore, 1) := by decide +kernel
theorem dX5_swap_28 : decode cX5_swap 28 = .ok (.iload 4, 2) := by decide +kernel
theorem dX5_swap_30 : decode cX5_swap 30 = .ok (.ireturn, 1) := by decide +kernel
theorem dX5_story_0 : decode cX5_story 0 = .ok (.aload_n 0, 1) := by decide +kernel
theorem dX5_story_1 : decode cX5_story 1 = .ok (.iload_n 1, 1) := by decide +kernel
theorem dX5_story_2 : decode cX5_story 2 = .ok (.invokevirtual 111, 3) := by decide +kernel
theorem dX5_story_5 : decode cX5_story 5 = .ok (.ifCond .ne 9, 3) := by decide +kernel
theorem dX5_story_8 : decode cX5_story 8 = .ok (.aload_n 0, 1) := by decide +kernel
theorem dX5_story_9 : decode cX5_story 9 = .ok (.iconst (-1), 1) := by decide +kernel
theorem dX5_story_10 : decode cX5_story 10 = .ok (.invokevirtual 75, 3) := by decide +kernel
theorem dX5_story_13 : decode cX5_story 13 = .ok (.ireturn, 1) := by decide +kernel
theorem dX5_story_14 : decode cX5_story 14 = .ok (.iload_n 2, 1) := by decide +kernel
theorem dX5_story_15 : decode cX5_story 15 = .ok (.tableswitch 67 0 4 #[33, 40, 47, 54, 61], 33) := by decide +kernel
theorem dX5_story_48 : decode cX5_story 48 = .ok (.aload_n 0, 1) := by decide +kernel
theorem dX5_story_49 : decode cX5_story 49 = .ok (.getfield 7, 3) := by decide +kernel
theorem dX5_story_52 : decode cX5_story 52 = .ok (.iload_n 1, 1) := by decide +kernel
theorem dX5_story_53 : decode cX5_story 53 = .ok (.iaload, 1) := by decide +kernel
theorem dX5_story_54 : decode cX5_story 54 = .ok (.ireturn, 1) := by decide +kernel
theorem dX5_story_55 : decode cX5_story 55 = .ok (.aload_n 0, 1) := by decide +kernel
theorem dX5_story_56 : decode cX5_story 56 = .ok (.getfield 13, 3) := by decide +kernel
theorem dX5_story_59 : decode cX5_story 59 = .ok (.iload_n 1, 1) := by decide +kernel
theorem dX5_story_60 : decode cX5_story 60 = .ok (.iaload, 1) := by decide +kernel
theorem dX5_story_61 : decode cX5_story 61 = .ok (.ireturn, 1) := by decide +kernel
theorem dX5_story_62 : decode cX5_story 62 = .ok (.aload_n 0, 1) := by decide +kernel
theorem dX5_story_63 : decode cX5_story 63 = .ok (.getfield 16, 3) := by decide +kernel
theorem dX5_story_66 : decode cX5_story 66 = .ok (.iload_n 1, 1) := by decide +kernel
theorem dX5_story_67 : decode cX5_story 67 = .ok (.iaload, 1) := by decide +kernel
theorem dX5_story_68 : decode cX5_story 68 = .ok (.ireturn, 1) := by decide +kernel
theorem dX5_story_69 : decode cX5_story 69 = .ok (.aload_n 0, 1) := by decide +kernel
theorem dX5_story_70 : decode cX5_story 70 = .ok (.getfield 19, 3) := by decide +kernel
theorem dX5_story_73 : decode cX5_story 73 = .ok (.iload_n 1, 1) := by decide +kernel
theorem dX5_story_74 : decode cX5_story 74 = .ok (.iaload, 1) := by decide +kernel
theorem dX5_story_75 : decode cX5_story 75 = .ok (.ireturn, 1) := by decide +kernel
theorem dX5_story_76 : decode cX5_story 76 = .ok (.aload_n 0, 1) := by decide +kernel
theorem dX5_story_77 : decode cX5_story 77 = .ok (.iload_n 1, 1) := by decide +kernel
theorem dX5_story_78 : decode cX5_story 78 = .ok (.invokevirtual 129, 3) := by decide +kernel
theorem dX5_story_81 : decode cX5_story 81 = .ok (.ireturn, 1) := by decide +kernel
theorem dX5_story_82 : decode cX5_story 82 = .ok (.aload_n 0, 1) := by decide +kernel
theorem dX5_story_83 : decode cX5_story 83 = .ok (.bipush (-2), 2) := by decide +kernel
theorem dX5_story_85 : decode cX5_story 85 = .ok (.invokevirtual 75, 3) := by decide +kernel
theorem dX5_story_88 : decode cX5_story 88 = .ok (.ireturn, 1) := by decide +kernel
theorem dX5_place_0 : decode cX5_place 0 = .ok (.aload_n 0, 1) := by decide +kernel
theorem dX5_place_1 : decode cX5_place 1 = .ok (.iload_n 1, 1) := by decide +kernel
theorem dX5_place_2 : decode cX5_place 2 = .ok (.invokevirtual 111, 3) := by decide +kernel
theorem dX5_place_5 : decode cX5_place 5 = .ok (.ifCond .eq 12, 3) := by decide +kernel
theorem dX5_place_8 : decode cX5_place 8 = .ok (.aload_n 0, 1) := by decide +kernel
theorem dX5_place_9 : decode cX5_place 9 = .ok (.getfield 22, 3) := by decide +kernel
theorem dX5_place_12 : decode cX5_place 12 = .ok (.iload_n 1, 1) := by decide +kernel
theorem dX5_place_13 : decode cX5_place 13 = .ok (.iaload, 1) := by decide +kernel
theorem dX5_place_14 : decode cX5_place 14 = .ok (.goto 8, 3) := by decide +kernel
theorem dX5_place_17 : decode cX5_place 17 = .ok (.aload_n 0, 1) := by decide +kernel
theorem dX5_place_18 : decode cX5_place 18 = .ok (.iconst (-1), 1) := by decide +kernel
theorem dX5_place_19 : decode cX5_place 19 = .ok (.invokevirtual 75, 3) := by decide +kernel
theorem dX5_place_22 : decode cX5_place 22 = .ok (.ireturn, 1) := by decide +kernel
theorem dX5_change_0 : decode cX5_change 0 = .ok (.aload_n 0, 1) := by decide +kernel
theorem dX5_change_1 : decode cX5_change 1 = .ok (.iload_n 1, 1) := by decide +kernel
theorem dX5_change_2 : decode cX5_change 2 = .ok (.invokevirtual 111, 3) := by decide +kernel
theorem dX5_change_5 : decode cX5_change 5 = .ok (.ifCond .eq 25, 3) := by decide +kernel
theorem dX5_change_8 : decode cX5_change 8 = .ok (.aload_n 0, 1) := by decide +kernel
theorem dX5_change_9 : decode cX5_change 9 = .ok (.iload_n 2, 1) := by decide +kernel
theorem dX5_change_10 : decode cX5_change 10 = .ok (.invokevirtual 111, 3) := by decide +kernel
theorem dX5_change_13 : decode cX5_change 13 = .ok (.ifCond .eq 17, 3) := by decide +kernel
theorem dX5_change_16 : decode cX5_change 16 = .ok (.iload_n 1, 1) := by decide +kernel
theorem dX5_change_17 : decode cX5_change 17 = .ok (.iload_n 2, 1) := by decide +kernel
theorem dX5_change_18 : decode cX5_change 18 = .ok (.if_icmp .eq 12, 3) := by decide +kernel
theorem dX5_change_21 : decode cX5_change 21 = .ok (.aload_n 0, 1) := by decide +kernel
theorem dX5_change_22 : decode cX5_change 22 = .ok (.iload_n 1, 1) := by decide +kernel
theorem dX5_change_23 : decode cX5_change 23 = .ok (.iload_n 2, 1) := by decide +kernel
theorem dX5_change_24 : decode cX5_change 24 = .ok (.invokevirtual 114, 3) := by decide +kernel
theorem dX5_change_27 : decode cX5_change 27 = .ok (.goto 8, 3) := by decide +kernel
theorem dX5_change_30 : decode cX5_change 30 = .ok (.aload_n 0, 1) := by decide +kernel
theorem dX5_change_31 : decode cX5_change 31 = .ok (.iconst (-1), 1) := by decide +kernel
theorem dX5_change_32 : decode cX5_change 32 = .ok (.invokevirtual 75, 3) := by decide +kernel
theorem dX5_change_35 : decode cX5_change 35 = .ok (.ireturn, 1) := by decide +kernel
theorem dX5_people_0 : decode cX5_people 0 = .ok (.aload_n 0, 1) := by decide +kernel
theorem dX5_people_1 : decode cX5_people 1 = .ok (.iload_n 1, 1) := by decide +kernel
theorem dX5_people_2 : decode cX5_people 2 = .ok (.invokevirtual 111, 3) := by decide +kernel
theorem dX5_people_5 : decode cX5_people 5 = .ok (.ifCond .ne 9, 3) := by decide +kernel
theorem dX5_people_8 : decode cX5_people 8 = .ok (.aload_n 0, 1) := by decide +kernel
theorem dX5_people_9 : decode cX5_people 9 = .ok (.iconst (-1), 1) := by decide +kernel
theorem dX5_people_10 : decode cX5_people 10 = .ok (.invokevirtual 75, 3) := by decide +kernel
theorem dX5_people_13 : decode cX5_people 13 = .ok (.ireturn, 1) := by decide +kernel
theorem dX5_people_14 : decode cX5_people 14 = .ok (.iload_n 2, 1) := by decide +kernel
theorem dX5_people_15 : decode cX5_people 15 = .ok (.iconst 1, 1) := by decide +kernel
theorem dX5_people_16 : decode cX5_people 16 = .ok (.if_icmp .ge 10, 3) := by decide +kernel
theorem dX5_people_19 : decode cX5_people 19 = .ok (.aload_n 0, 1) := by decide +kernel
theorem dX5_people_20 : decode cX5_people 20 = .ok (.bipush (-4), 2) := by decide +kernel
theorem dX5_people_22 : decode cX5_people 22 = .ok (.invokevirtual 75, 3) := by decide +kernel
theorem dX5_people_25 : decode cX5_people 25 = .ok (.ireturn, 1) := by decide +kernel
theorem dX5_people_26 : decode cX5_people 26 = .ok (.iload_n 2, 1) := by decide +kernel
theorem dX5_people_27 : decode cX5_people 27 = .ok (.bipush 20, 2) := by decide +kernel
theorem dX5_people_29 : decode cX5_people 29 = .ok (.if_icmp .le 10, 3) := by decide +kernel
theorem dX5_people_32 : decode cX5_people 32 = .ok (.aload_n 0, 1) := by decide +kernel
theorem dX5_people_33 : decode cX5_people 33 = .ok (.bipush (-6), 2) := by decide +kernel
theorem dX5_people_35 : decode cX5_people 35 = .ok (.invokevirtual 75, 3) := by decide +kernel
theorem dX5_people_38 : decode cX5_people 38 = .ok (.ireturn, 1) := by decide +kernel
theorem dX5_people_39 : decode cX5_people 39 = .ok (.aload_n 0, 1) := by decide +kernel
theorem dX5_people_40 : decode cX5_people 40 = .ok (.getfield 16, 3) := by decide +kernel
theorem dX5_people_43 : decode cX5_people 43 = .ok (.iload_n 1, 1) := by decide +kernel
theorem dX5_people_44 : decode cX5_people 44 = .ok (.iaload, 1) := by decide +kernel
theorem dX5_people_45 : decode cX5_people 45 = .ok (.istore_n 3, 1) := by decide +kernel
theorem dX5_people_46 : decode cX5_people 46 = .ok (.aload_n 0, 1) := by decide +kernel
theorem dX5_people_47 : decode cX5_people 47 = .ok (.getfield 16, 3) := by decide +kernel
theorem dX5_people_50 : decode cX5_people 50 = .ok (.iload_n 1, 1) := by decide +kernel
theorem dX5_people_51 : decode cX5_people 51 = .ok (.iload_n 2, 1) := by decide +kernel
theorem dX5_people_52 : decode cX5_people 52 = .ok (.iastore, 1) := by decide +kernel
theorem dX5_people_53 : decode cX5_people 53 = .ok (.iload_n 3, 1) := by decide +kernel
theorem dX5_people_54 : decode cX5_people 54 = .ok (.ireturn, 1) := by decide +kernel
theorem dX5_mostOf_0 : decode cX5_mostOf 0 = .ok (.iload_n 0, 1) := by decide +kernel
theorem dX5_mostOf_1 : decode cX5_mostOf 1 = .ok (.tableswitch 71 0 9 #[55, 58, 61, 61, 61, 71, 64, 71, 66, 68], 55) := by decide +kernel
theorem dX5_mostOf_56 : decode cX5_mostOf 56 = .ok (.bipush 40, 2) := by decide +kernel
theorem dX5_mostOf_58 : decode cX5_mostOf 58 = .ok (.ireturn, 1) := by decide +kernel
theorem dX5_mostOf_59 : decode cX5_mostOf 59 = .ok (.bipush 99, 2) := by decide +kernel
theorem dX5_mostOf_61 : decode cX5_mostOf 61 = .ok (.ireturn, 1) := by decide +kernel
theorem dX5_mostOf_62 : decode cX5_mostOf 62 = .ok (.bipush 60, 2) := by decide +kernel
theorem dX5_mostOf_64 : decode cX5_mostOf 64 = .ok (.ireturn, 1) := by decide +kernel
theorem dX5_mostOf_65 : decode cX5_mostOf 65 = .ok (.iconst 1, 1) := by decide +kernel
theorem dX5_mostOf_66 : decode cX5_mostOf 66 = .ok (.ireturn, 1) := by decide +kernel
theorem dX5_mostOf_67 : decode cX5_mostOf 67 = .ok (.iconst 2, 1) := by decide +kernel
theorem dX5_mostOf_68 : decode cX5_mostOf 68 = .ok (.ireturn, 1) := by decide +kernel
theorem dX5_mostOf_69 : decode cX5_mostOf 69 = .ok (.bipush 20, 2) := by decide +kernel
theorem dX5_mostOf_71 : decode cX5_mostOf 71 = .ok (.ireturn, 1) := by decide +kernel
theorem dX5_mostOf_72 : decode cX5_mostOf 72 = .ok (.bipush 9, 2) := by decide +kernel
theorem dX5_mostOf_74 : decode cX5_mostOf 74 = .ok (.ireturn, 1) := by decide +kernel
theorem dX5_set_0 : decode cX5_set 0 = .ok (.iload_n 1, 1) := by decide +kernel
theorem dX5_set_1 : decode cX5_set 1 = .ok (.iconst 0, 1) := by decide +kernel
theorem dX5_set_2 : decode cX5_set 2 = .ok (.bipush 9, 2) := by decide +kernel
theorem dX5_set_4 : decode cX5_set 4 = .ok (.invokestatic 83, 3) := by decide +kernel
theorem dX5_set_7 : decode cX5_set 7 = .ok (.ifCond .ne 10, 3) := by decide +kernel
theorem dX5_set_10 : decode cX5_set 10 = .ok (.aload_n 0, 1) := by decide +kernel
theorem dX5_set_11 : decode cX5_set 11 = .ok (.bipush (-2), 2) := by decide +kernel
theorem dX5_set_13 : decode cX5_set 13 = .ok (.invokevirtual 75, 3) := by decide +kernel
theorem dX5_set_16 : decode cX5_set 16 = .ok (.ireturn, 1) := by decide +kernel
theorem dX5_set_17 : decode cX5_set 17 = .ok (.iload_n 2, 1) := by decide +kernel
theorem dX5_set_18 : decode cX5_set 18 = .ok (.ifCond .ge 10, 3) := by decide +kernel
theorem dX5_set_21 : decode cX5_set 21 = .ok (.aload_n 0, 1) := by decide +kernel
theorem dX5_set_22 : decode cX5_set 22 = .ok (.bipush (-4), 2) := by decide +kernel
theorem dX5_set_24 : decode cX5_set 24 = .ok (.invokevirtual 75, 3) := by decide +kernel
theorem dX5_set_27 : decode cX5_set 27 = .ok (.ireturn, 1) := by decide +kernel
theorem dX5_set_28 : decode cX5_set 28 = .ok (.iload_n 2, 1) := by decide +kernel
theorem dX5_set_29 : decode cX5_set 29 = .ok (.iload_n 1, 1) := by decide +kernel
theorem dX5_set_30 : decode cX5_set 30 = .ok (.invokestatic 132, 3) := by decide +kernel
theorem dX5_set_33 : decode cX5_set 33 = .ok (.if_icmp .le 10, 3) := by decide +kernel
theorem dX5_set_36 : decode cX5_set 36 = .ok (.aload_n 0, 1) := by decide +kernel
theorem dX5_set_37 : decode cX5_set 37 = .ok (.bipush (-6), 2) := by decide +kernel
theorem dX5_set_39 : decode cX5_set 39 = .ok (.invokevirtual 75, 3) := by decide +kernel
theorem dX5_set_42 : decode cX5_set 42 = .ok (.ireturn, 1) := by decide +kernel
theorem dX5_set_43 : decode cX5_set 43 = .ok (.aload_n 0, 1) := by decide +kernel
theorem dX5_set_44 : decode cX5_set 44 = .ok (.getfield 25, 3) := by decide +kernel
theorem dX5_set_47 : decode cX5_set 47 = .ok (.iload_n 1, 1) := by decide +kernel
theorem dX5_set_48 : decode cX5_set 48 = .ok (.iaload, 1) := by decide +kernel
theorem dX5_set_49 : decode cX5_set 49 = .ok (.istore_n 3, 1) := by decide +kernel
theorem dX5_set_50 : decode cX5_set 50 = .ok (.aload_n 0, 1) := by decide +kernel
theorem dX5_set_51 : decode cX5_set 51 = .ok (.getfield 25, 3) := by decide +kernel
theorem dX5_set_54 : decode cX5_set 54 = .ok (.iload_n 1, 1) := by decide +kernel
theorem dX5_set_55 : decode cX5_set 55 = .ok (.iload_n 2, 1) := by decide +kernel
theorem dX5_set_56 : decode cX5_set 56 = .ok (.iastore, 1) := by decide +kernel
theorem dX5_set_57 : decode cX5_set 57 = .ok (.iload_n 3, 1) := by decide +kernel
theorem dX5_set_58 : decode cX5_set 58 = .ok (.ireturn, 1) := by decide +kernel
theorem dX5_comes_0 : decode cX5_comes 0 = .ok (.aload_n 0, 1) := by decide +kernel
theorem dX5_comes_1 : decode cX5_comes 1 = .ok (.getfield 7, 3) := by decide +kernel
theorem dX5_comes_4 : decode cX5_comes 4 = .ok (.iload_n 1, 1) := by decide +kernel
theorem dX5_comes_5 : decode cX5_comes 5 = .ok (.iaload, 1) := by decide +kernel
theorem dX5_comes_6 : decode cX5_comes 6 = .ok (.tableswitch 62 1 5 #[34, 51, 62, 51, 34], 34) := by decide +kernel
theorem dX5_comes_40 : decode cX5_comes 40 = .ok (.iload_n 2, 1) := by decide +kernel
theorem dX5_comes_41 : decode cX5_comes 41 = .ok (.bipush 10, 2) := by decide +kernel
theorem dX5_comes_43 : decode cX5_comes 43 = .ok (.if_icmp .ge 7, 3) := by decide +kernel
theorem dX5_comes_46 : decode cX5_comes 46 = .ok (.iconst 0, 1) := by decide +kernel
theorem dX5_comes_47 : decode cX5_comes 47 = .ok (.goto 9, 3) := by decide +kernel
theorem dX5_comes_50 : decode cX5_comes 50 = .ok (.aload_n 0, 1) := by decide +kernel
theorem dX5_comes_51 : decode cX5_comes 51 = .ok (.getfield 16, 3) := by decide +kernel
theorem dX5_comes_54 : decode cX5_comes 54 = .ok (.iload_n 1, 1) := by decide +kernel
theorem dX5_comes_55 : decode cX5_comes 55 = .ok (.iaload, 1) := by decide +kernel
theorem dX5_comes_56 : decode cX5_comes 56 = .ok (.ireturn, 1) := by decide +kernel
theorem dX5_comes_57 : decode cX5_comes 57 = .ok (.aload_n 0, 1) := by decide +kernel
theorem dX5_comes_58 : decode cX5_comes 58 = .ok (.getfield 16, 3) := by decide +kernel
theorem dX5_comes_61 : decode cX5_comes 61 = .ok (.iload_n 1, 1) := by decide +kernel
theorem dX5_comes_62 : decode cX5_comes 62 = .ok (.iaload, 1) := by decide +kernel
theorem dX5_comes_63 : decode cX5_comes 63 = .ok (.iconst 1, 1) := by decide +kernel
theorem dX5_comes_64 : decode cX5_comes 64 = .ok (.iadd, 1) := by decide +kernel
theorem dX5_comes_65 : decode cX5_comes 65 = .ok (.iconst 2, 1) := by decide +kernel
theorem dX5_comes_66 : decode cX5_comes 66 = .ok (.idiv, 1) := by decide +kernel
theorem dX5_comes_67 : decode cX5_comes 67 = .ok (.ireturn, 1) := by decide +kernel
theorem dX5_comes_68 : decode cX5_comes 68 = .ok (.aload_n 0, 1) := by decide +kernel
theorem dX5_comes_69 : decode cX5_comes 69 = .ok (.getfield 16, 3) := by decide +kernel
theorem dX5_comes_72 : decode cX5_comes 72 = .ok (.iload_n 1, 1) := by decide +kernel
theorem dX5_comes_73 : decode cX5_comes 73 = .ok (.iaload, 1) := by decide +kernel
theorem dX5_comes_74 : decode cX5_comes 74 = .ok (.ireturn, 1) := by decide +kernel
theorem dX5_come_0 : decode cX5_come 0 = .ok (.aload_n 0, 1) := by decide +kernel
theorem dX5_come_1 : decode cX5_come 1 = .ok (.iload_n 1, 1) := by decide +kernel
theorem dX5_come_2 : decode cX5_come 2 = .ok (.invokevirtual 111, 3) := by decide +kernel
theorem dX5_come_5 : decode cX5_come 5 = .ok (.ifCond .ne 9, 3) := by decide +kernel
theorem dX5_come_8 : decode cX5_come 8 = .ok (.aload_n 0, 1) := by decide +kernel
theorem dX5_come_9 : decode cX5_come 9 = .ok (.iconst (-1), 1) := by decide +kernel
theorem dX5_come_10 : decode cX5_come 10 = .ok (.invokevirtual 75, 3) := by decide +kernel
theorem dX5_come_13 : decode cX5_come 13 = .ok (.ireturn, 1) := by decide +kernel
theorem dX5_come_14 : decode cX5_come 14 = .ok (.iload_n 2, 1) := by decide +kernel
theorem dX5_come_15 : decode cX5_come 15 = .ok (.ifCond .ge 10, 3) := by decide +kernel
theorem dX5_come_18 : decode cX5_come 18 = .ok (.aload_n 0, 1) := by decide +kernel
theorem dX5_come_19 : decode cX5_come 19 = .ok (.bipush (-4), 2) := by decide +kernel
theorem dX5_come_21 : decode cX5_come 21 = .ok (.invokevirtual 75, 3) := by decide +kernel
theorem dX5_come_24 : decode cX5_come 24 = .ok (.ireturn, 1) := by decide +kernel
theorem dX5_come_25 : decode cX5_come 25 = .ok (.iload_n 2, 1) := by decide +kernel
theorem dX5_come_26 : decode cX5_come 26 = .ok (.sipush 999, 3) := by decide +kernel
theorem dX5_come_29 : decode cX5_come 29 = .ok (.if_icmp .le 12, 3) := by decide +kernel
theorem dX5_come_32 : decode cX5_come 32 = .ok (.aload_n 0, 1) := by decide +kernel
theorem dX5_come_33 : decode cX5_come 33 = .ok (.bipush (-6), 2) := by decide +kernel
theorem dX5_come_35 : decode cX5_come 35 = .ok (.invokevirtual 75, 3) := by decide +kernel
theorem dX5_come_38 : decode cX5_come 38 = .ok (.goto 9, 3) := by decide +kernel
theorem dX5_come_41 : decode cX5_come 41 = .ok (.aload_n 0, 1) := by decide +kernel
theorem dX5_come_42 : decode cX5_come 42 = .ok (.iload_n 1, 1) := by decide +kernel
theorem dX5_come_43 : decode cX5_come 43 = .ok (.iload_n 2, 1) := by decide +kernel
theorem dX5_come_44 : decode cX5_come 44 = .ok (.invokevirtual 135, 3) := by decide +kernel
theorem dX5_come_47 : decode cX5_come 47 = .ok (.ireturn, 1) := by decide +kernel
theorem dX5_serves_0 : decode cX5_serves 0 = .ok (.iload_n 2, 1) := by decide +kernel
theorem dX5_serves_1 : decode cX5_serves 1 = .ok (.iconst 1, 1) := by decide +kernel
theorem dX5_serves_2 : decode cX5_serves 2 = .ok (.iadd, 1) := by decide +kernel
theorem dX5_serves_3 : decode cX5_serves 3 = .ok (.iconst 2, 1) := by decide +kernel
theorem dX5_serves_4 : decode cX5_serves 4 = .ok (.idiv, 1) := by decide +kernel
theorem dX5_serves_5 : decode cX5_serves 5 = .ok (.aload_n 0, 1) := by decide +kernel
theorem dX5_serves_6 : decode cX5_serves 6 = .ok (.getfield 19, 3) := by decide +kernel
theorem dX5_serves_9 : decode cX5_serves 9 = .ok (.iload_n 1, 1) := by decide +kernel
theorem dX5_serves_10 : decode cX5_serves 10 = .ok (.iaload, 1) := by decide +kernel
theorem dX5_serves_11 : decode cX5_serves 11 = .ok (.iadd, 1) := by decide +kernel
theorem dX5_serves_12 : decode cX5_serves 12 = .ok (.istore_n 3, 1) := by decide +kernel
theorem dX5_serves_13 : decode cX5_serves 13 = .ok (.aload_n 0, 1) := by decide +kernel
theorem dX5_serves_14 : decode cX5_serves 14 = .ok (.getfield 7, 3) := by decide +kernel
theorem dX5_serves_17 : decode cX5_serves 17 = .ok (.iload_n 1, 1) := by decide +kernel
theorem dX5_serves_18 : decode cX5_serves 18 = .ok (.iaload, 1) := by decide +kernel
theorem dX5_serves_19 : decode cX5_serves 19 = .ok (.iconst 3, 1) := by decide +kernel
theorem dX5_serves_20 : decode cX5_serves 20 = .ok (.if_icmp .ne 9, 3) := by decide +kernel
theorem dX5_serves_23 : decode cX5_serves 23 = .ok (.iload_n 3, 1) := by decide +kernel
theorem dX5_serves_24 : decode cX5_serves 24 = .ok (.iconst 2, 1) := by decide +kernel
theorem dX5_serves_25 : decode cX5_serves 25 = .ok (.iadd, 1) := by decide +kernel
theorem dX5_serves_26 : decode cX5_serves 26 = .ok (.goto 20, 3) := by decide +kernel
theorem dX5_serves_29 : decode cX5_serves 29 = .ok (.aload_n 0, 1) := by decide +kernel
theorem dX5_serves_30 : decode cX5_serves 30 = .ok (.getfield 7, 3) := by decide +kernel
theorem dX5_serves_33 : decode cX5_serves 33 = .ok (.iload_n 1, 1) := by decide +kernel
theorem dX5_serves_34 : decode cX5_serves 34 = .ok (.iaload, 1) := by decide +kernel
theorem dX5_serves_35 : decode cX5_serves 35 = .ok (.iconst 5, 1) := by decide +kernel
theorem dX5_serves_36 : decode cX5_serves 36 = .ok (.if_icmp .ne 9, 3) := by decide +kernel
theorem dX5_serves_39 : decode cX5_serves 39 = .ok (.iload_n 3, 1) := by decide +kernel
theorem dX5_serves_40 : decode cX5_serves 40 = .ok (.iconst 2, 1) := by decide +kernel
theorem dX5_serves_41 : decode cX5_serves 41 = .ok (.idiv, 1) := by decide +kernel
theorem dX5_serves_42 : decode cX5_serves 42 = .ok (.goto 4, 3) := by decide +kernel
theorem dX5_serves_45 : decode cX5_serves 45 = .ok (.iload_n 3, 1) := by decide +kernel
theorem dX5_serves_46 : decode cX5_serves 46 = .ok (.ireturn, 1) := by decide +kernel
theorem dX5_goes_0 : decode cX5_goes 0 = .ok (.iload_n 1, 1) := by decide +kernel
theorem dX5_goes_1 : decode cX5_goes 1 = .ok (.iload_n 2, 1) := by decide +kernel
theorem dX5_goes_2 : decode cX5_goes 2 = .ok (.if_icmp .ne 5, 3) := by decide +kernel
theorem dX5_goes_5 : decode cX5_goes 5 = .ok (.iconst 0, 1) := by decide +kernel
theorem dX5_goes_6 : decode cX5_goes 6 = .ok (.ireturn, 1) := by decide +kernel
theorem dX5_goes_7 : decode cX5_goes 7 = .ok (.iload_n 3, 1) := by decide +kernel
theorem dX5_goes_8 : decode cX5_goes 8 = .ok (.ifCond .ne 20, 3) := by decide +kernel
theorem dX5_goes_11 : decode cX5_goes 11 = .ok (.aload_n 0, 1) := by decide +kernel
theorem dX5_goes_12 : decode cX5_goes 12 = .ok (.getfield 25, 3) := by decide +kernel
theorem dX5_goes_15 : decode cX5_goes 15 = .ok (.bipush 7, 2) := by decide +kernel
theorem dX5_goes_17 : decode cX5_goes 17 = .ok (.iaload, 1) := by decide +kernel
theorem dX5_goes_18 : decode cX5_goes 18 = .ok (.iload_n 1, 1) := by decide +kernel
theorem dX5_goes_19 : decode cX5_goes 19 = .ok (.iload_n 2, 1) := by decide +kernel
theorem dX5_goes_20 : decode cX5_goes 20 = .ok (.isub, 1) := by decide +kernel
theorem dX5_goes_21 : decode cX5_goes 21 = .ok (.invokestatic 138, 3) := by decide +kernel
theorem dX5_goes_24 : decode cX5_goes 24 = .ok (.iadd, 1) := by decide +kernel
theorem dX5_goes_25 : decode cX5_goes 25 = .ok (.goto 11, 3) := by decide +kernel
theorem dX5_goes_28 : decode cX5_goes 28 = .ok (.iconst 3, 1) := by decide +kernel
theorem dX5_goes_29 : decode cX5_goes 29 = .ok (.iload_n 1, 1) := by decide +kernel
theorem dX5_goes_30 : decode cX5_goes 30 = .ok (.iload_n 2, 1) := by decide +kernel
theorem dX5_goes_31 : decode cX5_goes 31 = .ok (.isub, 1) := by decide +kernel
theorem dX5_goes_32 : decode cX5_goes 32 = .ok (.invokestatic 138, 3) := by decide +kernel
theorem dX5_goes_35 : decode cX5_goes 35 = .ok (.imul, 1) := by decide +kernel
theorem dX5_goes_36 : decode cX5_goes 36 = .ok (.ireturn, 1) := by decide +kernel
theorem dX5_going_0 : decode cX5_going 0 = .ok (.iload_n 1, 1) := by decide +kernel
theorem dX5_going_1 : decode cX5_going 1 = .ok (.ifCond .lt 7, 3) := by decide +kernel
theorem dX5_going_4 : decode cX5_going 4 = .ok (.iload_n 2, 1) := by decide +kernel
theorem dX5_going_5 : decode cX5_going 5 = .ok (.ifCond .ge 10, 3) := by decide +kernel
theorem dX5_going_8 : decode cX5_going 8 = .ok (.aload_n 0, 1) := by decide +kernel
theorem dX5_going_9 : decode cX5_going 9 = .ok (.bipush (-4), 2) := by decide +kernel
theorem dX5_going_11 : decode cX5_going 11 = .ok (.invokevirtual 75, 3) := by decide +kernel
theorem dX5_going_14 : decode cX5_going 14 = .ok (.ireturn, 1) := by decide +kernel
theorem dX5_going_15 : decode cX5_going 15 = .ok (.iload_n 1, 1) := by decide +kernel
theorem dX5_going_16 : decode cX5_going 16 = .ok (.bipush 9, 2) := by decide +kernel
theorem dX5_going_18 : decode cX5_going 18 = .ok (.if_icmp .gt 9, 3) := by decide +kernel
theorem dX5_going_21 : decode cX5_going 21 = .ok (.iload_n 2, 1) := by decide +kernel
theorem dX5_going_22 : decode cX5_going 22 = .ok (.bipush 9, 2) := by decide +kernel
theorem dX5_going_24 : decode cX5_going 24 = .ok (.if_icmp .le 12, 3) := by decide +kernel
theorem dX5_going_27 : decode cX5_going 27 = .ok (.aload_n 0, 1) := by decide +kernel
theorem dX5_going_28 : decode cX5_going 28 = .ok (.bipush (-6), 2) := by decide +kernel
theorem dX5_going_30 : decode cX5_going 30 = .ok (.invokevirtual 75, 3) := by decide +kernel
theorem dX5_going_33 : decode cX5_going 33 = .ok (.goto 16, 3) := by decide +kernel
theorem dX5_going_36 : decode cX5_going 36 = .ok (.aload_n 0, 1) := by decide +kernel
theorem dX5_going_37 : decode cX5_going 37 = .ok (.iload_n 1, 1) := by decide +kernel
theorem dX5_going_38 : decode cX5_going 38 = .ok (.iload_n 2, 1) := by decide +kernel
theorem dX5_going_39 : decode cX5_going 39 = .ok (.aload_n 0, 1) := by decide +kernel
theorem dX5_going_40 : decode cX5_going 40 = .ok (.getfield 25, 3) := by decide +kernel
theorem dX5_going_43 : decode cX5_going 43 = .ok (.bipush 6, 2) := by decide +kernel
theorem dX5_going_45 : decode cX5_going 45 = .ok (.iaload, 1) := by decide +kernel
theorem dX5_going_46 : decode cX5_going 46 = .ok (.invokevirtual 143, 3) := by decide +kernel
theorem dX5_going_49 : decode cX5_going 49 = .ok (.ireturn, 1) := by decide +kernel
theorem dX5_takes_0 : decode cX5_takes 0 = .ok (.aload_n 0, 1) := by decide +kernel
theorem dX5_takes_1 : decode cX5_takes 1 = .ok (.getfield 28, 3) := by decide +kernel
theorem dX5_takes_4 : decode cX5_takes 4 = .ok (.iconst 0, 1) := by decide +kernel
theorem dX5_takes_5 : decode cX5_takes 5 = .ok (.iaload, 1) := by decide +kernel
theorem dX5_takes_6 : decode cX5_takes 6 = .ok (.iload_n 1, 1) := by decide +kernel
theorem dX5_takes_7 : decode cX5_takes 7 = .ok (.ifCond .eq 7, 3) := by decide +kernel
theorem dX5_takes_10 : decode cX5_takes 10 = .ok (.iconst 0, 1) := by decide +kernel
theorem dX5_takes_11 : decode cX5_takes 11 = .ok (.goto 10, 3) := by decide +kernel
theorem dX5_takes_14 : decode cX5_takes 14 = .ok (.aload_n 0, 1) := by decide +kernel
theorem dX5_takes_15 : decode cX5_takes 15 = .ok (.getfield 25, 3) := by decide +kernel
theorem dX5_takes_18 : decode cX5_takes 18 = .ok (.bipush 9, 2) := by decide +kernel
theorem dX5_takes_20 : decode cX5_takes 20 = .ok (.iaload, 1) := by decide +kernel
theorem dX5_takes_21 : decode cX5_takes 21 = .ok (.if_icmp .le 5, 3) := by decide +kernel
theorem dX5_takes_24 : decode cX5_takes 24 = .ok (.iconst 0, 1) := by decide +kernel
theorem dX5_takes_25 : decode cX5_takes 25 = .ok (.ireturn, 1) := by decide +kernel
theorem dX5_takes_26 : decode cX5_takes 26 = .ok (.aload_n 0, 1) := by decide +kernel
theorem dX5_takes_27 : decode cX5_takes 27 = .ok (.getfield 28, 3) := by decide +kernel
theorem dX5_takes_30 : decode cX5_takes 30 = .ok (.iconst 1, 1) := by decide +kernel
theorem dX5_takes_31 : decode cX5_takes 31 = .ok (.iaload, 1) := by decide +kernel
theorem dX5_takes_32 : decode cX5_takes 32 = .ok (.ifCond .le 7, 3) := by decide +kernel
theorem dX5_takes_35 : decode cX5_takes 35 = .ok (.iconst 1, 1) := by decide +kernel
theorem dX5_takes_36 : decode cX5_takes 36 = .ok (.goto 17, 3) := by decide +kernel
theorem dX5_takes_39 : decode cX5_takes 39 = .ok (.aload_n 0, 1) := by decide +kernel
theorem dX5_takes_40 : decode cX5_takes 40 = .ok (.getfield 28, 3) := by decide +kernel
theorem dX5_takes_43 : decode cX5_takes 43 = .ok (.iconst 2, 1) := by decide +kernel
theorem dX5_takes_44 : decode cX5_takes 44 = .ok (.iaload, 1) := by decide +kernel
theorem dX5_takes_45 : decode cX5_takes 45 = .ok (.ifCond .le 7, 3) := by decide +kernel
theorem dX5_takes_48 : decode cX5_takes 48 = .ok (.iconst 2, 1) := by decide +kernel
theorem dX5_takes_49 : decode cX5_takes 49 = .ok (.goto 4, 3) := by decide +kernel
theorem dX5_takes_52 : decode cX5_takes 52 = .ok (.iconst (-1), 1) := by decide +kernel
theorem dX5_takes_53 : decode cX5_takes 53 = .ok (.ireturn, 1) := by decide +kernel
theorem dX5_round_0 : decode cX5_round 0 = .ok (.iconst 0, 1) := by decide +kernel
theorem dX5_round_1 : decode cX5_round 1 = .ok (.istore_n 1, 1) := by decide +kernel
theorem dX5_round_2 : decode cX5_round 2 = .ok (.iload_n 1, 1) := by decide +kernel
theorem dX5_round_3 : decode cX5_round 3 = .ok (.bipush 8, 2) := by decide +kernel
theorem dX5_round_5 : decode cX5_round 5 = .ok (.if_icmp .ge 16, 3) := by decide +kernel
theorem dX5_round_8 : decode cX5_round 8 = .ok (.aload_n 0, 1) := by decide +kernel
theorem dX5_round_9 : decode cX5_round 9 = .ok (.getfield 31, 3) := by decide +kernel
theorem dX5_round_12 : decode cX5_round 12 = .ok (.iload_n 1, 1) := by decide +kernel
theorem dX5_round_13 : decode cX5_round 13 = .ok (.iconst 0, 1) := by decide +kernel
theorem dX5_round_14 : decode cX5_round 14 = .ok (.iastore, 1) := by decide +kernel
theorem dX5_round_15 : decode cX5_round 15 = .ok (.iinc 1 1, 3) := by decide +kernel
theorem dX5_round_18 : decode cX5_round 18 = .ok (.goto (-16), 3) := by decide +kernel
theorem dX5_round_21 : decode cX5_round 21 = .ok (.iconst 0, 1) := by decide +kernel
theorem dX5_round_22 : decode cX5_round 22 = .ok (.istore_n 1, 1) := by decide +kernel
theorem dX5_round_23 : decode cX5_round 23 = .ok (.iload_n 1, 1) := by decide +kernel
theorem dX5_round_24 : decode cX5_round 24 = .ok (.iconst 3, 1) := by decide +kernel
theorem dX5_round_25 : decode cX5_round 25 = .ok (.if_icmp .ge 23, 3) := by decide +kernel
theorem dX5_round_28 : decode cX5_round 28 = .ok (.aload_n 0, 1) := by decide +kernel
theorem dX5_round_29 : decode cX5_round 29 = .ok (.getfield 28, 3) := by decide +kernel
theorem dX5_round_32 : decode cX5_round 32 = .ok (.iload_n 1, 1) := by decide +kernel
theorem dX5_round_33 : decode cX5_round 33 = .ok (.aload_n 0, 1) := by decide +kernel
theorem dX5_round_34 : decode cX5_round 34 = .ok (.getfield 25, 3) := by decide +kernel
theorem dX5_round_37 : decode cX5_round 37 = .ok (.iconst 2, 1) := by decide +kernel
theorem dX5_round_38 : decode cX5_round 38 = .ok (.iload_n 1, 1) := by decide +kernel
theorem dX5_round_39 : decode cX5_round 39 = .ok (.iadd, 1) := by decide +kernel
theorem dX5_round_40 : decode cX5_round 40 = .ok (.iaload, 1) := by decide +kernel
theorem dX5_round_41 : decode cX5_round 41 = .ok (.iastore, 1) := by decide +kernel
theorem dX5_round_42 : decode cX5_round 42 = .ok (.iinc 1 1, 3) := by decide +kernel
theorem dX5_round_45 : decode cX5_round 45 = .ok (.goto (-22), 3) := by decide +kernel
theorem dX5_round_48 : decode cX5_round 48 = .ok (.aload_n 0, 1) := by decide +kernel
theorem dX5_round_49 : decode cX5_round 49 = .ok (.iconst 0, 1) := by decide +kernel
theorem dX5_round_50 : decode cX5_round 50 = .ok (.putfield 147, 3) := by decide +kernel
theorem dX5_round_53 : decode cX5_round 53 = .ok (.aload_n 0, 1) := by decide +kernel
theorem dX5_round_54 : decode cX5_round 54 = .ok (.getfield 25, 3) := by decide +kernel
theorem dX5_round_57 : decode cX5_round 57 = .ok (.iconst 0, 1) := by decide +kernel
theorem dX5_round_58 : decode cX5_round 58 = .ok (.iaload, 1) := by decide +kernel
theorem dX5_round_59 : decode cX5_round 59 = .ok (.istore_n 1, 1) := by decide +kernel
theorem dX5_round_60 : decode cX5_round 60 = .ok (.aload_n 0, 1) := by decide +kernel
theorem dX5_round_61 : decode cX5_round 61 = .ok (.getfield 25, 3) := by decide +kernel
theorem dX5_round_64 : decode cX5_round 64 = .ok (.iconst 1, 1) := by decide +kernel
theorem dX5_round_65 : decode cX5_round 65 = .ok (.iaload, 1) := by decide +kernel
theorem dX5_round_66 : decode cX5_round 66 = .ok (.istore_n 2, 1) := by decide +kernel
theorem dX5_round_67 : decode cX5_round 67 = .ok (.iconst 0, 1) := by decide +kernel
theorem dX5_round_68 : decode cX5_round 68 = .ok (.istore_n 3, 1) := by decide +kernel
theorem dX5_round_69 : decode cX5_round 69 = .ok (.iconst 0, 1) := by decide +kernel
theorem dX5_round_70 : decode cX5_round 70 = .ok (.istore 4, 2) := by decide +kernel
theorem dX5_round_72 : decode cX5_round 72 = .ok (.aload_n 0, 1) := by decide +kernel
theorem dX5_round_73 : decode cX5_round 73 = .ok (.getfield 25, 3) := by decide +kernel
theorem dX5_round_76 : decode cX5_round 76 = .ok (.iconst 5, 1) := by decide +kernel
theorem dX5_round_77 : decode cX5_round 77 = .ok (.iaload, 1) := by decide +kernel
theorem dX5_round_78 : decode cX5_round 78 = .ok (.istore 5, 2) := by decide +kernel
theorem dX5_round_80 : decode cX5_round 80 = .ok (.iconst 0, 1) := by decide +kernel
theorem dX5_round_81 : decode cX5_round 81 = .ok (.istore 6, 2) := by decide +kernel
theorem dX5_round_83 : decode cX5_round 83 = .ok (.iload 6, 2) := by decide +kernel
theorem dX5_round_85 : decode cX5_round 85 = .ok (.aload_n 0, 1) := by decide +kernel
theorem dX5_round_86 : decode cX5_round 86 = .ok (.getfield 79, 3) := by decide +kernel
theorem dX5_round_89 : decode cX5_round 89 = .ok (.if_icmp .ge 504, 3) := by decide +kernel
theorem dX5_round_92 : decode cX5_round 92 = .ok (.aload_n 0, 1) := by decide +kernel
theorem dX5_round_93 : decode cX5_round 93 = .ok (.getfield 22, 3) := by decide +kernel
theorem dX5_round_96 : decode cX5_round 96 = .ok (.iload 6, 2) := by decide +kernel
theorem dX5_round_98 : decode cX5_round 98 = .ok (.iaload, 1) := by decide +kernel
theorem dX5_round_99 : decode cX5_round 99 = .ok (.istore 7, 2) := by decide +kernel
theorem dX5_round_101 : decode cX5_round 101 = .ok (.iload 4, 2) := by decide +kernel
theorem dX5_round_103 : decode cX5_round 103 = .ok (.aload_n 0, 1) := by decide +kernel
theorem dX5_round_104 : decode cX5_round 104 = .ok (.iload 5, 2) := by decide +kernel
theorem dX5_round_106 : decode cX5_round 106 = .ok (.aload_n 0, 1) := by decide +kernel
theorem dX5_round_107 : decode cX5_round 107 = .ok (.getfield 13, 3) := by decide +kernel
theorem dX5_round_110 : decode cX5_round 110 = .ok (.iload 7, 2) := by decide +kernel
theorem dX5_round_112 : decode cX5_round 112 = .ok (.iaload, 1) := by decide +kernel
theorem dX5_round_113 : decode cX5_round 113 = .ok (.aload_n 0, 1) := by decide +kernel
theorem dX5_round_114 : decode cX5_round 114 = .ok (.getfield 25, 3) := by decide +kernel
theorem dX5_round_117 : decode cX5_round 117 = .ok (.bipush 6, 2) := by decide +kernel
theorem dX5_round_119 : decode cX5_round 119 = .ok (.iaload, 1) := by decide +kernel
theorem dX5_round_120 : decode cX5_round 120 = .ok (.invokevirtual 143, 3) := by decide +kernel
theorem dX5_round_123 : decode cX5_round 123 = .ok (.iadd, 1) := by decide +kernel
theorem dX5_round_124 : decode cX5_round 124 = .ok (.istore 4, 2) := by decide +kernel
theorem dX5_round_126 : decode cX5_round 126 = .ok (.aload_n 0, 1) := by decide +kernel
theorem dX5_round_127 : decode cX5_round 127 = .ok (.getfield 13, 3) := by decide +kernel
theorem dX5_round_130 : decode cX5_round 130 = .ok (.iload 7, 2) := by decide +kernel
theorem dX5_round_132 : decode cX5_round 132 = .ok (.iaload, 1) := by decide +kernel
theorem dX5_round_133 : decode cX5_round 133 = .ok (.istore 5, 2) := by decide +kernel
theorem dX5_round_135 : decode cX5_round 135 = .ok (.aload_n 0, 1) := by decide +kernel
theorem dX5_round_136 : decode cX5_round 136 = .ok (.getfield 34, 3) := by decide +kernel
theorem dX5_round_139 : decode cX5_round 139 = .ok (.iload 6, 2) := by decide +kernel
theorem dX5_round_141 : decode cX5_round 141 = .ok (.iload 4, 2) := by decide +kernel
theorem dX5_round_143 : decode cX5_round 143 = .ok (.iastore, 1) := by decide +kernel
theorem dX5_round_144 : decode cX5_round 144 = .ok (.aload_n 0, 1) := by decide +kernel
theorem dX5_round_145 : decode cX5_round 145 = .ok (.iload 7, 2) := by decide +kernel
theorem dX5_round_147 : decode cX5_round 147 = .ok (.iload 4, 2) := by decide +kernel
theorem dX5_round_149 : decode cX5_round 149 = .ok (.invokevirtual 135, 3) := by decide +kernel
theorem dX5_round_152 : decode cX5_round 152 = .ok (.istore 8, 2) := by decide +kernel
theorem dX5_round_154 : decode cX5_round 154 = .ok (.iconst 0, 1) := by decide +kernel
theorem dX5_round_155 : decode cX5_round 155 = .ok (.iload_n 2, 1) := by decide +kernel
theorem dX5_round_156 : decode cX5_round 156 = .ok (.iload 4, 2) := by decide +kernel
theorem dX5_round_158 : decode cX5_round 158 = .ok (.iload_n 3, 1) := by decide +kernel
theorem dX5_round_159 : decode cX5_round 159 = .ok (.isub, 1) := by decide +kernel
theorem dX5_round_160 : decode cX5_round 160 = .ok (.iconst 4, 1) := by decide +kernel
theorem dX5_round_161 : decode cX5_round 161 = .ok (.idiv, 1) := by decide +kernel
theorem dX5_round_162 : decode cX5_round 162 = .ok (.isub, 1) := by decide +kernel
theorem dX5_round_163 : decode cX5_round 163 = .ok (.invokestatic 150, 3) := by decide +kernel
theorem dX5_round_166 : decode cX5_round 166 = .ok (.istore 9, 2) := by decide +kernel
theorem dX5_round_168 : decode cX5_round 168 = .ok (.iload_n 1, 1) := by decide +kernel
theorem dX5_round_169 : decode cX5_round 169 = .ok (.iload 8, 2) := by decide +kernel
theorem dX5_round_171 : decode cX5_round 171 = .ok (.if_icmp .ge 92, 3) := by decide +kernel
theorem dX5_round_174 : decode cX5_round 174 = .ok (.aload_n 0, 1) := by decide +kernel
theorem dX5_round_175 : decode cX5_round 175 = .ok (.getfield 25, 3) := by decide +kernel
theorem dX5_round_178 : decode cX5_round 178 = .ok (.bipush 8, 2) := by decide +kernel
theorem dX5_round_180 : decode cX5_round 180 = .ok (.iaload, 1) := by decide +kernel
theorem dX5_round_181 : decode cX5_round 181 = .ok (.ifCond .le 82, 3) := by decide +kernel
theorem dX5_round_184 : decode cX5_round 184 = .ok (.iload 4, 2) := by decide +kernel
theorem dX5_round_186 : decode cX5_round 186 = .ok (.aload_n 0, 1) := by decide +kernel
theorem dX5_round_187 : decode cX5_round 187 = .ok (.getfield 25, 3) := by decide +kernel
theorem dX5_round_190 : decode cX5_round 190 = .ok (.bipush 8, 2) := by decide +kernel
theorem dX5_round_192 : decode cX5_round 192 = .ok (.iaload, 1) := by decide +kernel
theorem dX5_round_193 : decode cX5_round 193 = .ok (.iconst 1, 1) := by decide +kernel
theorem dX5_round_194 : decode cX5_round 194 = .ok (.if_icmp .ne 8, 3) := by decide +kernel
theorem dX5_round_197 : decode cX5_round 197 = .ok (.bipush 11, 2) := by decide +kernel
theorem dX5_round_199 : decode cX5_round 199 = .ok (.goto 5, 3) := by decide +kernel
theorem dX5_round_202 : decode cX5_round 202 = .ok (.bipush 6, 2) := by decide +kernel
theorem dX5_round_204 : decode cX5_round 204 = .ok (.iadd, 1) := by decide +kernel
theorem dX5_round_205 : decode cX5_round 205 = .ok (.istore 4, 2) := by decide +kernel
theorem dX5_round_207 : decode cX5_round 207 = .ok (.aload_n 0, 1) := by decide +kernel
theorem dX5_round_208 : decode cX5_round 208 = .ok (.getfield 25, 3) := by decide +kernel
theorem dX5_round_211 : decode cX5_round 211 = .ok (.bipush 8, 2) := by decide +kernel
theorem dX5_round_213 : decode cX5_round 213 = .ok (.iaload, 1) := by decide +kernel
theorem dX5_round_214 : decode cX5_round 214 = .ok (.iconst 1, 1) := by decide +kernel
theorem dX5_round_215 : decode cX5_round 215 = .ok (.if_icmp .ne 8, 3) := by decide +kernel
theorem dX5_round_218 : decode cX5_round 218 = .ok (.bipush 90, 2) := by decide +kernel
theorem dX5_round_220 : decode cX5_round 220 = .ok (.goto 10, 3) := by decide +kernel
theorem dX5_round_223 : decode cX5_round 223 = .ok (.iload 9, 2) := by decide +kernel
theorem dX5_round_225 : decode cX5_round 225 = .ok (.bipush 90, 2) := by decide +kernel
theorem dX5_round_227 : decode cX5_round 227 = .ok (.iadd, 1) := by decide +kernel
theorem dX5_round_228 : decode cX5_round 228 = .ok (.iconst 2, 1) := by decide +kernel
theorem dX5_round_229 : decode cX5_round 229 = .ok (.idiv, 1) := by decide +kernel
theorem dX5_round_230 : decode cX5_round 230 = .ok (.istore_n 2, 1) := by decide +kernel
theorem dX5_round_231 : decode cX5_round 231 = .ok (.aload_n 0, 1) := by decide +kernel
theorem dX5_round_232 : decode cX5_round 232 = .ok (.getfield 25, 3) := by decide +kernel
theorem dX5_round_235 : decode cX5_round 235 = .ok (.bipush 8, 2) := by decide +kernel
theorem dX5_round_237 : decode cX5_round 237 = .ok (.iaload, 1) := by decide +kernel
theorem dX5_round_238 : decode cX5_round 238 = .ok (.iconst 1, 1) := by decide +kernel
theorem dX5_round_239 : decode cX5_round 239 = .ok (.if_icmp .ne 8, 3) := by decide +kernel
theorem dX5_round_242 : decode cX5_round 242 = .ok (.bipush 40, 2) := by decide +kernel
theorem dX5_round_244 : decode cX5_round 244 = .ok (.goto 12, 3) := by decide +kernel
theorem dX5_round_247 : decode cX5_round 247 = .ok (.bipush 40, 2) := by decide +kernel
theorem dX5_round_249 : decode cX5_round 249 = .ok (.iload_n 1, 1) := by decide +kernel
theorem dX5_round_250 : decode cX5_round 250 = .ok (.bipush 20, 2) := by decide +kernel
theorem dX5_round_252 : decode cX5_round 252 = .ok (.iadd, 1) := by decide +kernel
theorem dX5_round_253 : decode cX5_round 253 = .ok (.invokestatic 153, 3) := by decide +kernel
theorem dX5_round_256 : decode cX5_round 256 = .ok (.istore_n 1, 1) := by decide +kernel
theorem dX5_round_257 : decode cX5_round 257 = .ok (.iload 4, 2) := by decide +kernel
theorem dX5_round_259 : decode cX5_round 259 = .ok (.istore_n 3, 1) := by decide +kernel
theorem dX5_round_260 : decode cX5_round 260 = .ok (.iload_n 2, 1) := by decide +kernel
theorem dX5_round_261 : decode cX5_round 261 = .ok (.istore 9, 2) := by decide +kernel
theorem dX5_round_263 : decode cX5_round 263 = .ok (.aload_n 0, 1) := by decide +kernel
theorem dX5_round_264 : decode cX5_round 264 = .ok (.getfield 37, 3) := by decide +kernel
theorem dX5_round_267 : decode cX5_round 267 = .ok (.iload 6, 2) := by decide +kernel
theorem dX5_round_269 : decode cX5_round 269 = .ok (.iload 9, 2) := by decide +kernel
theorem dX5_round_271 : decode cX5_round 271 = .ok (.iastore, 1) := by decide +kernel
theorem dX5_round_272 : decode cX5_round 272 = .ok (.aload_n 0, 1) := by decide +kernel
theorem dX5_round_273 : decode cX5_round 273 = .ok (.getfield 40, 3) := by decide +kernel
theorem dX5_round_276 : decode cX5_round 276 = .ok (.iload 6, 2) := by decide +kernel
theorem dX5_round_278 : decode cX5_round 278 = .ok (.iload_n 1, 1) := by decide +kernel
theorem dX5_round_279 : decode cX5_round 279 = .ok (.iload 8, 2) := by decide +kernel
theorem dX5_round_281 : decode cX5_round 281 = .ok (.invokestatic 153, 3) := by decide +kernel
theorem dX5_round_284 : decode cX5_round 284 = .ok (.iastore, 1) := by decide +kernel
theorem dX5_round_285 : decode cX5_round 285 = .ok (.iload_n 1, 1) := by decide +kernel
theorem dX5_round_286 : decode cX5_round 286 = .ok (.aload_n 0, 1) := by decide +kernel
theorem dX5_round_287 : decode cX5_round 287 = .ok (.getfield 40, 3) := by decide +kernel
theorem dX5_round_290 : decode cX5_round 290 = .ok (.iload 6, 2) := by decide +kernel
theorem dX5_round_292 : decode cX5_round 292 = .ok (.iaload, 1) := by decide +kernel
theorem dX5_round_293 : decode cX5_round 293 = .ok (.isub, 1) := by decide +kernel
theorem dX5_round_294 : decode cX5_round 294 = .ok (.istore_n 1, 1) := by decide +kernel
theorem dX5_round_295 : decode cX5_round 295 = .ok (.aload_n 0, 1) := by decide +kernel
theorem dX5_round_296 : decode cX5_round 296 = .ok (.getfield 43, 3) := by decide +kernel
theorem dX5_round_299 : decode cX5_round 299 = .ok (.iload 6, 2) := by decide +kernel
theorem dX5_round_301 : decode cX5_round 301 = .ok (.iconst 0, 1) := by decide +kernel
theorem dX5_round_302 : decode cX5_round 302 = .ok (.iastore, 1) := by decide +kernel
theorem dX5_round_303 : decode cX5_round 303 = .ok (.aload_n 0, 1) := by decide +kernel
theorem dX5_round_304 : decode cX5_round 304 = .ok (.getfield 31, 3) := by decide +kernel
theorem dX5_round_307 : decode cX5_round 307 = .ok (.iconst 1, 1) := by decide +kernel
theorem dX5_round_308 : decode cX5_round 308 = .ok (.dup2, 1) := by decide +kernel
theorem dX5_round_309 : decode cX5_round 309 = .ok (.iaload, 1) := by decide +kernel
theorem dX5_round_310 : decode cX5_round 310 = .ok (.aload_n 0, 1) := by decide +kernel
theorem dX5_round_311 : decode cX5_round 311 = .ok (.getfield 40, 3) := by decide +kernel
theorem dX5_round_314 : decode cX5_round 314 = .ok (.iload 6, 2) := by decide +kernel
theorem dX5_round_316 : decode cX5_round 316 = .ok (.iaload, 1) := by decide +kernel
theorem dX5_round_317 : decode cX5_round 317 = .ok (.iadd, 1) := by decide +kernel
theorem dX5_round_318 : decode cX5_round 318 = .ok (.iastore, 1) := by decide +kernel
theorem dX5_round_319 : decode cX5_round 319 = .ok (.aload_n 0, 1) := by decide +kernel
theorem dX5_round_320 : decode cX5_round 320 = .ok (.getfield 31, 3) := by decide +kernel
theorem dX5_round_323 : decode cX5_round 323 = .ok (.iconst 2, 1) := by decide +kernel
theorem dX5_round_324 : decode cX5_round 324 = .ok (.dup2, 1) := by decide +kernel
theorem dX5_round_325 : decode cX5_round 325 = .ok (.iaload, 1) := by decide +kernel
theorem dX5_round_326 : decode cX5_round 326 = .ok (.iload 8, 2) := by decide +kernel
theorem dX5_round_328 : decode cX5_round 328 = .ok (.aload_n 0, 1) := by decide +kernel
theorem dX5_round_329 : decode cX5_round 329 = .ok (.getfield 40, 3) := by decide +kernel
theorem dX5_round_332 : decode cX5_round 332 = .ok (.iload 6, 2) := by decide +kernel
theorem dX5_round_334 : decode cX5_round 334 = .ok (.iaload, 1) := by decide +kernel
theorem dX5_round_335 : decode cX5_round 335 = .ok (.isub, 1) := by decide +kernel
theorem dX5_round_336 : decode cX5_round 336 = .ok (.iadd, 1) := by decide +kernel
theorem dX5_round_337 : decode cX5_round 337 = .ok (.iastore, 1) := by decide +kernel
theorem dX5_round_338 : decode cX5_round 338 = .ok (.aload_n 0, 1) := by decide +kernel
theorem dX5_round_339 : decode cX5_round 339 = .ok (.getfield 46, 3) := by decide +kernel
theorem dX5_round_342 : decode cX5_round 342 = .ok (.iload 6, 2) := by decide +kernel
theorem dX5_round_344 : decode cX5_round 344 = .ok (.iload 8, 2) := by decide +kernel
theorem dX5_round_346 : decode cX5_round 346 = .ok (.iload 4, 2) := by decide +kernel
theorem dX5_round_348 : decode cX5_round 348 = .ok (.imul, 1) := by decide +kernel
theorem dX5_round_349 : decode cX5_round 349 = .ok (.iastore, 1) := by decide +kernel
theorem dX5_round_350 : decode cX5_round 350 = .ok (.aload_n 0, 1) := by decide +kernel
theorem dX5_round_351 : decode cX5_round 351 = .ok (.getfield 31, 3) := by decide +kernel
theorem dX5_round_354 : decode cX5_round 354 = .ok (.bipush 6, 2) := by decide +kernel
theorem dX5_round_356 : decode cX5_round 356 = .ok (.dup2, 1) := by decide +kernel
theorem dX5_round_357 : decode cX5_round 357 = .ok (.iaload, 1) := by decide +kernel
theorem dX5_round_358 : decode cX5_round 358 = .ok (.aload_n 0, 1) := by decide +kernel
theorem dX5_round_359 : decode cX5_round 359 = .ok (.getfield 46, 3) := by decide +kernel
theorem dX5_round_362 : decode cX5_round 362 = .ok (.iload 6, 2) := by decide +kernel
theorem dX5_round_364 : decode cX5_round 364 = .ok (.iaload, 1) := by decide +kernel
theorem dX5_round_365 : decode cX5_round 365 = .ok (.iadd, 1) := by decide +kernel
theorem dX5_round_366 : decode cX5_round 366 = .ok (.iastore, 1) := by decide +kernel
theorem dX5_round_367 : decode cX5_round 367 = .ok (.iload 9, 2) := by decide +kernel
theorem dX5_round_369 : decode cX5_round 369 = .ok (.bipush 60, 2) := by decide +kernel
theorem dX5_round_371 : decode cX5_round 371 = .ok (.if_icmp .ge 42, 3) := by decide +kernel
theorem dX5_round_374 : decode cX5_round 374 = .ok (.aload_n 0, 1) := by decide +kernel
theorem dX5_round_375 : decode cX5_round 375 = .ok (.getfield 40, 3) := by decide +kernel
theorem dX5_round_378 : decode cX5_round 378 = .ok (.iload 6, 2) := by decide +kernel
theorem dX5_round_380 : decode cX5_round 380 = .ok (.iaload, 1) := by decide +kernel
theorem dX5_round_381 : decode cX5_round 381 = .ok (.ifCond .le 32, 3) := by decide +kernel
theorem dX5_round_384 : decode cX5_round 384 = .ok (.aload_n 0, 1) := by decide +kernel
theorem dX5_round_385 : decode cX5_round 385 = .ok (.getfield 31, 3) := by decide +kernel
theorem dX5_round_388 : decode cX5_round 388 = .ok (.iconst 3, 1) := by decide +kernel
theorem dX5_round_389 : decode cX5_round 389 = .ok (.dup2, 1) := by decide +kernel
theorem dX5_round_390 : decode cX5_round 390 = .ok (.iaload, 1) := by decide +kernel
theorem dX5_round_391 : decode cX5_round 391 = .ok (.aload_n 0, 1) := by decide +kernel
theorem dX5_round_392 : decode cX5_round 392 = .ok (.getfield 40, 3) := by decide +kernel
theorem dX5_round_395 : decode cX5_round 395 = .ok (.iload 6, 2) := by decide +kernel
theorem dX5_round_397 : decode cX5_round 397 = .ok (.iaload, 1) := by decide +kernel
theorem dX5_round_398 : decode cX5_round 398 = .ok (.iadd, 1) := by decide +kernel
theorem dX5_round_399 : decode cX5_round 399 = .ok (.iastore, 1) := by decide +kernel
theorem dX5_round_400 : decode cX5_round 400 = .ok (.aload_n 0, 1) := by decide +kernel
theorem dX5_round_401 : decode cX5_round 401 = .ok (.dup, 1) := by decide +kernel
theorem dX5_round_402 : decode cX5_round 402 = .ok (.getfield 147, 3) := by decide +kernel
theorem dX5_round_405 : decode cX5_round 405 = .ok (.iconst 1, 1) := by decide +kernel
theorem dX5_round_406 : decode cX5_round 406 = .ok (.iload 7, 2) := by decide +kernel
theorem dX5_round_408 : decode cX5_round 408 = .ok (.ishl, 1) := by decide +kernel
theorem dX5_round_409 : decode cX5_round 409 = .ok (.ior, 1) := by decide +kernel
theorem dX5_round_410 : decode cX5_round 410 = .ok (.putfield 147, 3) := by decide +kernel
theorem dX5_round_413 : decode cX5_round 413 = .ok (.aload_n 0, 1) := by decide +kernel
theorem dX5_round_414 : decode cX5_round 414 = .ok (.getfield 7, 3) := by decide +kernel
theorem dX5_round_417 : decode cX5_round 417 = .ok (.iload 7, 2) := by decide +kernel
theorem dX5_round_419 : decode cX5_round 419 = .ok (.iaload, 1) := by decide +kernel
theorem dX5_round_420 : decode cX5_round 420 = .ok (.iconst 4, 1) := by decide +kernel
theorem dX5_round_421 : decode cX5_round 421 = .ok (.if_icmp .ne 14, 3) := by decide +kernel
theorem dX5_round_424 : decode cX5_round 424 = .ok (.aload_n 0, 1) := by decide +kernel
theorem dX5_round_425 : decode cX5_round 425 = .ok (.getfield 156, 3) := by decide +kernel
theorem dX5_round_428 : decode cX5_round 428 = .ok (.ifCond .ne 7, 3) := by decide +kernel
theorem dX5_round_431 : decode cX5_round 431 = .ok (.iconst 3, 1) := by decide +kernel
theorem dX5_round_432 : decode cX5_round 432 = .ok (.goto 4, 3) := by decide +kernel
theorem dX5_round_435 : decode cX5_round 435 = .ok (.iconst 1, 1) := by decide +kernel
theorem dX5_round_436 : decode cX5_round 436 = .ok (.istore 10, 2) := by decide +kernel
theorem dX5_round_438 : decode cX5_round 438 = .ok (.iconst 0, 1) := by decide +kernel
theorem dX5_round_439 : decode cX5_round 439 = .ok (.istore 11, 2) := by decide +kernel
theorem dX5_round_441 : decode cX5_round 441 = .ok (.iload 11, 2) := by decide +kernel
theorem dX5_round_443 : decode cX5_round 443 = .ok (.aload_n 0, 1) := by decide +kernel
theorem dX5_round_444 : decode cX5_round 444 = .ok (.getfield 40, 3) := by decide +kernel
theorem dX5_round_447 : decode cX5_round 447 = .ok (.iload 6, 2) := by decide +kernel
theorem dX5_round_449 : decode cX5_round 449 = .ok (.iaload, 1) := by decide +kernel
theorem dX5_round_450 : decode cX5_round 450 = .ok (.if_icmp .ge 103, 3) := by decide +kernel
theorem dX5_round_453 : decode cX5_round 453 = .ok (.iconst 0, 1) := by decide +kernel
theorem dX5_round_454 : decode cX5_round 454 = .ok (.istore 12, 2) := by decide +kernel
theorem dX5_round_456 : decode cX5_round 456 = .ok (.iconst 0, 1) := by decide +kernel
theorem dX5_round_457 : decode cX5_round 457 = .ok (.istore 13, 2) := by decide +kernel
theorem dX5_round_459 : decode cX5_round 459 = .ok (.iload 13, 2) := by decide +kernel
theorem dX5_round_461 : decode cX5_round 461 = .ok (.iload 10, 2) := by decide +kernel
theorem dX5_round_463 : decode cX5_round 463 = .ok (.if_icmp .ge 69, 3) := by decide +kernel
theorem dX5_round_466 : decode cX5_round 466 = .ok (.aload_n 0, 1) := by decide +kernel
theorem dX5_round_467 : decode cX5_round 467 = .ok (.iload 6, 2) := by decide +kernel
theorem dX5_round_469 : decode cX5_round 469 = .ok (.aload_n 0, 1) := by decide +kernel
theorem dX5_round_470 : decode cX5_round 470 = .ok (.getfield 79, 3) := by decide +kernel
theorem dX5_round_473 : decode cX5_round 473 = .ok (.iconst 1, 1) := by decide +kernel
theorem dX5_round_474 : decode cX5_round 474 = .ok (.isub, 1) := by decide +kernel
theorem dX5_round_475 : decode cX5_round 475 = .ok (.if_icmp .ne 7, 3) := by decide +kernel
theorem dX5_round_478 : decode cX5_round 478 = .ok (.iconst 1, 1) := by decide +kernel
theorem dX5_round_479 : decode cX5_round 479 = .ok (.goto 4, 3) := by decide +kernel
theorem dX5_round_482 : decode cX5_round 482 = .ok (.iconst 0, 1) := by decide +kernel
theorem dX5_round_483 : decode cX5_round 483 = .ok (.invokevirtual 160, 3) := by decide +kernel
theorem dX5_round_486 : decode cX5_round 486 = .ok (.istore 14, 2) := by decide +kernel
theorem dX5_round_488 : decode cX5_round 488 = .ok (.iload 14, 2) := by decide +kernel
theorem dX5_round_490 : decode cX5_round 490 = .ok (.ifCond .ge 6, 3) := by decide +kernel
theorem dX5_round_493 : decode cX5_round 493 = .ok (.goto 33, 3) := by decide +kernel
theorem dX5_round_496 : decode cX5_round 496 = .ok (.aload_n 0, 1) := by decide +kernel
theorem dX5_round_497 : decode cX5_round 497 = .ok (.getfield 28, 3) := by decide +kernel
theorem dX5_round_500 : decode cX5_round 500 = .ok (.iload 14, 2) := by decide +kernel
theorem dX5_round_502 : decode cX5_round 502 = .ok (.dup2, 1) := by decide +kernel
theorem dX5_round_503 : decode cX5_round 503 = .ok (.iaload, 1) := by decide +kernel
theorem dX5_round_504 : decode cX5_round 504 = .ok (.iconst 1, 1) := by decide +kernel
theorem dX5_round_505 : decode cX5_round 505 = .ok (.isub, 1) := by decide +kernel
theorem dX5_round_506 : decode cX5_round 506 = .ok (.iastore, 1) := by decide +kernel
theorem dX5_round_507 : decode cX5_round 507 = .ok (.iinc 12 1, 3) := by decide +kernel
theorem dX5_round_510 : decode cX5_round 510 = .ok (.iload 14, 2) := by decide +kernel
theorem dX5_round_512 : decode cX5_round 512 = .ok (.ifCond .ne 14, 3) := by decide +kernel
theorem dX5_round_515 : decode cX5_round 515 = .ok (.aload_n 0, 1) := by decide +kernel
theorem dX5_round_516 : decode cX5_round 516 = .ok (.getfield 43, 3) := by decide +kernel
theorem dX5_round_519 : decode cX5_round 519 = .ok (.iload 6, 2) := by decide +kernel
theorem dX5_round_521 : decode cX5_round 521 = .ok (.dup2, 1) := by decide +kernel
theorem dX5_round_522 : decode cX5_round 522 = .ok (.iaload, 1) := by decide +kernel
theorem dX5_round_523 : decode cX5_round 523 = .ok (.iconst 1, 1) := by decide +kernel
theorem dX5_round_524 : decode cX5_round 524 = .ok (.iadd, 1) := by decide +kernel
theorem dX5_round_525 : decode cX5_round 525 = .ok (.iastore, 1) := by decide +kernel
theorem dX5_round_526 : decode cX5_round 526 = .ok (.iinc 13 1, 3) := by decide +kernel
theorem dX5_round_529 : decode cX5_round 529 = .ok (.goto (-70), 3) := by decide +kernel
theorem dX5_round_532 : decode cX5_round 532 = .ok (.iload 12, 2) := by decide +kernel
theorem dX5_round_534 : decode cX5_round 534 = .ok (.ifCond .ne 13, 3) := by decide +kernel
theorem dX5_round_537 : decode cX5_round 537 = .ok (.aload_n 0, 1) := by decide +kernel
theorem dX5_round_538 : decode cX5_round 538 = .ok (.getfield 31, 3) := by decide +kernel
theorem dX5_round_541 : decode cX5_round 541 = .ok (.iconst 5, 1) := by decide +kernel
theorem dX5_round_542 : decode cX5_round 542 = .ok (.dup2, 1) := by decide +kernel
theorem dX5_round_543 : decode cX5_round 543 = .ok (.iaload, 1) := by decide +kernel
theorem dX5_round_544 : decode cX5_round 544 = .ok (.iconst 1, 1) := by decide +kernel
theorem dX5_round_545 : decode cX5_round 545 = .ok (.iadd, 1) := by decide +kernel
theorem dX5_round_546 : decode cX5_round 546 = .ok (.iastore, 1) := by decide +kernel
theorem dX5_round_547 : decode cX5_round 547 = .ok (.iinc 11 1, 3) := by decide +kernel
theorem dX5_round_550 : decode cX5_round 550 = .ok (.goto (-109), 3) := by decide +kernel
theorem dX5_round_553 : decode cX5_round 553 = .ok (.aload_n 0, 1) := by decide +kernel
theorem dX5_round_554 : decode cX5_round 554 = .ok (.getfield 31, 3) := by decide +kernel
theorem dX5_round_557 : decode cX5_round 557 = .ok (.iconst 4, 1) := by decide +kernel
theorem dX5_round_558 : decode cX5_round 558 = .ok (.dup2, 1) := by decide +kernel
theorem dX5_round_559 : decode cX5_round 559 = .ok (.iaload, 1) := by decide +kernel
theorem dX5_round_560 : decode cX5_round 560 = .ok (.aload_n 0, 1) := by decide +kernel
theorem dX5_round_561 : decode cX5_round 561 = .ok (.getfield 43, 3) := by decide +kernel
theorem dX5_round_564 : decode cX5_round 564 = .ok (.iload 6, 2) := by decide +kernel
theorem dX5_round_566 : decode cX5_round 566 = .ok (.iaload, 1) := by decide +kernel
theorem dX5_round_567 : decode cX5_round 567 = .ok (.iadd, 1) := by decide +kernel
theorem dX5_round_568 : decode cX5_round 568 = .ok (.iastore, 1) := by decide +kernel
theorem dX5_round_569 : decode cX5_round 569 = .ok (.iload 4, 2) := by decide +kernel
theorem dX5_round_571 : decode cX5_round 571 = .ok (.aload_n 0, 1) := by decide +kernel
theorem dX5_round_572 : decode cX5_round 572 = .ok (.iload 7, 2) := by decide +kernel
theorem dX5_round_574 : decode cX5_round 574 = .ok (.aload_n 0, 1) := by decide +kernel
theorem dX5_round_575 : decode cX5_round 575 = .ok (.getfield 40, 3) := by decide +kernel
theorem dX5_round_578 : decode cX5_round 578 = .ok (.iload 6, 2) := by decide +kernel
theorem dX5_round_580 : decode cX5_round 580 = .ok (.iaload, 1) := by decide +kernel
theorem dX5_round_581 : decode cX5_round 581 = .ok (.invokevirtual 163, 3) := by decide +kernel
theorem dX5_round_584 : decode cX5_round 584 = .ok (.iadd, 1) := by decide +kernel
theorem dX5_round_585 : decode cX5_round 585 = .ok (.istore 4, 2) := by decide +kernel
theorem dX5_round_587 : decode cX5_round 587 = .ok (.iinc 6 1, 3) := by decide +kernel
theorem dX5_round_590 : decode cX5_round 590 = .ok (.goto (-507), 3) := by decide +kernel
theorem dX5_round_593 : decode cX5_round 593 = .ok (.aload_n 0, 1) := by decide +kernel
theorem dX5_round_594 : decode cX5_round 594 = .ok (.getfield 31, 3) := by decide +kernel
theorem dX5_round_597 : decode cX5_round 597 = .ok (.iconst 0, 1) := by decide +kernel
theorem dX5_round_598 : decode cX5_round 598 = .ok (.iload 4, 2) := by decide +kernel
theorem dX5_round_600 : decode cX5_round 600 = .ok (.iastore, 1) := by decide +kernel
theorem dX5_round_601 : decode cX5_round 601 = .ok (.aload_n 0, 1) := by decide +kernel
theorem dX5_round_602 : decode cX5_round 602 = .ok (.getfield 31, 3) := by decide +kernel
theorem dX5_round_605 : decode cX5_round 605 = .ok (.bipush 7, 2) := by decide +kernel
theorem dX5_round_607 : decode cX5_round 607 = .ok (.iload 4, 2) := by decide +kernel
theorem dX5_round_609 : decode cX5_round 609 = .ok (.iconst 2, 1) := by decide +kernel
theorem dX5_round_610 : decode cX5_round 610 = .ok (.aload_n 0, 1) := by decide +kernel
theorem dX5_round_611 : decode cX5_round 611 = .ok (.getfield 31, 3) := by decide +kernel
theorem dX5_round_614 : decode cX5_round 614 = .ok (.iconst 3, 1) := by decide +kernel
theorem dX5_round_615 : decode cX5_round 615 = .ok (.iaload, 1) := by decide +kernel
theorem dX5_round_616 : decode cX5_round 616 = .ok (.imul, 1) := by decide +kernel
theorem dX5_round_617 : decode cX5_round 617 = .ok (.iadd, 1) := by decide +kernel
theorem dX5_round_618 : decode cX5_round 618 = .ok (.iconst 3, 1) := by decide +kernel
theorem dX5_round_619 : decode cX5_round 619 = .ok (.aload_n 0, 1) := by decide +kernel
theorem dX5_round_620 : decode cX5_round 620 = .ok (.getfield 31, 3) := by decide +kernel
theorem dX5_round_623 : decode cX5_round 623 = .ok (.iconst 5, 1) := by decide +kernel
theorem dX5_round_624 : decode cX5_round 624 = .ok (.iaload, 1) := by decide +kernel
theorem dX5_round_625 : decode cX5_round 625 = .ok (.imul, 1) := by decide +kernel
theorem dX5_round_626 : decode cX5_round 626 = .ok (.iadd, 1) := by decide +kernel
theorem dX5_round_627 : decode cX5_round 627 = .ok (.iconst 4, 1) := by decide +kernel
theorem dX5_round_628 : decode cX5_round 628 = .ok (.aload_n 0, 1) := by decide +kernel
theorem dX5_round_629 : decode cX5_round 629 = .ok (.getfield 31, 3) := by decide +kernel
theorem dX5_round_632 : decode cX5_round 632 = .ok (.iconst 2, 1) := by decide +kernel
theorem dX5_round_633 : decode cX5_round 633 = .ok (.iaload, 1) := by decide +kernel
theorem dX5_round_634 : decode cX5_round 634 = .ok (.imul, 1) := by decide +kernel
theorem dX5_round_635 : decode cX5_round 635 = .ok (.iadd, 1) := by decide +kernel
theorem dX5_round_636 : decode cX5_round 636 = .ok (.iastore, 1) := by decide +kernel
theorem dX5_round_637 : decode cX5_round 637 = .ok (.return_, 1) := by decide +kernel
theorem dX5_total_0 : decode cX5_total 0 = .ok (.iload_n 1, 1) := by decide +kernel
theorem dX5_total_1 : decode cX5_total 1 = .ok (.iconst 0, 1) := by decide +kernel
theorem dX5_total_2 : decode cX5_total 2 = .ok (.bipush 7, 2) := by decide +kernel
theorem dX5_total_4 : decode cX5_total 4 = .ok (.invokestatic 83, 3) := by decide +kernel
theorem dX5_total_7 : decode cX5_total 7 = .ok (.ifCond .ne 10, 3) := by decide +kernel
theorem dX5_total_10 : decode cX5_total 10 = .ok (.aload_n 0, 1) := by decide +kernel
theorem dX5_total_11 : decode cX5_total 11 = .ok (.bipush (-2), 2) := by decide +kernel
theorem dX5_total_13 : decode cX5_total 13 = .ok (.invokevirtual 75, 3) := by decide +kernel
theorem dX5_total_16 : decode cX5_total 16 = .ok (.ireturn, 1) := by decide +kernel
theorem dX5_total_17 : decode cX5_total 17 = .ok (.aload_n 0, 1) := by decide +kernel
theorem dX5_total_18 : decode cX5_total 18 = .ok (.invokevirtual 166, 3) := by decide +kernel
theorem dX5_total_21 : decode cX5_total 21 = .ok (.aload_n 0, 1) := by decide +kernel
theorem dX5_total_22 : decode cX5_total 22 = .ok (.getfield 31, 3) := by decide +kernel
theorem dX5_total_25 : decode cX5_total 25 = .ok (.iload_n 1, 1) := by decide +kernel
theorem dX5_total_26 : decode cX5_total 26 = .ok (.iaload, 1) := by decide +kernel
theorem dX5_total_27 : decode cX5_total 27 = .ok (.ireturn, 1) := by decide +kernel
theorem dX5_at_0 : decode cX5_at 0 = .ok (.aload_n 0, 1) := by decide +kernel
theorem dX5_at_1 : decode cX5_at 1 = .ok (.iload_n 1, 1) := by decide +kernel
theorem dX5_at_2 : decode cX5_at 2 = .ok (.invokevirtual 111, 3) := by decide +kernel
theorem dX5_at_5 : decode cX5_at 5 = .ok (.ifCond .ne 9, 3) := by decide +kernel
theorem dX5_at_8 : decode cX5_at 8 = .ok (.aload_n 0, 1) := by decide +kernel
theorem dX5_at_9 : decode cX5_at 9 = .ok (.iconst (-1), 1) := by decide +kernel
theorem dX5_at_10 : decode cX5_at 10 = .ok (.invokevirtual 75, 3) := by decide +kernel
theorem dX5_at_13 : decode cX5_at 13 = .ok (.ireturn, 1) := by decide +kernel
theorem dX5_at_14 : decode cX5_at 14 = .ok (.iload_n 2, 1) := by decide +kernel
theorem dX5_at_15 : decode cX5_at 15 = .ok (.iconst 0, 1) := by decide +kernel
theorem dX5_at_16 : decode cX5_at 16 = .ok (.iconst 3, 1) := by decide +kernel
theorem dX5_at_17 : decode cX5_at 17 = .ok (.invokestatic 83, 3) := by decide +kernel
theorem dX5_at_20 : decode cX5_at 20 = .ok (.ifCond .ne 10, 3) := by decide +kernel
theorem dX5_at_23 : decode cX5_at 23 = .ok (.aload_n 0, 1) := by decide +kernel
theorem dX5_at_24 : decode cX5_at 24 = .ok (.bipush (-2), 2) := by decide +kernel
theorem dX5_at_26 : decode cX5_at 26 = .ok (.invokevirtual 75, 3) := by decide +kernel
theorem dX5_at_29 : decode cX5_at 29 = .ok (.ireturn, 1) := by decide +kernel
theorem dX5_at_30 : decode cX5_at 30 = .ok (.aload_n 0, 1) := by decide +kernel
theorem dX5_at_31 : decode cX5_at 31 = .ok (.invokevirtual 166, 3) := by decide +kernel
theorem dX5_at_34 : decode cX5_at 34 = .ok (.iload_n 2, 1) := by decide +kernel
theorem dX5_at_35 : decode cX5_at 35 = .ok (.ifCond .ne 12, 3) := by decide +kernel
theorem dX5_at_38 : decode cX5_at 38 = .ok (.aload_n 0, 1) := by decide +kernel
theorem dX5_at_39 : decode cX5_at 39 = .ok (.getfield 34, 3) := by decide +kernel
theorem dX5_at_42 : decode cX5_at 42 = .ok (.iload_n 1, 1) := by decide +kernel
theorem dX5_at_43 : decode cX5_at 43 = .ok (.iaload, 1) := by decide +kernel
theorem dX5_at_44 : decode cX5_at 44 = .ok (.goto 37, 3) := by decide +kernel
theorem dX5_at_47 : decode cX5_at 47 = .ok (.iload_n 2, 1) := by decide +kernel
theorem dX5_at_48 : decode cX5_at 48 = .ok (.iconst 1, 1) := by decide +kernel
theorem dX5_at_49 : decode cX5_at 49 = .ok (.if_icmp .ne 12, 3) := by decide +kernel
theorem dX5_at_52 : decode cX5_at 52 = .ok (.aload_n 0, 1) := by decide +kernel
theorem dX5_at_53 : decode cX5_at 53 = .ok (.getfield 37, 3) := by decide +kernel
theorem dX5_at_56 : decode cX5_at 56 = .ok (.iload_n 1, 1) := by decide +kernel
theorem dX5_at_57 : decode cX5_at 57 = .ok (.iaload, 1) := by decide +kernel
theorem dX5_at_58 : decode cX5_at 58 = .ok (.goto 23, 3) := by decide +kernel
theorem dX5_at_61 : decode cX5_at 61 = .ok (.iload_n 2, 1) := by decide +kernel
theorem dX5_at_62 : decode cX5_at 62 = .ok (.iconst 2, 1) := by decide +kernel
theorem dX5_at_63 : decode cX5_at 63 = .ok (.if_icmp .ne 12, 3) := by decide +kernel
theorem dX5_at_66 : decode cX5_at 66 = .ok (.aload_n 0, 1) := by decide +kernel
theorem dX5_at_67 : decode cX5_at 67 = .ok (.getfield 40, 3) := by decide +kernel
theorem dX5_at_70 : decode cX5_at 70 = .ok (.iload_n 1, 1) := by decide +kernel
theorem dX5_at_71 : decode cX5_at 71 = .ok (.iaload, 1) := by decide +kernel
theorem dX5_at_72 : decode cX5_at 72 = .ok (.goto 9, 3) := by decide +kernel
theorem dX5_at_75 : decode cX5_at 75 = .ok (.aload_n 0, 1) := by decide +kernel
theorem dX5_at_76 : decode cX5_at 76 = .ok (.getfield 43, 3) := by decide +kernel
theorem dX5_at_79 : decode cX5_at 79 = .ok (.iload_n 1, 1) := by decide +kernel
theorem dX5_at_80 : decode cX5_at 80 = .ok (.iaload, 1) := by decide +kernel
theorem dX5_at_81 : decode cX5_at 81 = .ok (.ireturn, 1) := by decide +kernel
theorem dX5_when_0 : decode cX5_when 0 = .ok (.aload_n 0, 1) := by decide +kernel
theorem dX5_when_1 : decode cX5_when 1 = .ok (.iload_n 1, 1) := by decide +kernel
theorem dX5_when_2 : decode cX5_when 2 = .ok (.invokevirtual 111, 3) := by decide +kernel
theorem dX5_when_5 : decode cX5_when 5 = .ok (.ifCond .ne 9, 3) := by decide +kernel
theorem dX5_when_8 : decode cX5_when 8 = .ok (.aload_n 0, 1) := by decide +kernel
theorem dX5_when_9 : decode cX5_when 9 = .ok (.iconst (-1), 1) := by decide +kernel
theorem dX5_when_10 : decode cX5_when 10 = .ok (.invokevirtual 75, 3) := by decide +kernel
theorem dX5_when_13 : decode cX5_when 13 = .ok (.ireturn, 1) := by decide +kernel
theorem dX5_when_14 : decode cX5_when 14 = .ok (.aload_n 0, 1) := by decide +kernel
theorem dX5_when_15 : decode cX5_when 15 = .ok (.invokevirtual 166, 3) := by decide +kernel
theorem dX5_when_18 : decode cX5_when 18 = .ok (.aload_n 0, 1) := by decide +kernel
theorem dX5_when_19 : decode cX5_when 19 = .ok (.getfield 34, 3) := by decide +kernel
theorem dX5_when_22 : decode cX5_when 22 = .ok (.aload_n 0, 1) := by decide +kernel
theorem dX5_when_23 : decode cX5_when 23 = .ok (.iload_n 1, 1) := by decide +kernel
theorem dX5_when_24 : decode cX5_when 24 = .ok (.invokevirtual 129, 3) := by decide +kernel
theorem dX5_when_27 : decode cX5_when 27 = .ok (.iaload, 1) := by decide +kernel
theorem dX5_when_28 : decode cX5_when 28 = .ok (.ireturn, 1) := by decide +kernel
theorem dX5_next_0 : decode cX5_next 0 = .ok (.aload_n 0, 1) := by decide +kernel
theorem dX5_next_1 : decode cX5_next 1 = .ok (.getfield 79, 3) := by decide +kernel
theorem dX5_next_4 : decode cX5_next 4 = .ok (.iconst 2, 1) := by decide +kernel
theorem dX5_next_5 : decode cX5_next 5 = .ok (.isub, 1) := by decide +kernel
theorem dX5_next_6 : decode cX5_next 6 = .ok (.istore_n 1, 1) := by decide +kernel
theorem dX5_next_7 : decode cX5_next 7 = .ok (.iload_n 1, 1) := by decide +kernel
theorem dX5_next_8 : decode cX5_next 8 = .ok (.ifCond .lt 26, 3) := by decide +kernel
theorem dX5_next_11 : decode cX5_next 11 = .ok (.aload_n 0, 1) := by decide +kernel
theorem dX5_next_12 : decode cX5_next 12 = .ok (.getfield 22, 3) := by decide +kernel
theorem dX5_next_15 : decode cX5_next 15 = .ok (.iload_n 1, 1) := by decide +kernel
theorem dX5_next_16 : decode cX5_next 16 = .ok (.iaload, 1) := by decide +kernel
theorem dX5_next_17 : decode cX5_next 17 = .ok (.aload_n 0, 1) := by decide +kernel
theorem dX5_next_18 : decode cX5_next 18 = .ok (.getfield 22, 3) := by decide +kernel
theorem dX5_next_21 : decode cX5_next 21 = .ok (.iload_n 1, 1) := by decide +kernel
theorem dX5_next_22 : decode cX5_next 22 = .ok (.iconst 1, 1) := by decide +kernel
theorem dX5_next_23 : decode cX5_next 23 = .ok (.iadd, 1) := by decide +kernel
theorem dX5_next_24 : decode cX5_next 24 = .ok (.iaload, 1) := by decide +kernel
theorem dX5_next_25 : decode cX5_next 25 = .ok (.if_icmp .le 9, 3) := by decide +kernel
theorem dX5_next_28 : decode cX5_next 28 = .ok (.iinc 1 (-1), 3) := by decide +kernel
theorem dX5_next_31 : decode cX5_next 31 = .ok (.goto (-24), 3) := by decide +kernel
theorem dX5_next_34 : decode cX5_next 34 = .ok (.iload_n 1, 1) := by decide +kernel
theorem dX5_next_35 : decode cX5_next 35 = .ok (.ifCond .ge 5, 3) := by decide +kernel
theorem dX5_next_38 : decode cX5_next 38 = .ok (.iconst 0, 1) := by decide +kernel
theorem dX5_next_39 : decode cX5_next 39 = .ok (.ireturn, 1) := by decide +kernel
theorem dX5_next_40 : decode cX5_next 40 = .ok (.aload_n 0, 1) := by decide +kernel
theorem dX5_next_41 : decode cX5_next 41 = .ok (.getfield 79, 3) := by decide +kernel
theorem dX5_next_44 : decode cX5_next 44 = .ok (.iconst 1, 1) := by decide +kernel
theorem dX5_next_45 : decode cX5_next 45 = .ok (.isub, 1) := by decide +kernel
theorem dX5_next_46 : decode cX5_next 46 = .ok (.istore_n 2, 1) := by decide +kernel
theorem dX5_next_47 : decode cX5_next 47 = .ok (.aload_n 0, 1) := by decide +kernel
theorem dX5_next_48 : decode cX5_next 48 = .ok (.getfield 22, 3) := by decide +kernel
theorem dX5_next_51 : decode cX5_next 51 = .ok (.iload_n 2, 1) := by decide +kernel
theorem dX5_next_52 : decode cX5_next 52 = .ok (.iaload, 1) := by decide +kernel
theorem dX5_next_53 : decode cX5_next 53 = .ok (.aload_n 0, 1) := by decide +kernel
theorem dX5_next_54 : decode cX5_next 54 = .ok (.getfield 22, 3) := by decide +kernel
theorem dX5_next_57 : decode cX5_next 57 = .ok (.iload_n 1, 1) := by decide +kernel
theorem dX5_next_58 : decode cX5_next 58 = .ok (.iaload, 1) := by decide +kernel
theorem dX5_next_59 : decode cX5_next 59 = .ok (.if_icmp .ge 9, 3) := by decide +kernel
theorem dX5_next_62 : decode cX5_next 62 = .ok (.iinc 2 (-1), 3) := by decide +kernel
theorem dX5_next_65 : decode cX5_next 65 = .ok (.goto (-18), 3) := by decide +kernel
theorem dX5_next_68 : decode cX5_next 68 = .ok (.aload_n 0, 1) := by decide +kernel
theorem dX5_next_69 : decode cX5_next 69 = .ok (.getfield 22, 3) := by decide +kernel
theorem dX5_next_72 : decode cX5_next 72 = .ok (.iload_n 1, 1) := by decide +kernel
theorem dX5_next_73 : decode cX5_next 73 = .ok (.iaload, 1) := by decide +kernel
theorem dX5_next_74 : decode cX5_next 74 = .ok (.istore_n 3, 1) := by decide +kernel
theorem dX5_next_75 : decode cX5_next 75 = .ok (.aload_n 0, 1) := by decide +kernel
theorem dX5_next_76 : decode cX5_next 76 = .ok (.getfield 22, 3) := by decide +kernel
theorem dX5_next_79 : decode cX5_next 79 = .ok (.iload_n 1, 1) := by decide +kernel
theorem dX5_next_80 : decode cX5_next 80 = .ok (.aload_n 0, 1) := by decide +kernel
theorem dX5_next_81 : decode cX5_next 81 = .ok (.getfield 22, 3) := by decide +kernel
theorem dX5_next_84 : decode cX5_next 84 = .ok (.iload_n 2, 1) := by decide +kernel
theorem dX5_next_85 : decode cX5_next 85 = .ok (.iaload, 1) := by decide +kernel
theorem dX5_next_86 : decode cX5_next 86 = .ok (.iastore, 1) := by decide +kernel
theorem dX5_next_87 : decode cX5_next 87 = .ok (.aload_n 0, 1) := by decide +kernel
theorem dX5_next_88 : decode cX5_next 88 = .ok (.getfield 22, 3) := by decide +kernel
theorem dX5_next_91 : decode cX5_next 91 = .ok (.iload_n 2, 1) := by decide +kernel
theorem dX5_next_92 : decode cX5_next 92 = .ok (.iload_n 3, 1) := by decide +kernel
theorem dX5_next_93 : decode cX5_next 93 = .ok (.iastore, 1) := by decide +kernel
theorem dX5_next_94 : decode cX5_next 94 = .ok (.iload_n 1, 1) := by decide +kernel
theorem dX5_next_95 : decode cX5_next 95 = .ok (.iconst 1, 1) := by decide +kernel
theorem dX5_next_96 : decode cX5_next 96 = .ok (.iadd, 1) := by decide +kernel
theorem dX5_next_97 : decode cX5_next 97 = .ok (.istore 4, 2) := by decide +kernel
theorem dX5_next_99 : decode cX5_next 99 = .ok (.aload_n 0, 1) := by decide +kernel
theorem dX5_next_100 : decode cX5_next 100 = .ok (.getfield 79, 3) := by decide +kernel
theorem dX5_next_103 : decode cX5_next 103 = .ok (.iconst 1, 1) := by decide +kernel
theorem dX5_next_104 : decode cX5_next 104 = .ok (.isub, 1) := by decide +kernel
theorem dX5_next_105 : decode cX5_next 105 = .ok (.istore 5, 2) := by decide +kernel
theorem dX5_next_107 : decode cX5_next 107 = .ok (.iload 4, 2) := by decide +kernel
theorem dX5_next_109 : decode cX5_next 109 = .ok (.iload 5, 2) := by decide +kernel
theorem dX5_next_111 : decode cX5_next 111 = .ok (.if_icmp .ge 42, 3) := by decide +kernel
theorem dX5_next_114 : decode cX5_next 114 = .ok (.aload_n 0, 1) := by decide +kernel
theorem dX5_next_115 : decode cX5_next 115 = .ok (.getfield 22, 3) := by decide +kernel
theorem dX5_next_118 : decode cX5_next 118 = .ok (.iload 4, 2) := by decide +kernel
theorem dX5_next_120 : decode cX5_next 120 = .ok (.iaload, 1) := by decide +kernel
theorem dX5_next_121 : decode cX5_next 121 = .ok (.istore_n 3, 1) := by decide +kernel
theorem dX5_next_122 : decode cX5_next 122 = .ok (.aload_n 0, 1) := by decide +kernel
theorem dX5_next_123 : decode cX5_next 123 = .ok (.getfield 22, 3) := by decide +kernel
theorem dX5_next_126 : decode cX5_next 126 = .ok (.iload 4, 2) := by decide +kernel
theorem dX5_next_128 : decode cX5_next 128 = .ok (.aload_n 0, 1) := by decide +kernel
theorem dX5_next_129 : decode cX5_next 129 = .ok (.getfield 22, 3) := by decide +kernel
theorem dX5_next_132 : decode cX5_next 132 = .ok (.iload 5, 2) := by decide +kernel
theorem dX5_next_134 : decode cX5_next 134 = .ok (.iaload, 1) := by decide +kernel
theorem dX5_next_135 : decode cX5_next 135 = .ok (.iastore, 1) := by decide +kernel
theorem dX5_next_136 : decode cX5_next 136 = .ok (.aload_n 0, 1) := by decide +kernel
theorem dX5_next_137 : decode cX5_next 137 = .ok (.getfield 22, 3) := by decide +kernel
theorem dX5_next_140 : decode cX5_next 140 = .ok (.iload 5, 2) := by decide +kernel
theorem dX5_next_142 : decode cX5_next 142 = .ok (.iload_n 3, 1) := by decide +kernel
theorem dX5_next_143 : decode cX5_next 143 = .ok (.iastore, 1) := by decide +kernel
theorem dX5_next_144 : decode cX5_next 144 = .ok (.iinc 4 1, 3) := by decide +kernel
theorem dX5_next_147 : decode cX5_next 147 = .ok (.iinc 5 (-1), 3) := by decide +kernel
theorem dX5_next_150 : decode cX5_next 150 = .ok (.goto (-43), 3) := by decide +kernel
theorem dX5_next_153 : decode cX5_next 153 = .ok (.iconst 1, 1) := by decide +kernel
theorem dX5_next_154 : decode cX5_next 154 = .ok (.ireturn, 1) := by decide +kernel
theorem dX5_first_0 : decode cX5_first 0 = .ok (.iconst 0, 1) := by decide +kernel
theorem dX5_first_1 : decode cX5_first 1 = .ok (.istore_n 1, 1) := by decide +kernel
theorem dX5_first_2 : decode cX5_first 2 = .ok (.iload_n 1, 1) := by decide +kernel
theorem dX5_first_3 : decode cX5_first 3 = .ok (.bipush 6, 2) := by decide +kernel
theorem dX5_first_5 : decode cX5_first 5 = .ok (.if_icmp .ge 28, 3) := by decide +kernel
theorem dX5_first_8 : decode cX5_first 8 = .ok (.aload_n 0, 1) := by decide +kernel
theorem dX5_first_9 : decode cX5_first 9 = .ok (.getfield 70, 3) := by decide +kernel
theorem dX5_first_12 : decode cX5_first 12 = .ok (.iload_n 1, 1) := by decide +kernel
theorem dX5_first_13 : decode cX5_first 13 = .ok (.aload_n 0, 1) := by decide +kernel
theorem dX5_first_14 : decode cX5_first 14 = .ok (.getfield 22, 3) := by decide +kernel
theorem dX5_first_17 : decode cX5_first 17 = .ok (.iload_n 1, 1) := by decide +kernel
theorem dX5_first_18 : decode cX5_first 18 = .ok (.iaload, 1) := by decide +kernel
theorem dX5_first_19 : decode cX5_first 19 = .ok (.iastore, 1) := by decide +kernel
theorem dX5_first_20 : decode cX5_first 20 = .ok (.aload_n 0, 1) := by decide +kernel
theorem dX5_first_21 : decode cX5_first 21 = .ok (.getfield 22, 3) := by decide +kernel
theorem dX5_first_24 : decode cX5_first 24 = .ok (.iload_n 1, 1) := by decide +kernel
theorem dX5_first_25 : decode cX5_first 25 = .ok (.iload_n 1, 1) := by decide +kernel
theorem dX5_first_26 : decode cX5_first 26 = .ok (.iastore, 1) := by decide +kernel
theorem dX5_first_27 : decode cX5_first 27 = .ok (.iinc 1 1, 3) := by decide +kernel
theorem dX5_first_30 : decode cX5_first 30 = .ok (.goto (-28), 3) := by decide +kernel
theorem dX5_first_33 : decode cX5_first 33 = .ok (.return_, 1) := by decide +kernel
theorem dX5_asItWas_0 : decode cX5_asItWas 0 = .ok (.iconst 0, 1) := by decide +kernel
theorem dX5_asItWas_1 : decode cX5_asItWas 1 = .ok (.istore_n 1, 1) := by decide +kernel
theorem dX5_asItWas_2 : decode cX5_asItWas 2 = .ok (.iload_n 1, 1) := by decide +kernel
theorem dX5_asItWas_3 : decode cX5_asItWas 3 = .ok (.bipush 6, 2) := by decide +kernel
theorem dX5_asItWas_5 : decode cX5_asItWas 5 = .ok (.if_icmp .ge 21, 3) := by decide +kernel
theorem dX5_asItWas_8 : decode cX5_asItWas 8 = .ok (.aload_n 0, 1) := by decide +kernel
theorem dX5_asItWas_9 : decode cX5_asItWas 9 = .ok (.getfield 22, 3) := by decide +kernel
theorem dX5_asItWas_12 : decode cX5_asItWas 12 = .ok (.iload_n 1, 1) := by decide +kernel
theorem dX5_asItWas_13 : decode cX5_asItWas 13 = .ok (.aload_n 0, 1) := by decide +kernel
theorem dX5_asItWas_14 : decode cX5_asItWas 14 = .ok (.getfield 70, 3) := by decide +kernel
theorem dX5_asItWas_17 : decode cX5_asItWas 17 = .ok (.iload_n 1, 1) := by decide +kernel
theorem dX5_asItWas_18 : decode cX5_asItWas 18 = .ok (.iaload, 1) := by decide +kernel
theorem dX5_asItWas_19 : decode cX5_asItWas 19 = .ok (.iastore, 1) := by decide +kernel
theorem dX5_asItWas_20 : decode cX5_asItWas 20 = .ok (.iinc 1 1, 3) := by decide +kernel
theorem dX5_asItWas_23 : decode cX5_asItWas 23 = .ok (.goto (-21), 3) := by decide +kernel
theorem dX5_asItWas_26 : decode cX5_asItWas 26 = .ok (.return_, 1) := by decide +kernel
theorem dX5_bestOf_0 : decode cX5_bestOf 0 = .ok (.iload_n 1, 1) := by decide +kernel
theorem dX5_bestOf_1 : decode cX5_bestOf 1 = .ok (.iconst 1, 1) := by decide +kernel
theorem dX5_bestOf_2 : decode cX5_bestOf 2 = .ok (.if_icmp .eq 8, 3) := by decide +kernel
theorem dX5_bestOf_5 : decode cX5_bestOf 5 = .ok (.iload_n 1, 1) := by decide +kernel
theorem dX5_bestOf_6 : decode cX5_bestOf 6 = .ok (.iconst 4, 1) := by decide +kernel
theorem dX5_bestOf_7 : decode cX5_bestOf 7 = .ok (.if_icmp .ne 7, 3) := by decide +kernel
theorem dX5_bestOf_10 : decode cX5_bestOf 10 = .ok (.iconst 1, 1) := by decide +kernel
theorem dX5_bestOf_11 : decode cX5_bestOf 11 = .ok (.goto 4, 3) := by decide +kernel
theorem dX5_bestOf_14 : decode cX5_bestOf 14 = .ok (.iconst 0, 1) := by decide +kernel
theorem dX5_bestOf_15 : decode cX5_bestOf 15 = .ok (.istore_n 2, 1) := by decide +kernel
theorem dX5_bestOf_16 : decode cX5_bestOf 16 = .ok (.iconst (-1), 1) := by decide +kernel
theorem dX5_bestOf_17 : decode cX5_bestOf 17 = .ok (.istore_n 3, 1) := by decide +kernel
theorem dX5_bestOf_18 : decode cX5_bestOf 18 = .ok (.aload_n 0, 1) := by decide +kernel
theorem dX5_bestOf_19 : decode cX5_bestOf 19 = .ok (.invokevirtual 169, 3) := by decide +kernel
theorem dX5_bestOf_22 : decode cX5_bestOf 22 = .ok (.iconst 1, 1) := by decide +kernel
theorem dX5_bestOf_23 : decode cX5_bestOf 23 = .ok (.istore 4, 2) := by decide +kernel
theorem dX5_bestOf_25 : decode cX5_bestOf 25 = .ok (.iload 4, 2) := by decide +kernel
theorem dX5_bestOf_27 : decode cX5_bestOf 27 = .ok (.ifCond .eq 84, 3) := by decide +kernel
theorem dX5_bestOf_30 : decode cX5_bestOf 30 = .ok (.aload_n 0, 1) := by decide +kernel
theorem dX5_bestOf_31 : decode cX5_bestOf 31 = .ok (.invokevirtual 166, 3) := by decide +kernel
theorem dX5_bestOf_34 : decode cX5_bestOf 34 = .ok (.iload_n 3, 1) := by decide +kernel
theorem dX5_bestOf_35 : decode cX5_bestOf 35 = .ok (.ifCond .lt 30, 3) := by decide +kernel
theorem dX5_bestOf_38 : decode cX5_bestOf 38 = .ok (.iload_n 2, 1) := by decide +kernel
theorem dX5_bestOf_39 : decode cX5_bestOf 39 = .ok (.ifCond .eq 16, 3) := by decide +kernel
theorem dX5_bestOf_42 : decode cX5_bestOf 42 = .ok (.aload_n 0, 1) := by decide +kernel
theorem dX5_bestOf_43 : decode cX5_bestOf 43 = .ok (.getfield 31, 3) := by decide +kernel
theorem dX5_bestOf_46 : decode cX5_bestOf 46 = .ok (.iload_n 1, 1) := by decide +kernel
theorem dX5_bestOf_47 : decode cX5_bestOf 47 = .ok (.iaload, 1) := by decide +kernel
theorem dX5_bestOf_48 : decode cX5_bestOf 48 = .ok (.iload_n 3, 1) := by decide +kernel
theorem dX5_bestOf_49 : decode cX5_bestOf 49 = .ok (.if_icmp .le 53, 3) := by decide +kernel
theorem dX5_bestOf_52 : decode cX5_bestOf 52 = .ok (.goto 13, 3) := by decide +kernel
theorem dX5_bestOf_55 : decode cX5_bestOf 55 = .ok (.aload_n 0, 1) := by decide +kernel
theorem dX5_bestOf_56 : decode cX5_bestOf 56 = .ok (.getfield 31, 3) := by decide +kernel
theorem dX5_bestOf_59 : decode cX5_bestOf 59 = .ok (.iload_n 1, 1) := by decide +kernel
theorem dX5_bestOf_60 : decode cX5_bestOf 60 = .ok (.iaload, 1) := by decide +kernel
theorem dX5_bestOf_61 : decode cX5_bestOf 61 = .ok (.iload_n 3, 1) := by decide +kernel
theorem dX5_bestOf_62 : decode cX5_bestOf 62 = .ok (.if_icmp .ge 40, 3) := by decide +kernel
theorem dX5_bestOf_65 : decode cX5_bestOf 65 = .ok (.aload_n 0, 1) := by decide +kernel
theorem dX5_bestOf_66 : decode cX5_bestOf 66 = .ok (.getfield 31, 3) := by decide +kernel
theorem dX5_bestOf_69 : decode cX5_bestOf 69 = .ok (.iload_n 1, 1) := by decide +kernel
theorem dX5_bestOf_70 : decode cX5_bestOf 70 = .ok (.iaload, 1) := by decide +kernel
theorem dX5_bestOf_71 : decode cX5_bestOf 71 = .ok (.istore_n 3, 1) := by decide +kernel
theorem dX5_bestOf_72 : decode cX5_bestOf 72 = .ok (.iconst 0, 1) := by decide +kernel
theorem dX5_bestOf_73 : decode cX5_bestOf 73 = .ok (.istore 5, 2) := by decide +kernel
theorem dX5_bestOf_75 : decode cX5_bestOf 75 = .ok (.iload 5, 2) := by decide +kernel
theorem dX5_bestOf_77 : decode cX5_bestOf 77 = .ok (.bipush 6, 2) := by decide +kernel
theorem dX5_bestOf_79 : decode cX5_bestOf 79 = .ok (.if_icmp .ge 23, 3) := by decide +kernel
theorem dX5_bestOf_82 : decode cX5_bestOf 82 = .ok (.aload_n 0, 1) := by decide +kernel
theorem dX5_bestOf_83 : decode cX5_bestOf 83 = .ok (.getfield 67, 3) := by decide +kernel
theorem dX5_bestOf_86 : decode cX5_bestOf 86 = .ok (.iload 5, 2) := by decide +kernel
theorem dX5_bestOf_88 : decode cX5_bestOf 88 = .ok (.aload_n 0, 1) := by decide +kernel
theorem dX5_bestOf_89 : decode cX5_bestOf 89 = .ok (.getfield 22, 3) := by decide +kernel
theorem dX5_bestOf_92 : decode cX5_bestOf 92 = .ok (.iload 5, 2) := by decide +kernel
theorem dX5_bestOf_94 : decode cX5_bestOf 94 = .ok (.iaload, 1) := by decide +kernel
theorem dX5_bestOf_95 : decode cX5_bestOf 95 = .ok (.iastore, 1) := by decide +kernel
theorem dX5_bestOf_96 : decode cX5_bestOf 96 = .ok (.iinc 5 1, 3) := by decide +kernel
theorem dX5_bestOf_99 : decode cX5_bestOf 99 = .ok (.goto (-24), 3) := by decide +kernel
theorem dX5_bestOf_102 : decode cX5_bestOf 102 = .ok (.aload_n 0, 1) := by decide +kernel
theorem dX5_bestOf_103 : decode cX5_bestOf 103 = .ok (.invokevirtual 172, 3) := by decide +kernel
theorem dX5_bestOf_106 : decode cX5_bestOf 106 = .ok (.istore 4, 2) := by decide +kernel
theorem dX5_bestOf_108 : decode cX5_bestOf 108 = .ok (.goto (-83), 3) := by decide +kernel
theorem dX5_bestOf_111 : decode cX5_bestOf 111 = .ok (.aload_n 0, 1) := by decide +kernel
theorem dX5_bestOf_112 : decode cX5_bestOf 112 = .ok (.invokevirtual 176, 3) := by decide +kernel
theorem dX5_bestOf_115 : decode cX5_bestOf 115 = .ok (.iload_n 3, 1) := by decide +kernel
theorem dX5_bestOf_116 : decode cX5_bestOf 116 = .ok (.ireturn, 1) := by decide +kernel
theorem dX5_best_0 : decode cX5_best 0 = .ok (.iload_n 1, 1) := by decide +kernel
theorem dX5_best_1 : decode cX5_best 1 = .ok (.iconst 0, 1) := by decide +kernel
theorem dX5_best_2 : decode cX5_best 2 = .ok (.bipush 7, 2) := by decide +kernel
theorem dX5_best_4 : decode cX5_best 4 = .ok (.invokestatic 83, 3) := by decide +kernel
theorem dX5_best_7 : decode cX5_best 7 = .ok (.ifCond .eq 11, 3) := by decide +kernel
theorem dX5_best_10 : decode cX5_best 10 = .ok (.aload_n 0, 1) := by decide +kernel
theorem dX5_best_11 : decode cX5_best 11 = .ok (.iload_n 1, 1) := by decide +kernel
theorem dX5_best_12 : decode cX5_best 12 = .ok (.invokevirtual 179, 3) := by decide +kernel
theorem dX5_best_15 : decode cX5_best 15 = .ok (.goto 9, 3) := by decide +kernel
theorem dX5_best_18 : decode cX5_best 18 = .ok (.aload_n 0, 1) := by decide +kernel
theorem dX5_best_19 : decode cX5_best 19 = .ok (.bipush (-2), 2) := by decide +kernel
theorem dX5_best_21 : decode cX5_best 21 = .ok (.invokevirtual 75, 3) := by decide +kernel
theorem dX5_best_24 : decode cX5_best 24 = .ok (.ireturn, 1) := by decide +kernel
theorem dX5_bestAt_0 : decode cX5_bestAt 0 = .ok (.iload_n 1, 1) := by decide +kernel
theorem dX5_bestAt_1 : decode cX5_bestAt 1 = .ok (.iconst 0, 1) := by decide +kernel
theorem dX5_bestAt_2 : decode cX5_bestAt 2 = .ok (.bipush 7, 2) := by decide +kernel
theorem dX5_bestAt_4 : decode cX5_bestAt 4 = .ok (.invokestatic 83, 3) := by decide +kernel
theorem dX5_bestAt_7 : decode cX5_bestAt 7 = .ok (.ifCond .ne 10, 3) := by decide +kernel
theorem dX5_bestAt_10 : decode cX5_bestAt 10 = .ok (.aload_n 0, 1) := by decide +kernel
theorem dX5_bestAt_11 : decode cX5_bestAt 11 = .ok (.bipush (-2), 2) := by decide +kernel
theorem dX5_bestAt_13 : decode cX5_bestAt 13 = .ok (.invokevirtual 75, 3) := by decide +kernel
theorem dX5_bestAt_16 : decode cX5_bestAt 16 = .ok (.ireturn, 1) := by decide +kernel
theorem dX5_bestAt_17 : decode cX5_bestAt 17 = .ok (.aload_n 0, 1) := by decide +kernel
theorem dX5_bestAt_18 : decode cX5_bestAt 18 = .ok (.iload_n 2, 1) := by decide +kernel
theorem dX5_bestAt_19 : decode cX5_bestAt 19 = .ok (.invokevirtual 111, 3) := by decide +kernel
theorem dX5_bestAt_22 : decode cX5_bestAt 22 = .ok (.ifCond .ne 9, 3) := by decide +kernel
theorem dX5_bestAt_25 : decode cX5_bestAt 25 = .ok (.aload_n 0, 1) := by decide +kernel
theorem dX5_bestAt_26 : decode cX5_bestAt 26 = .ok (.iconst (-1), 1) := by decide +kernel
theorem dX5_bestAt_27 : decode cX5_bestAt 27 = .ok (.invokevirtual 75, 3) := by decide +kernel
theorem dX5_bestAt_30 : decode cX5_bestAt 30 = .ok (.ireturn, 1) := by decide +kernel
theorem dX5_bestAt_31 : decode cX5_bestAt 31 = .ok (.aload_n 0, 1) := by decide +kernel
theorem dX5_bestAt_32 : decode cX5_bestAt 32 = .ok (.iload_n 1, 1) := by decide +kernel
theorem dX5_bestAt_33 : decode cX5_bestAt 33 = .ok (.invokevirtual 179, 3) := by decide +kernel
theorem dX5_bestAt_36 : decode cX5_bestAt 36 = .ok (.pop, 1) := by decide +kernel
theorem dX5_bestAt_37 : decode cX5_bestAt 37 = .ok (.aload_n 0, 1) := by decide +kernel
theorem dX5_bestAt_38 : decode cX5_bestAt 38 = .ok (.getfield 67, 3) := by decide +kernel
theorem dX5_bestAt_41 : decode cX5_bestAt 41 = .ok (.iload_n 2, 1) := by decide +kernel
theorem dX5_bestAt_42 : decode cX5_bestAt 42 = .ok (.iaload, 1) := by decide +kernel
theorem dX5_bestAt_43 : decode cX5_bestAt 43 = .ok (.ireturn, 1) := by decide +kernel
theorem dX5_turns_0 : decode cX5_turns 0 = .ok (.iconst 0, 1) := by decide +kernel
theorem dX5_turns_1 : decode cX5_turns 1 = .ok (.istore_n 2, 1) := by decide +kernel
theorem dX5_turns_2 : decode cX5_turns 2 = .ok (.iload_n 2, 1) := by decide +kernel
theorem dX5_turns_3 : decode cX5_turns 3 = .ok (.bipush 6, 2) := by decide +kernel
theorem dX5_turns_5 : decode cX5_turns 5 = .ok (.if_icmp .ge 21, 3) := by decide +kernel
theorem dX5_turns_8 : decode cX5_turns 8 = .ok (.aload_n 0, 1) := by decide +kernel
theorem dX5_turns_9 : decode cX5_turns 9 = .ok (.getfield 70, 3) := by decide +kernel
theorem dX5_turns_12 : decode cX5_turns 12 = .ok (.iload_n 2, 1) := by decide +kernel
theorem dX5_turns_13 : decode cX5_turns 13 = .ok (.aload_n 0, 1) := by decide +kernel
theorem dX5_turns_14 : decode cX5_turns 14 = .ok (.getfield 22, 3) := by decide +kernel
theorem dX5_turns_17 : decode cX5_turns 17 = .ok (.iload_n 2, 1) := by decide +kernel
theorem dX5_turns_18 : decode cX5_turns 18 = .ok (.iaload, 1) := by decide +kernel
theorem dX5_turns_19 : decode cX5_turns 19 = .ok (.iastore, 1) := by decide +kernel
theorem dX5_turns_20 : decode cX5_turns 20 = .ok (.iinc 2 1, 3) := by decide +kernel
theorem dX5_turns_23 : decode cX5_turns 23 = .ok (.goto (-21), 3) := by decide +kernel
theorem dX5_turns_26 : decode cX5_turns 26 = .ok (.iconst 0, 1) := by decide +kernel
theorem dX5_turns_27 : decode cX5_turns 27 = .ok (.istore_n 2, 1) := by decide +kernel
theorem dX5_turns_28 : decode cX5_turns 28 = .ok (.iconst 0, 1) := by decide +kernel
theorem dX5_turns_29 : decode cX5_turns 29 = .ok (.istore_n 3, 1) := by decide +kernel
theorem dX5_turns_30 : decode cX5_turns 30 = .ok (.iload_n 3, 1) := by decide +kernel
theorem dX5_turns_31 : decode cX5_turns 31 = .ok (.aload_n 0, 1) := by decide +kernel
theorem dX5_turns_32 : decode cX5_turns 32 = .ok (.getfield 79, 3) := by decide +kernel
theorem dX5_turns_35 : decode cX5_turns 35 = .ok (.if_icmp .ge 67, 3) := by decide +kernel
theorem dX5_turns_38 : decode cX5_turns 38 = .ok (.iconst 0, 1) := by decide +kernel
theorem dX5_turns_39 : decode cX5_turns 39 = .ok (.istore 4, 2) := by decide +kernel
theorem dX5_turns_41 : decode cX5_turns 41 = .ok (.iload 4, 2) := by decide +kernel
theorem dX5_turns_43 : decode cX5_turns 43 = .ok (.aload_n 0, 1) := by decide +kernel
theorem dX5_turns_44 : decode cX5_turns 44 = .ok (.getfield 79, 3) := by decide +kernel
theorem dX5_turns_47 : decode cX5_turns 47 = .ok (.if_icmp .ge 30, 3) := by decide +kernel
theorem dX5_turns_50 : decode cX5_turns 50 = .ok (.aload_n 0, 1) := by decide +kernel
theorem dX5_turns_51 : decode cX5_turns 51 = .ok (.getfield 22, 3) := by decide +kernel
theorem dX5_turns_54 : decode cX5_turns 54 = .ok (.iload 4, 2) := by decide +kernel
theorem dX5_turns_56 : decode cX5_turns 56 = .ok (.aload_n 0, 1) := by decide +kernel
theorem dX5_turns_57 : decode cX5_turns 57 = .ok (.getfield 70, 3) := by decide +kernel
theorem dX5_turns_60 : decode cX5_turns 60 = .ok (.iload_n 3, 1) := by decide +kernel
theorem dX5_turns_61 : decode cX5_turns 61 = .ok (.iload 4, 2) := by decide +kernel
theorem dX5_turns_63 : decode cX5_turns 63 = .ok (.iadd, 1) := by decide +kernel
theorem dX5_turns_64 : decode cX5_turns 64 = .ok (.aload_n 0, 1) := by decide +kernel
theorem dX5_turns_65 : decode cX5_turns 65 = .ok (.getfield 79, 3) := by decide +kernel
theorem dX5_turns_68 : decode cX5_turns 68 = .ok (.irem, 1) := by decide +kernel
theorem dX5_turns_69 : decode cX5_turns 69 = .ok (.iaload, 1) := by decide +kernel
theorem dX5_turns_70 : decode cX5_turns 70 = .ok (.iastore, 1) := by decide +kernel
theorem dX5_turns_71 : decode cX5_turns 71 = .ok (.iinc 4 1, 3) := by decide +kernel
theorem dX5_turns_74 : decode cX5_turns 74 = .ok (.goto (-33), 3) := by decide +kernel
theorem dX5_turns_77 : decode cX5_turns 77 = .ok (.aload_n 0, 1) := by decide +kernel
theorem dX5_turns_78 : decode cX5_turns 78 = .ok (.invokevirtual 166, 3) := by decide +kernel
theorem dX5_turns_81 : decode cX5_turns 81 = .ok (.aload_n 0, 1) := by decide +kernel
theorem dX5_turns_82 : decode cX5_turns 82 = .ok (.getfield 147, 3) := by decide +kernel
theorem dX5_turns_85 : decode cX5_turns 85 = .ok (.iload_n 1, 1) := by decide +kernel
theorem dX5_turns_86 : decode cX5_turns 86 = .ok (.ishr, 1) := by decide +kernel
theorem dX5_turns_87 : decode cX5_turns 87 = .ok (.iconst 1, 1) := by decide +kernel
theorem dX5_turns_88 : decode cX5_turns 88 = .ok (.iand, 1) := by decide +kernel
theorem dX5_turns_89 : decode cX5_turns 89 = .ok (.iconst 1, 1) := by decide +kernel
theorem dX5_turns_90 : decode cX5_turns 90 = .ok (.if_icmp .ne 6, 3) := by decide +kernel
theorem dX5_turns_93 : decode cX5_turns 93 = .ok (.iinc 2 1, 3) := by decide +kernel
theorem dX5_turns_96 : decode cX5_turns 96 = .ok (.iinc 3 1, 3) := by decide +kernel
theorem dX5_turns_99 : decode cX5_turns 99 = .ok (.goto (-69), 3) := by decide +kernel
theorem dX5_turns_102 : decode cX5_turns 102 = .ok (.aload_n 0, 1) := by decide +kernel
theorem dX5_turns_103 : decode cX5_turns 103 = .ok (.invokevirtual 176, 3) := by decide +kernel
theorem dX5_turns_106 : decode cX5_turns 106 = .ok (.iload_n 2, 1) := by decide +kernel
theorem dX5_turns_107 : decode cX5_turns 107 = .ok (.ireturn, 1) := by decide +kernel
theorem dX5_turned_0 : decode cX5_turned 0 = .ok (.aload_n 0, 1) := by decide +kernel
theorem dX5_turned_1 : decode cX5_turned 1 = .ok (.iload_n 1, 1) := by decide +kernel
theorem dX5_turned_2 : decode cX5_turned 2 = .ok (.invokevirtual 111, 3) := by decide +kernel
theorem dX5_turned_5 : decode cX5_turned 5 = .ok (.ifCond .eq 11, 3) := by decide +kernel
theorem dX5_turned_8 : decode cX5_turned 8 = .ok (.aload_n 0, 1) := by decide +kernel
theorem dX5_turned_9 : decode cX5_turned 9 = .ok (.iload_n 1, 1) := by decide +kernel
theorem dX5_turned_10 : decode cX5_turned 10 = .ok (.invokevirtual 182, 3) := by decide +kernel
theorem dX5_turned_13 : decode cX5_turned 13 = .ok (.goto 8, 3) := by decide +kernel
theorem dX5_turned_16 : decode cX5_turned 16 = .ok (.aload_n 0, 1) := by decide +kernel
theorem dX5_turned_17 : decode cX5_turned 17 = .ok (.iconst (-1), 1) := by decide +kernel
theorem dX5_turned_18 : decode cX5_turned 18 = .ok (.invokevirtual 75, 3) := by decide +kernel
theorem dX5_turned_21 : decode cX5_turned 21 = .ok (.ireturn, 1) := by decide +kernel
theorem dX5_most_0 : decode cX5_most 0 = .ok (.iconst 0, 1) := by decide +kernel
theorem dX5_most_1 : decode cX5_most 1 = .ok (.istore_n 1, 1) := by decide +kernel
theorem dX5_most_2 : decode cX5_most 2 = .ok (.iconst 0, 1) := by decide +kernel
theorem dX5_most_3 : decode cX5_most 3 = .ok (.istore_n 2, 1) := by decide +kernel
theorem dX5_most_4 : decode cX5_most 4 = .ok (.iload_n 2, 1) := by decide +kernel
theorem dX5_most_5 : decode cX5_most 5 = .ok (.aload_n 0, 1) := by decide +kernel
theorem dX5_most_6 : decode cX5_most 6 = .ok (.getfield 79, 3) := by decide +kernel
theorem dX5_most_9 : decode cX5_most 9 = .ok (.if_icmp .ge 19, 3) := by decide +kernel
theorem dX5_most_12 : decode cX5_most 12 = .ok (.iload_n 1, 1) := by decide +kernel
theorem dX5_most_13 : decode cX5_most 13 = .ok (.aload_n 0, 1) := by decide +kernel
theorem dX5_most_14 : decode cX5_most 14 = .ok (.iload_n 2, 1) := by decide +kernel
theorem dX5_most_15 : decode cX5_most 15 = .ok (.invokevirtual 182, 3) := by decide +kernel
theorem dX5_most_18 : decode cX5_most 18 = .ok (.invokestatic 150, 3) := by decide +kernel
theorem dX5_most_21 : decode cX5_most 21 = .ok (.istore_n 1, 1) := by decide +kernel
theorem dX5_most_22 : decode cX5_most 22 = .ok (.iinc 2 1, 3) := by decide +kernel
theorem dX5_most_25 : decode cX5_most 25 = .ok (.goto (-21), 3) := by decide +kernel
theorem dX5_most_28 : decode cX5_most 28 = .ok (.iload_n 1, 1) := by decide +kernel
theorem dX5_most_29 : decode cX5_most 29 = .ok (.ireturn, 1) := by decide +kernel
theorem dX5_enough_0 : decode cX5_enough 0 = .ok (.iload_n 1, 1) := by decide +kernel
theorem dX5_enough_1 : decode cX5_enough 1 = .ok (.iconst 0, 1) := by decide +kernel
theorem dX5_enough_2 : decode cX5_enough 2 = .ok (.iconst 2, 1) := by decide +kernel
theorem dX5_enough_3 : decode cX5_enough 3 = .ok (.invokestatic 83, 3) := by decide +kernel
theorem dX5_enough_6 : decode cX5_enough 6 = .ok (.ifCond .ne 10, 3) := by decide +kernel
theorem dX5_enough_9 : decode cX5_enough 9 = .ok (.aload_n 0, 1) := by decide +kernel
theorem dX5_enough_10 : decode cX5_enough 10 = .ok (.bipush (-2), 2) := by decide +kernel
theorem dX5_enough_12 : decode cX5_enough 12 = .ok (.invokevirtual 75, 3) := by decide +kernel
theorem dX5_enough_15 : decode cX5_enough 15 = .ok (.ireturn, 1) := by decide +kernel
theorem dX5_enough_16 : decode cX5_enough 16 = .ok (.aload_n 0, 1) := by decide +kernel
theorem dX5_enough_17 : decode cX5_enough 17 = .ok (.getfield 25, 3) := by decide +kernel
theorem dX5_enough_20 : decode cX5_enough 20 = .ok (.iconst 2, 1) := by decide +kernel
theorem dX5_enough_21 : decode cX5_enough 21 = .ok (.iload_n 1, 1) := by decide +kernel
theorem dX5_enough_22 : decode cX5_enough 22 = .ok (.iadd, 1) := by decide +kernel
theorem dX5_enough_23 : decode cX5_enough 23 = .ok (.iaload, 1) := by decide +kernel
theorem dX5_enough_24 : decode cX5_enough 24 = .ok (.istore_n 2, 1) := by decide +kernel
theorem dX5_enough_25 : decode cX5_enough 25 = .ok (.bipush (-9), 2) := by decide +kernel
theorem dX5_enough_27 : decode cX5_enough 27 = .ok (.istore_n 3, 1) := by decide +kernel
theorem dX5_enough_28 : decode cX5_enough 28 = .ok (.iconst 0, 1) := by decide +kernel
theorem dX5_enough_29 : decode cX5_enough 29 = .ok (.istore 4, 2) := by decide +kernel
theorem dX5_enough_31 : decode cX5_enough 31 = .ok (.iload 4, 2) := by decide +kernel
theorem dX5_enough_33 : decode cX5_enough 33 = .ok (.bipush 61, 2) := by decide +kernel
theorem dX5_enough_35 : decode cX5_enough 35 = .ok (.if_icmp .ge 39, 3) := by decide +kernel
theorem dX5_enough_38 : decode cX5_enough 38 = .ok (.iload_n 3, 1) := by decide +kernel
theorem dX5_enough_39 : decode cX5_enough 39 = .ok (.ifCond .ge 35, 3) := by decide +kernel
theorem dX5_enough_42 : decode cX5_enough 42 = .ok (.aload_n 0, 1) := by decide +kernel
theorem dX5_enough_43 : decode cX5_enough 43 = .ok (.getfield 25, 3) := by decide +kernel
theorem dX5_enough_46 : decode cX5_enough 46 = .ok (.iconst 2, 1) := by decide +kernel
theorem dX5_enough_47 : decode cX5_enough 47 = .ok (.iload_n 1, 1) := by decide +kernel
theorem dX5_enough_48 : decode cX5_enough 48 = .ok (.iadd, 1) := by decide +kernel
theorem dX5_enough_49 : decode cX5_enough 49 = .ok (.iload 4, 2) := by decide +kernel
theorem dX5_enough_51 : decode cX5_enough 51 = .ok (.iastore, 1) := by decide +kernel
theorem dX5_enough_52 : decode cX5_enough 52 = .ok (.aload_n 0, 1) := by decide +kernel
theorem dX5_enough_53 : decode cX5_enough 53 = .ok (.invokevirtual 166, 3) := by decide +kernel
theorem dX5_enough_56 : decode cX5_enough 56 = .ok (.aload_n 0, 1) := by decide +kernel
theorem dX5_enough_57 : decode cX5_enough 57 = .ok (.getfield 31, 3) := by decide +kernel
theorem dX5_enough_60 : decode cX5_enough 60 = .ok (.iconst 5, 1) := by decide +kernel
theorem dX5_enough_61 : decode cX5_enough 61 = .ok (.iaload, 1) := by decide +kernel
theorem dX5_enough_62 : decode cX5_enough 62 = .ok (.ifCond .ne 6, 3) := by decide +kernel
theorem dX5_enough_65 : decode cX5_enough 65 = .ok (.iload 4, 2) := by decide +kernel
theorem dX5_enough_67 : decode cX5_enough 67 = .ok (.istore_n 3, 1) := by decide +kernel
theorem dX5_enough_68 : decode cX5_enough 68 = .ok (.iinc 4 1, 3) := by decide +kernel
theorem dX5_enough_71 : decode cX5_enough 71 = .ok (.goto (-40), 3) := by decide +kernel
theorem dX5_enough_74 : decode cX5_enough 74 = .ok (.aload_n 0, 1) := by decide +kernel
theorem dX5_enough_75 : decode cX5_enough 75 = .ok (.getfield 25, 3) := by decide +kernel
theorem dX5_enough_78 : decode cX5_enough 78 = .ok (.iconst 2, 1) := by decide +kernel
theorem dX5_enough_79 : decode cX5_enough 79 = .ok (.iload_n 1, 1) := by decide +kernel
theorem dX5_enough_80 : decode cX5_enough 80 = .ok (.iadd, 1) := by decide +kernel
theorem dX5_enough_81 : decode cX5_enough 81 = .ok (.iload_n 2, 1) := by decide +kernel
theorem dX5_enough_82 : decode cX5_enough 82 = .ok (.iastore, 1) := by decide +kernel
theorem dX5_enough_83 : decode cX5_enough 83 = .ok (.iload_n 3, 1) := by decide +kernel
theorem dX5_enough_84 : decode cX5_enough 84 = .ok (.ireturn, 1) := by decide +kernel
theorem dX5_cheapest_0 : decode cX5_cheapest 0 = .ok (.aload_n 0, 1) := by decide +kernel
theorem dX5_cheapest_1 : decode cX5_cheapest 1 = .ok (.getfield 25, 3) := by decide +kernel
theorem dX5_cheapest_4 : decode cX5_cheapest 4 = .ok (.iload_n 1, 1) := by decide +kernel
theorem dX5_cheapest_5 : decode cX5_cheapest 5 = .ok (.iaload, 1) := by decide +kernel
theorem dX5_cheapest_6 : decode cX5_cheapest 6 = .ok (.istore_n 2, 1) := by decide +kernel
theorem dX5_cheapest_7 : decode cX5_cheapest 7 = .ok (.iconst 0, 1) := by decide +kernel
theorem dX5_cheapest_8 : decode cX5_cheapest 8 = .ok (.istore_n 3, 1) := by decide +kernel
theorem dX5_cheapest_9 : decode cX5_cheapest 9 = .ok (.iconst (-1), 1) := by decide +kernel
theorem dX5_cheapest_10 : decode cX5_cheapest 10 = .ok (.istore 4, 2) := by decide +kernel
theorem dX5_cheapest_12 : decode cX5_cheapest 12 = .ok (.iconst 0, 1) := by decide +kernel
theorem dX5_cheapest_13 : decode cX5_cheapest 13 = .ok (.istore 5, 2) := by decide +kernel
theorem dX5_cheapest_15 : decode cX5_cheapest 15 = .ok (.iload 5, 2) := by decide +kernel
theorem dX5_cheapest_17 : decode cX5_cheapest 17 = .ok (.iload_n 1, 1) := by decide +kernel
theorem dX5_cheapest_18 : decode cX5_cheapest 18 = .ok (.invokestatic 132, 3) := by decide +kernel
theorem dX5_cheapest_21 : decode cX5_cheapest 21 = .ok (.if_icmp .gt 53, 3) := by decide +kernel
theorem dX5_cheapest_24 : decode cX5_cheapest 24 = .ok (.aload_n 0, 1) := by decide +kernel
theorem dX5_cheapest_25 : decode cX5_cheapest 25 = .ok (.getfield 25, 3) := by decide +kernel
theorem dX5_cheapest_28 : decode cX5_cheapest 28 = .ok (.iload_n 1, 1) := by decide +kernel
theorem dX5_cheapest_29 : decode cX5_cheapest 29 = .ok (.iload 5, 2) := by decide +kernel
theorem dX5_cheapest_31 : decode cX5_cheapest 31 = .ok (.iastore, 1) := by decide +kernel
theorem dX5_cheapest_32 : decode cX5_cheapest 32 = .ok (.aload_n 0, 1) := by decide +kernel
theorem dX5_cheapest_33 : decode cX5_cheapest 33 = .ok (.invokevirtual 166, 3) := by decide +kernel
theorem dX5_cheapest_36 : decode cX5_cheapest 36 = .ok (.iload 4, 2) := by decide +kernel
theorem dX5_cheapest_38 : decode cX5_cheapest 38 = .ok (.ifCond .lt 18, 3) := by decide +kernel
theorem dX5_cheapest_41 : decode cX5_cheapest 41 = .ok (.aload_n 0, 1) := by decide +kernel
theorem dX5_cheapest_42 : decode cX5_cheapest 42 = .ok (.getfield 31, 3) := by decide +kernel
theorem dX5_cheapest_45 : decode cX5_cheapest 45 = .ok (.bipush 7, 2) := by decide +kernel
theorem dX5_cheapest_47 : decode cX5_cheapest 47 = .ok (.iaload, 1) := by decide +kernel
theorem dX5_cheapest_48 : decode cX5_cheapest 48 = .ok (.iload 4, 2) := by decide +kernel
theorem dX5_cheapest_50 : decode cX5_cheapest 50 = .ok (.if_icmp .lt 6, 3) := by decide +kernel
theorem dX5_cheapest_53 : decode cX5_cheapest 53 = .ok (.goto 15, 3) := by decide +kernel
theorem dX5_cheapest_56 : decode cX5_cheapest 56 = .ok (.aload_n 0, 1) := by decide +kernel
theorem dX5_cheapest_57 : decode cX5_cheapest 57 = .ok (.getfield 31, 3) := by decide +kernel
theorem dX5_cheapest_60 : decode cX5_cheapest 60 = .ok (.bipush 7, 2) := by decide +kernel
theorem dX5_cheapest_62 : decode cX5_cheapest 62 = .ok (.iaload, 1) := by decide +kernel
theorem dX5_cheapest_63 : decode cX5_cheapest 63 = .ok (.istore 4, 2) := by decide +kernel
theorem dX5_cheapest_65 : decode cX5_cheapest 65 = .ok (.iload 5, 2) := by decide +kernel
theorem dX5_cheapest_67 : decode cX5_cheapest 67 = .ok (.istore_n 3, 1) := by decide +kernel
theorem dX5_cheapest_68 : decode cX5_cheapest 68 = .ok (.iinc 5 1, 3) := by decide +kernel
theorem dX5_cheapest_71 : decode cX5_cheapest 71 = .ok (.goto (-56), 3) := by decide +kernel
theorem dX5_cheapest_74 : decode cX5_cheapest 74 = .ok (.aload_n 0, 1) := by decide +kernel
theorem dX5_cheapest_75 : decode cX5_cheapest 75 = .ok (.getfield 25, 3) := by decide +kernel
theorem dX5_cheapest_78 : decode cX5_cheapest 78 = .ok (.iload_n 1, 1) := by decide +kernel
theorem dX5_cheapest_79 : decode cX5_cheapest 79 = .ok (.iload_n 2, 1) := by decide +kernel
theorem dX5_cheapest_80 : decode cX5_cheapest 80 = .ok (.iastore, 1) := by decide +kernel
theorem dX5_cheapest_81 : decode cX5_cheapest 81 = .ok (.iload_n 3, 1) := by decide +kernel
theorem dX5_cheapest_82 : decode cX5_cheapest 82 = .ok (.ireturn, 1) := by decide +kernel
theorem dX5_fill_0 : decode cX5_fill 0 = .ok (.aload_n 0, 1) := by decide +kernel
theorem dX5_fill_1 : decode cX5_fill 1 = .ok (.bipush 8, 2) := by decide +kernel
theorem dX5_fill_3 : decode cX5_fill 3 = .ok (.invokevirtual 185, 3) := by decide +kernel
theorem dX5_fill_6 : decode cX5_fill 6 = .ok (.ireturn, 1) := by decide +kernel
theorem dX5_ramp_0 : decode cX5_ramp 0 = .ok (.aload_n 0, 1) := by decide +kernel
theorem dX5_ramp_1 : decode cX5_ramp 1 = .ok (.bipush 6, 2) := by decide +kernel
theorem dX5_ramp_3 : decode cX5_ramp 3 = .ok (.invokevirtual 185, 3) := by decide +kernel
theorem dX5_ramp_6 : decode cX5_ramp 6 = .ok (.ireturn, 1) := by decide +kernel
theorem dX5_keep_0 : decode cX5_keep 0 = .ok (.iload_n 1, 1) := by decide +kernel
theorem dX5_keep_1 : decode cX5_keep 1 = .ok (.iconst 0, 1) := by decide +kernel
theorem dX5_keep_2 : decode cX5_keep 2 = .ok (.iconst 1, 1) := by decide +kernel
theorem dX5_keep_3 : decode cX5_keep 3 = .ok (.invokestatic 83, 3) := by decide +kernel
theorem dX5_keep_6 : decode cX5_keep 6 = .ok (.ifCond .ne 10, 3) := by decide +kernel
theorem dX5_keep_9 : decode cX5_keep 9 = .ok (.aload_n 0, 1) := by decide +kernel
theorem dX5_keep_10 : decode cX5_keep 10 = .ok (.bipush (-2), 2) := by decide +kernel
theorem dX5_keep_12 : decode cX5_keep 12 = .ok (.invokevirtual 75, 3) := by decide +kernel
theorem dX5_keep_15 : decode cX5_keep 15 = .ok (.ireturn, 1) := by decide +kernel
theorem dX5_keep_16 : decode cX5_keep 16 = .ok (.aload_n 0, 1) := by decide +kernel
theorem dX5_keep_17 : decode cX5_keep 17 = .ok (.getfield 79, 3) := by decide +kernel
theorem dX5_keep_20 : decode cX5_keep 20 = .ok (.ifCond .ne 5, 3) := by decide +kernel
theorem dX5_keep_23 : decode cX5_keep 23 = .ok (.iconst 0, 1) := by decide +kernel
theorem dX5_keep_24 : decode cX5_keep 24 = .ok (.ireturn, 1) := by decide +kernel
theorem dX5_keep_25 : decode cX5_keep 25 = .ok (.aload_n 0, 1) := by decide +kernel
theorem dX5_keep_26 : decode cX5_keep 26 = .ok (.getfield 25, 3) := by decide +kernel
theorem dX5_keep_29 : decode cX5_keep 29 = .ok (.bipush 9, 2) := by decide +kernel
theorem dX5_keep_31 : decode cX5_keep 31 = .ok (.iaload, 1) := by decide +kernel
theorem dX5_keep_32 : decode cX5_keep 32 = .ok (.istore_n 2, 1) := by decide +kernel
theorem dX5_keep_33 : decode cX5_keep 33 = .ok (.iconst 0, 1) := by decide +kernel
theorem dX5_keep_34 : decode cX5_keep 34 = .ok (.istore_n 3, 1) := by decide +kernel
theorem dX5_keep_35 : decode cX5_keep 35 = .ok (.iconst (-1), 1) := by decide +kernel
theorem dX5_keep_36 : decode cX5_keep 36 = .ok (.istore 4, 2) := by decide +kernel
theorem dX5_keep_38 : decode cX5_keep 38 = .ok (.iconst 0, 1) := by decide +kernel
theorem dX5_keep_39 : decode cX5_keep 39 = .ok (.istore 5, 2) := by decide +kernel
theorem dX5_keep_41 : decode cX5_keep 41 = .ok (.iload 5, 2) := by decide +kernel
theorem dX5_keep_43 : decode cX5_keep 43 = .ok (.bipush 21, 2) := by decide +kernel
theorem dX5_keep_45 : decode cX5_keep 45 = .ok (.if_icmp .ge 57, 3) := by decide +kernel
theorem dX5_keep_48 : decode cX5_keep 48 = .ok (.aload_n 0, 1) := by decide +kernel
theorem dX5_keep_49 : decode cX5_keep 49 = .ok (.getfield 25, 3) := by decide +kernel
theorem dX5_keep_52 : decode cX5_keep 52 = .ok (.bipush 9, 2) := by decide +kernel
theorem dX5_keep_54 : decode cX5_keep 54 = .ok (.iload 5, 2) := by decide +kernel
theorem dX5_keep_56 : decode cX5_keep 56 = .ok (.iastore, 1) := by decide +kernel
theorem dX5_keep_57 : decode cX5_keep 57 = .ok (.aload_n 0, 1) := by decide +kernel
theorem dX5_keep_58 : decode cX5_keep 58 = .ok (.invokevirtual 166, 3) := by decide +kernel
theorem dX5_keep_61 : decode cX5_keep 61 = .ok (.aload_n 0, 1) := by decide +kernel
theorem dX5_keep_62 : decode cX5_keep 62 = .ok (.getfield 43, 3) := by decide +kernel
theorem dX5_keep_65 : decode cX5_keep 65 = .ok (.aload_n 0, 1) := by decide +kernel
theorem dX5_keep_66 : decode cX5_keep 66 = .ok (.getfield 79, 3) := by decide +kernel
theorem dX5_keep_69 : decode cX5_keep 69 = .ok (.iconst 1, 1) := by decide +kernel
theorem dX5_keep_70 : decode cX5_keep 70 = .ok (.isub, 1) := by decide +kernel
theorem dX5_keep_71 : decode cX5_keep 71 = .ok (.iaload, 1) := by decide +kernel
theorem dX5_keep_72 : decode cX5_keep 72 = .ok (.iload 4, 2) := by decide +kernel
theorem dX5_keep_74 : decode cX5_keep 74 = .ok (.if_icmp .gt 6, 3) := by decide +kernel
theorem dX5_keep_77 : decode cX5_keep 77 = .ok (.goto 19, 3) := by decide +kernel
theorem dX5_keep_80 : decode cX5_keep 80 = .ok (.aload_n 0, 1) := by decide +kernel
theorem dX5_keep_81 : decode cX5_keep 81 = .ok (.getfield 43, 3) := by decide +kernel
theorem dX5_keep_84 : decode cX5_keep 84 = .ok (.aload_n 0, 1) := by decide +kernel
theorem dX5_keep_85 : decode cX5_keep 85 = .ok (.getfield 79, 3) := by decide +kernel
theorem dX5_keep_88 : decode cX5_keep 88 = .ok (.iconst 1, 1) := by decide +kernel
theorem dX5_keep_89 : decode cX5_keep 89 = .ok (.isub, 1) := by decide +kernel
theorem dX5_keep_90 : decode cX5_keep 90 = .ok (.iaload, 1) := by decide +kernel
theorem dX5_keep_91 : decode cX5_keep 91 = .ok (.istore 4, 2) := by decide +kernel
theorem dX5_keep_93 : decode cX5_keep 93 = .ok (.iload 5, 2) := by decide +kernel
theorem dX5_keep_95 : decode cX5_keep 95 = .ok (.istore_n 3, 1) := by decide +kernel
theorem dX5_keep_96 : decode cX5_keep 96 = .ok (.iinc 5 1, 3) := by decide +kernel
theorem dX5_keep_99 : decode cX5_keep 99 = .ok (.goto (-58), 3) := by decide +kernel
theorem dX5_keep_102 : decode cX5_keep 102 = .ok (.aload_n 0, 1) := by decide +kernel
theorem dX5_keep_103 : decode cX5_keep 103 = .ok (.getfield 25, 3) := by decide +kernel
theorem dX5_keep_106 : decode cX5_keep 106 = .ok (.bipush 9, 2) := by decide +kernel
theorem dX5_keep_108 : decode cX5_keep 108 = .ok (.iload_n 2, 1) := by decide +kernel
theorem dX5_keep_109 : decode cX5_keep 109 = .ok (.iastore, 1) := by decide +kernel
theorem dX5_keep_110 : decode cX5_keep 110 = .ok (.iload_n 1, 1) := by decide +kernel
theorem dX5_keep_111 : decode cX5_keep 111 = .ok (.ifCond .ne 7, 3) := by decide +kernel
theorem dX5_keep_114 : decode cX5_keep 114 = .ok (.iload_n 3, 1) := by decide +kernel
theorem dX5_keep_115 : decode cX5_keep 115 = .ok (.goto 5, 3) := by decide +kernel
theorem dX5_keep_118 : decode cX5_keep 118 = .ok (.iload 4, 2) := by decide +kernel
theorem dX5_keep_120 : decode cX5_keep 120 = .ok (.ireturn, 1) := by decide +kernel
theorem dX5_oneEach_0 : decode cX5_oneEach 0 = .ok (.aload_n 0, 1) := by decide +kernel
theorem dX5_oneEach_1 : decode cX5_oneEach 1 = .ok (.invokevirtual 166, 3) := by decide +kernel
theorem dX5_oneEach_4 : decode cX5_oneEach 4 = .ok (.aload_n 0, 1) := by decide +kernel
theorem dX5_oneEach_5 : decode cX5_oneEach 5 = .ok (.getfield 31, 3) := by decide +kernel
theorem dX5_oneEach_8 : decode cX5_oneEach 8 = .ok (.iconst 5, 1) := by decide +kernel
theorem dX5_oneEach_9 : decode cX5_oneEach 9 = .ok (.iaload, 1) := by decide +kernel
theorem dX5_oneEach_10 : decode cX5_oneEach 10 = .ok (.istore_n 1, 1) := by decide +kernel
theorem dX5_oneEach_11 : decode cX5_oneEach 11 = .ok (.aload_n 0, 1) := by decide +kernel
theorem dX5_oneEach_12 : decode cX5_oneEach 12 = .ok (.iconst 1, 1) := by decide +kernel
theorem dX5_oneEach_13 : decode cX5_oneEach 13 = .ok (.putfield 156, 3) := by decide +kernel
theorem dX5_oneEach_16 : decode cX5_oneEach 16 = .ok (.aload_n 0, 1) := by decide +kernel
theorem dX5_oneEach_17 : decode cX5_oneEach 17 = .ok (.invokevirtual 166, 3) := by decide +kernel
theorem dX5_oneEach_20 : decode cX5_oneEach 20 = .ok (.aload_n 0, 1) := by decide +kernel
theorem dX5_oneEach_21 : decode cX5_oneEach 21 = .ok (.iconst 0, 1) := by decide +kernel
theorem dX5_oneEach_22 : decode cX5_oneEach 22 = .ok (.putfield 156, 3) := by decide +kernel
theorem dX5_oneEach_25 : decode cX5_oneEach 25 = .ok (.iload_n 1, 1) := by decide +kernel
theorem dX5_oneEach_26 : decode cX5_oneEach 26 = .ok (.aload_n 0, 1) := by decide +kernel
theorem dX5_oneEach_27 : decode cX5_oneEach 27 = .ok (.getfield 31, 3) := by decide +kernel
theorem dX5_oneEach_30 : decode cX5_oneEach 30 = .ok (.iconst 5, 1) := by decide +kernel
theorem dX5_oneEach_31 : decode cX5_oneEach 31 = .ok (.iaload, 1) := by decide +kernel
theorem dX5_oneEach_32 : decode cX5_oneEach 32 = .ok (.isub, 1) := by decide +kernel
theorem dX5_oneEach_33 : decode cX5_oneEach 33 = .ok (.ireturn, 1) := by decide +kernel
theorem dX5_machine_0 : decode cX5_machine 0 = .ok (.iconst 0, 1) := by decide +kernel
theorem dX5_machine_1 : decode cX5_machine 1 = .ok (.istore_n 1, 1) := by decide +kernel
theorem dX5_machine_2 : decode cX5_machine 2 = .ok (.iconst 0, 1) := by decide +kernel
theorem dX5_machine_3 : decode cX5_machine 3 = .ok (.istore_n 2, 1) := by decide +kernel
theorem dX5_machine_4 : decode cX5_machine 4 = .ok (.iload_n 2, 1) := by decide +kernel
theorem dX5_machine_5 : decode cX5_machine 5 = .ok (.aload_n 0, 1) := by decide +kernel
theorem dX5_machine_6 : decode cX5_machine 6 = .ok (.getfield 79, 3) := by decide +kernel
theorem dX5_machine_9 : decode cX5_machine 9 = .ok (.if_icmp .ge 29, 3) := by decide +kernel
theorem dX5_machine_12 : decode cX5_machine 12 = .ok (.iload_n 1, 1) := by decide +kernel
theorem dX5_machine_13 : decode cX5_machine 13 = .ok (.aload_n 0, 1) := by decide +kernel
theorem dX5_machine_14 : decode cX5_machine 14 = .ok (.getfield 16, 3) := by decide +kernel
theorem dX5_machine_17 : decode cX5_machine 17 = .ok (.iload_n 2, 1) := by decide +kernel
theorem dX5_machine_18 : decode cX5_machine 18 = .ok (.iaload, 1) := by decide +kernel
theorem dX5_machine_19 : decode cX5_machine 19 = .ok (.iconst 2, 1) := by decide +kernel
theorem dX5_machine_20 : decode cX5_machine 20 = .ok (.aload_n 0, 1) := by decide +kernel
theorem dX5_machine_21 : decode cX5_machine 21 = .ok (.getfield 13, 3) := by decide +kernel
theorem dX5_machine_24 : decode cX5_machine 24 = .ok (.iload_n 2, 1) := by decide +kernel
theorem dX5_machine_25 : decode cX5_machine 25 = .ok (.iaload, 1) := by decide +kernel
theorem dX5_machine_26 : decode cX5_machine 26 = .ok (.imul, 1) := by decide +kernel
theorem dX5_machine_27 : decode cX5_machine 27 = .ok (.iconst 1, 1) := by decide +kernel
theorem dX5_machine_28 : decode cX5_machine 28 = .ok (.iadd, 1) := by decide +kernel
theorem dX5_machine_29 : decode cX5_machine 29 = .ok (.imul, 1) := by decide +kernel
theorem dX5_machine_30 : decode cX5_machine 30 = .ok (.iadd, 1) := by decide +kernel
theorem dX5_machine_31 : decode cX5_machine 31 = .ok (.istore_n 1, 1) := by decide +kernel
theorem dX5_machine_32 : decode cX5_machine 32 = .ok (.iinc 2 1, 3) := by decide +kernel
theorem dX5_machine_35 : decode cX5_machine 35 = .ok (.goto (-31), 3) := by decide +kernel
theorem dX5_machine_38 : decode cX5_machine 38 = .ok (.iload_n 1, 1) := by decide +kernel
theorem dX5_machine_39 : decode cX5_machine 39 = .ok (.ireturn, 1) := by decide +kernel
theorem dX5_saves_0 : decode cX5_saves 0 = .ok (.aload_n 0, 1) := by decide +kernel
theorem dX5_saves_1 : decode cX5_saves 1 = .ok (.invokevirtual 166, 3) := by decide +kernel
theorem dX5_saves_4 : decode cX5_saves 4 = .ok (.aload_n 0, 1) := by decide +kernel
theorem dX5_saves_5 : decode cX5_saves 5 = .ok (.invokevirtual 188, 3) := by decide +kernel
theorem dX5_saves_8 : decode cX5_saves 8 = .ok (.aload_n 0, 1) := by decide +kernel
theorem dX5_saves_9 : decode cX5_saves 9 = .ok (.getfield 31, 3) := by decide +kernel
theorem dX5_saves_12 : decode cX5_saves 12 = .ok (.bipush 6, 2) := by decide +kernel
theorem dX5_saves_14 : decode cX5_saves 14 = .ok (.iaload, 1) := by decide +kernel
theorem dX5_saves_15 : decode cX5_saves 15 = .ok (.isub, 1) := by decide +kernel
theorem dX5_saves_16 : decode cX5_saves 16 = .ok (.ireturn, 1) := by decide +kernel
theorem dX5_late_0 : decode cX5_late 0 = .ok (.iload_n 1, 1) := by decide +kernel
theorem dX5_late_1 : decode cX5_late 1 = .ok (.ifCond .ge 10, 3) := by decide +kernel
theorem dX5_late_4 : decode cX5_late 4 = .ok (.aload_n 0, 1) := by decide +kernel
theorem dX5_late_5 : decode cX5_late 5 = .ok (.bipush (-4), 2) := by decide +kernel
theorem dX5_late_7 : decode cX5_late 7 = .ok (.invokevirtual 192, 3) := by decide +kernel
theorem dX5_late_10 : decode cX5_late 10 = .ok (.lreturn, 1) := by decide +kernel
theorem dX5_late_11 : decode cX5_late 11 = .ok (.iload_n 1, 1) := by decide +kernel
theorem dX5_late_12 : decode cX5_late 12 = .ok (.bipush 10, 2) := by decide +kernel
theorem dX5_late_14 : decode cX5_late 14 = .ok (.if_icmp .le 10, 3) := by decide +kernel
theorem dX5_late_17 : decode cX5_late 17 = .ok (.aload_n 0, 1) := by decide +kernel
theorem dX5_late_18 : decode cX5_late 18 = .ok (.bipush (-6), 2) := by decide +kernel
theorem dX5_late_20 : decode cX5_late 20 = .ok (.invokevirtual 192, 3) := by decide +kernel
theorem dX5_late_23 : decode cX5_late 23 = .ok (.lreturn, 1) := by decide +kernel
theorem dX5_late_24 : decode cX5_late 24 = .ok (.iload_n 2, 1) := by decide +kernel
theorem dX5_late_25 : decode cX5_late 25 = .ok (.iconst 0, 1) := by decide +kernel
theorem dX5_late_26 : decode cX5_late 26 = .ok (.iconst 1, 1) := by decide +kernel
theorem dX5_late_27 : decode cX5_late 27 = .ok (.invokestatic 83, 3) := by decide +kernel
theorem dX5_late_30 : decode cX5_late 30 = .ok (.ifCond .ne 10, 3) := by decide +kernel
theorem dX5_late_33 : decode cX5_late 33 = .ok (.aload_n 0, 1) := by decide +kernel
theorem dX5_late_34 : decode cX5_late 34 = .ok (.bipush (-2), 2) := by decide +kernel
theorem dX5_late_36 : decode cX5_late 36 = .ok (.invokevirtual 192, 3) := by decide +kernel
theorem dX5_late_39 : decode cX5_late 39 = .ok (.lreturn, 1) := by decide +kernel
theorem dX5_late_40 : decode cX5_late 40 = .ok (.iconst 0, 1) := by decide +kernel
theorem dX5_late_41 : decode cX5_late 41 = .ok (.istore_n 3, 1) := by decide +kernel
theorem dX5_late_42 : decode cX5_late 42 = .ok (.aload_n 0, 1) := by decide +kernel
theorem dX5_late_43 : decode cX5_late 43 = .ok (.getfield 25, 3) := by decide +kernel
theorem dX5_late_46 : decode cX5_late 46 = .ok (.iconst 5, 1) := by decide +kernel
theorem dX5_late_47 : decode cX5_late 47 = .ok (.iaload, 1) := by decide +kernel
theorem dX5_late_48 : decode cX5_late 48 = .ok (.istore 4, 2) := by decide +kernel
theorem dX5_late_50 : decode cX5_late 50 = .ok (.iconst 0, 1) := by decide +kernel
theorem dX5_late_51 : decode cX5_late 51 = .ok (.istore 5, 2) := by decide +kernel
theorem dX5_late_53 : decode cX5_late 53 = .ok (.iload 5, 2) := by decide +kernel
theorem dX5_late_55 : decode cX5_late 55 = .ok (.aload_n 0, 1) := by decide +kernel
theorem dX5_late_56 : decode cX5_late 56 = .ok (.getfield 79, 3) := by decide +kernel
theorem dX5_late_59 : decode cX5_late 59 = .ok (.if_icmp .ge 56, 3) := by decide +kernel
theorem dX5_late_62 : decode cX5_late 62 = .ok (.aload_n 0, 1) := by decide +kernel
theorem dX5_late_63 : decode cX5_late 63 = .ok (.getfield 13, 3) := by decide +kernel
theorem dX5_late_66 : decode cX5_late 66 = .ok (.aload_n 0, 1) := by decide +kernel
theorem dX5_late_67 : decode cX5_late 67 = .ok (.getfield 22, 3) := by decide +kernel
theorem dX5_late_70 : decode cX5_late 70 = .ok (.iload 5, 2) := by decide +kernel
theorem dX5_late_72 : decode cX5_late 72 = .ok (.iaload, 1) := by decide +kernel
theorem dX5_late_73 : decode cX5_late 73 = .ok (.iaload, 1) := by decide +kernel
theorem dX5_late_74 : decode cX5_late 74 = .ok (.istore 6, 2) := by decide +kernel
theorem dX5_late_76 : decode cX5_late 76 = .ok (.iload_n 3, 1) := by decide +kernel
theorem dX5_late_77 : decode cX5_late 77 = .ok (.bipush 10, 2) := by decide +kernel
theorem dX5_late_79 : decode cX5_late 79 = .ok (.iload_n 1, 1) := by decide +kernel
theorem dX5_late_80 : decode cX5_late 80 = .ok (.isub, 1) := by decide +kernel
theorem dX5_late_81 : decode cX5_late 81 = .ok (.aload_n 0, 1) := by decide +kernel
theorem dX5_late_82 : decode cX5_late 82 = .ok (.iload 4, 2) := by decide +kernel
theorem dX5_late_84 : decode cX5_late 84 = .ok (.iload 6, 2) := by decide +kernel
theorem dX5_late_86 : decode cX5_late 86 = .ok (.iconst 0, 1) := by decide +kernel
theorem dX5_late_87 : decode cX5_late 87 = .ok (.invokevirtual 143, 3) := by decide +kernel
theorem dX5_late_90 : decode cX5_late 90 = .ok (.imul, 1) := by decide +kernel
theorem dX5_late_91 : decode cX5_late 91 = .ok (.iload_n 1, 1) := by decide +kernel
theorem dX5_late_92 : decode cX5_late 92 = .ok (.aload_n 0, 1) := by decide +kernel
theorem dX5_late_93 : decode cX5_late 93 = .ok (.iload 4, 2) := by decide +kernel
theorem dX5_late_95 : decode cX5_late 95 = .ok (.iload 6, 2) := by decide +kernel
theorem dX5_late_97 : decode cX5_late 97 = .ok (.iconst 1, 1) := by decide +kernel
theorem dX5_late_98 : decode cX5_late 98 = .ok (.invokevirtual 143, 3) := by decide +kernel
theorem dX5_late_101 : decode cX5_late 101 = .ok (.imul, 1) := by decide +kernel
theorem dX5_late_102 : decode cX5_late 102 = .ok (.iadd, 1) := by decide +kernel
theorem dX5_late_103 : decode cX5_late 103 = .ok (.iadd, 1) := by decide +kernel
theorem dX5_late_104 : decode cX5_late 104 = .ok (.istore_n 3, 1) := by decide +kernel
theorem dX5_late_105 : decode cX5_late 105 = .ok (.iload 6, 2) := by decide +kernel
theorem dX5_late_107 : decode cX5_late 107 = .ok (.istore 4, 2) := by decide +kernel
theorem dX5_late_109 : decode cX5_late 109 = .ok (.iinc 5 1, 3) := by decide +kernel
theorem dX5_late_112 : decode cX5_late 112 = .ok (.goto (-59), 3) := by decide +kernel
theorem dX5_late_115 : decode cX5_late 115 = .ok (.aload_n 0, 1) := by decide +kernel
theorem dX5_late_116 : decode cX5_late 116 = .ok (.iload_n 3, 1) := by decide +kernel
theorem dX5_late_117 : decode cX5_late 117 = .ok (.i2l, 1) := by decide +kernel
theorem dX5_late_118 : decode cX5_late 118 = .ok (.putfield 196, 3) := by decide +kernel
theorem dX5_late_121 : decode cX5_late 121 = .ok (.aload_n 0, 1) := by decide +kernel
theorem dX5_late_122 : decode cX5_late 122 = .ok (.ldc2_w 200, 3) := by decide +kernel
theorem dX5_late_125 : decode cX5_late 125 = .ok (.putfield 202, 3) := by decide +kernel
theorem dX5_late_128 : decode cX5_late 128 = .ok (.aload_n 0, 1) := by decide +kernel
theorem dX5_late_129 : decode cX5_late 129 = .ok (.invokevirtual 205, 3) := by decide +kernel
theorem dX5_late_132 : decode cX5_late 132 = .ok (.iload_n 2, 1) := by decide +kernel
theorem dX5_late_133 : decode cX5_late 133 = .ok (.ifCond .ne 10, 3) := by decide +kernel
theorem dX5_late_136 : decode cX5_late 136 = .ok (.aload_n 0, 1) := by decide +kernel
theorem dX5_late_137 : decode cX5_late 137 = .ok (.getfield 196, 3) := by decide +kernel
theorem dX5_late_140 : decode cX5_late 140 = .ok (.goto 7, 3) := by decide +kernel
theorem dX5_late_143 : decode cX5_late 143 = .ok (.aload_n 0, 1) := by decide +kernel
theorem dX5_late_144 : decode cX5_late 144 = .ok (.getfield 202, 3) := by decide +kernel
theorem dX5_late_147 : decode cX5_late 147 = .ok (.lreturn, 1) := by decide +kernel
theorem dX5_least_0 : decode cX5_least 0 = .ok (.aload_n 0, 1) := by decide +kernel
theorem dX5_least_1 : decode cX5_least 1 = .ok (.getfield 196, 3) := by decide +kernel
theorem dX5_least_4 : decode cX5_least 4 = .ok (.lstore_n 1, 1) := by decide +kernel
theorem dX5_least_5 : decode cX5_least 5 = .ok (.aload_n 0, 1) := by decide +kernel
theorem dX5_least_6 : decode cX5_least 6 = .ok (.getfield 202, 3) := by decide +kernel
theorem dX5_least_9 : decode cX5_least 9 = .ok (.lstore_n 3, 1) := by decide +kernel
theorem dX5_least_10 : decode cX5_least 10 = .ok (.lload_n 3, 1) := by decide +kernel
theorem dX5_least_11 : decode cX5_least 11 = .ok (.lconst 0, 1) := by decide +kernel
theorem dX5_least_12 : decode cX5_least 12 = .ok (.lcmp, 1) := by decide +kernel
theorem dX5_least_13 : decode cX5_least 13 = .ok (.ifCond .eq 16, 3) := by decide +kernel
theorem dX5_least_16 : decode cX5_least 16 = .ok (.lload_n 1, 1) := by decide +kernel
theorem dX5_least_17 : decode cX5_least 17 = .ok (.lload_n 3, 1) := by decide +kernel
theorem dX5_least_18 : decode cX5_least 18 = .ok (.lrem, 1) := by decide +kernel
theorem dX5_least_19 : decode cX5_least 19 = .ok (.lstore 5, 2) := by decide +kernel
theorem dX5_least_21 : decode cX5_least 21 = .ok (.lload_n 3, 1) := by decide +kernel
theorem dX5_least_22 : decode cX5_least 22 = .ok (.lstore_n 1, 1) := by decide +kernel
theorem dX5_least_23 : decode cX5_least 23 = .ok (.lload 5, 2) := by decide +kernel
theorem dX5_least_25 : decode cX5_least 25 = .ok (.lstore_n 3, 1) := by decide +kernel
theorem dX5_least_26 : decode cX5_least 26 = .ok (.goto (-16), 3) := by decide +kernel
theorem dX5_least_29 : decode cX5_least 29 = .ok (.aload_n 0, 1) := by decide +kernel
theorem dX5_least_30 : decode cX5_least 30 = .ok (.dup, 1) := by decide +kernel
theorem dX5_least_31 : decode cX5_least 31 = .ok (.getfield 196, 3) := by decide +kernel
theorem dX5_least_34 : decode cX5_least 34 = .ok (.lload_n 1, 1) := by decide +kernel
theorem dX5_least_35 : decode cX5_least 35 = .ok (.ldiv, 1) := by decide +kernel
theorem dX5_least_36 : decode cX5_least 36 = .ok (.putfield 196, 3) := by decide +kernel
theorem dX5_least_39 : decode cX5_least 39 = .ok (.aload_n 0, 1) := by decide +kernel
theorem dX5_least_40 : decode cX5_least 40 = .ok (.dup, 1) := by decide +kernel
theorem dX5_least_41 : decode cX5_least 41 = .ok (.getfield 202, 3) := by decide +kernel
theorem dX5_least_44 : decode cX5_least 44 = .ok (.lload_n 1, 1) := by decide +kernel
theorem dX5_least_45 : decode cX5_least 45 = .ok (.ldiv, 1) := by decide +kernel
theorem dX5_least_46 : decode cX5_least 46 = .ok (.putfield 202, 3) := by decide +kernel
theorem dX5_least_49 : decode cX5_least 49 = .ok (.return_, 1) := by decide +kernel
theorem dX5_more_0 : decode cX5_more 0 = .ok (.aload_n 0, 1) := by decide +kernel
theorem dX5_more_1 : decode cX5_more 1 = .ok (.iload_n 1, 1) := by decide +kernel
theorem dX5_more_2 : decode cX5_more 2 = .ok (.invokevirtual 111, 3) := by decide +kernel
theorem dX5_more_5 : decode cX5_more 5 = .ok (.ifCond .ne 9, 3) := by decide +kernel
theorem dX5_more_8 : decode cX5_more 8 = .ok (.aload_n 0, 1) := by decide +kernel
theorem dX5_more_9 : decode cX5_more 9 = .ok (.iconst (-1), 1) := by decide +kernel
theorem dX5_more_10 : decode cX5_more 10 = .ok (.invokevirtual 75, 3) := by decide +kernel
theorem dX5_more_13 : decode cX5_more 13 = .ok (.ireturn, 1) := by decide +kernel
theorem dX5_more_14 : decode cX5_more 14 = .ok (.aload_n 0, 1) := by decide +kernel
theorem dX5_more_15 : decode cX5_more 15 = .ok (.getfield 16, 3) := by decide +kernel
theorem dX5_more_18 : decode cX5_more 18 = .ok (.iload_n 1, 1) := by decide +kernel
theorem dX5_more_19 : decode cX5_more 19 = .ok (.iaload, 1) := by decide +kernel
theorem dX5_more_20 : decode cX5_more 20 = .ok (.istore_n 2, 1) := by decide +kernel
theorem dX5_more_21 : decode cX5_more 21 = .ok (.aload_n 0, 1) := by decide +kernel
theorem dX5_more_22 : decode cX5_more 22 = .ok (.invokevirtual 166, 3) := by decide +kernel
theorem dX5_more_25 : decode cX5_more 25 = .ok (.aload_n 0, 1) := by decide +kernel
theorem dX5_more_26 : decode cX5_more 26 = .ok (.getfield 31, 3) := by decide +kernel
theorem dX5_more_29 : decode cX5_more 29 = .ok (.iconst 2, 1) := by decide +kernel
theorem dX5_more_30 : decode cX5_more 30 = .ok (.iaload, 1) := by decide +kernel
theorem dX5_more_31 : decode cX5_more 31 = .ok (.istore_n 3, 1) := by decide +kernel
theorem dX5_more_32 : decode cX5_more 32 = .ok (.iconst 0, 1) := by decide +kernel
theorem dX5_more_33 : decode cX5_more 33 = .ok (.istore 4, 2) := by decide +kernel
theorem dX5_more_35 : decode cX5_more 35 = .ok (.iload_n 2, 1) := by decide +kernel
theorem dX5_more_36 : decode cX5_more 36 = .ok (.istore 5, 2) := by decide +kernel
theorem dX5_more_38 : decode cX5_more 38 = .ok (.iload 5, 2) := by decide +kernel
theorem dX5_more_40 : decode cX5_more 40 = .ok (.bipush 21, 2) := by decide +kernel
theorem dX5_more_42 : decode cX5_more 42 = .ok (.if_icmp .ge 37, 3) := by decide +kernel
theorem dX5_more_45 : decode cX5_more 45 = .ok (.aload_n 0, 1) := by decide +kernel
theorem dX5_more_46 : decode cX5_more 46 = .ok (.getfield 16, 3) := by decide +kernel
theorem dX5_more_49 : decode cX5_more 49 = .ok (.iload_n 1, 1) := by decide +kernel
theorem dX5_more_50 : decode cX5_more 50 = .ok (.iload 5, 2) := by decide +kernel
theorem dX5_more_52 : decode cX5_more 52 = .ok (.iastore, 1) := by decide +kernel
theorem dX5_more_53 : decode cX5_more 53 = .ok (.aload_n 0, 1) := by decide +kernel
theorem dX5_more_54 : decode cX5_more 54 = .ok (.invokevirtual 166, 3) := by decide +kernel
theorem dX5_more_57 : decode cX5_more 57 = .ok (.aload_n 0, 1) := by decide +kernel
theorem dX5_more_58 : decode cX5_more 58 = .ok (.getfield 31, 3) := by decide +kernel
theorem dX5_more_61 : decode cX5_more 61 = .ok (.iconst 2, 1) := by decide +kernel
theorem dX5_more_62 : decode cX5_more 62 = .ok (.iaload, 1) := by decide +kernel
theorem dX5_more_63 : decode cX5_more 63 = .ok (.iload_n 3, 1) := by decide +kernel
theorem dX5_more_64 : decode cX5_more 64 = .ok (.if_icmp .gt 9, 3) := by decide +kernel
theorem dX5_more_67 : decode cX5_more 67 = .ok (.iload 5, 2) := by decide +kernel
theorem dX5_more_69 : decode cX5_more 69 = .ok (.iload_n 2, 1) := by decide +kernel
theorem dX5_more_70 : decode cX5_more 70 = .ok (.isub, 1) := by decide +kernel
theorem dX5_more_71 : decode cX5_more 71 = .ok (.istore 4, 2) := by decide +kernel
theorem dX5_more_73 : decode cX5_more 73 = .ok (.iinc 5 1, 3) := by decide +kernel
theorem dX5_more_76 : decode cX5_more 76 = .ok (.goto (-38), 3) := by decide +kernel
theorem dX5_more_79 : decode cX5_more 79 = .ok (.aload_n 0, 1) := by decide +kernel
theorem dX5_more_80 : decode cX5_more 80 = .ok (.getfield 16, 3) := by decide +kernel
theorem dX5_more_83 : decode cX5_more 83 = .ok (.iload_n 1, 1) := by decide +kernel
theorem dX5_more_84 : decode cX5_more 84 = .ok (.iload_n 2, 1) := by decide +kernel
theorem dX5_more_85 : decode cX5_more 85 = .ok (.iastore, 1) := by decide +kernel
theorem dX5_more_86 : decode cX5_more 86 = .ok (.iload 4, 2) := by decide +kernel
theorem dX5_more_88 : decode cX5_more 88 = .ok (.ireturn, 1) := by decide +kernel
theorem dX5_squeak_0 : decode cX5_squeak 0 = .ok (.iload_n 1, 1) := by decide +kernel
theorem dX5_squeak_1 : decode cX5_squeak 1 = .ok (.ifCond .ge 10, 3) := by decide +kernel
theorem dX5_squeak_4 : decode cX5_squeak 4 = .ok (.aload_n 0, 1) := by decide +kernel
theorem dX5_squeak_5 : decode cX5_squeak 5 = .ok (.bipush (-4), 2) := by decide +kernel
theorem dX5_squeak_7 : decode cX5_squeak 7 = .ok (.invokevirtual 75, 3) := by decide +kernel
theorem dX5_squeak_10 : decode cX5_squeak 10 = .ok (.ireturn, 1) := by decide +kernel
theorem dX5_squeak_11 : decode cX5_squeak 11 = .ok (.iload_n 1, 1) := by decide +kernel
theorem dX5_squeak_12 : decode cX5_squeak 12 = .ok (.bipush 9, 2) := by decide +kernel
theorem dX5_squeak_14 : decode cX5_squeak 14 = .ok (.if_icmp .le 10, 3) := by decide +kernel
theorem dX5_squeak_17 : decode cX5_squeak 17 = .ok (.aload_n 0, 1) := by decide +kernel
theorem dX5_squeak_18 : decode cX5_squeak 18 = .ok (.bipush (-6), 2) := by decide +kernel
theorem dX5_squeak_20 : decode cX5_squeak 20 = .ok (.invokevirtual 75, 3) := by decide +kernel
theorem dX5_squeak_23 : decode cX5_squeak 23 = .ok (.ireturn, 1) := by decide +kernel
theorem dX5_squeak_24 : decode cX5_squeak 24 = .ok (.aload_n 0, 1) := by decide +kernel
theorem dX5_squeak_25 : decode cX5_squeak 25 = .ok (.invokevirtual 166, 3) := by decide +kernel
theorem dX5_squeak_28 : decode cX5_squeak 28 = .ok (.iconst 0, 1) := by decide +kernel
theorem dX5_squeak_29 : decode cX5_squeak 29 = .ok (.istore_n 2, 1) := by decide +kernel
theorem dX5_squeak_30 : decode cX5_squeak 30 = .ok (.iconst 0, 1) := by decide +kernel
theorem dX5_squeak_31 : decode cX5_squeak 31 = .ok (.istore_n 3, 1) := by decide +kernel
theorem dX5_squeak_32 : decode cX5_squeak 32 = .ok (.iload_n 3, 1) := by decide +kernel
theorem dX5_squeak_33 : decode cX5_squeak 33 = .ok (.aload_n 0, 1) := by decide +kernel
theorem dX5_squeak_34 : decode cX5_squeak 34 = .ok (.getfield 79, 3) := by decide +kernel
theorem dX5_squeak_37 : decode cX5_squeak 37 = .ok (.if_icmp .ge 33, 3) := by decide +kernel
theorem dX5_squeak_40 : decode cX5_squeak 40 = .ok (.aload_n 0, 1) := by decide +kernel
theorem dX5_squeak_41 : decode cX5_squeak 41 = .ok (.getfield 13, 3) := by decide +kernel
theorem dX5_squeak_44 : decode cX5_squeak 44 = .ok (.aload_n 0, 1) := by decide +kernel
theorem dX5_squeak_45 : decode cX5_squeak 45 = .ok (.getfield 22, 3) := by decide +kernel
theorem dX5_squeak_48 : decode cX5_squeak 48 = .ok (.iload_n 3, 1) := by decide +kernel
theorem dX5_squeak_49 : decode cX5_squeak 49 = .ok (.iaload, 1) := by decide +kernel
theorem dX5_squeak_50 : decode cX5_squeak 50 = .ok (.iaload, 1) := by decide +kernel
theorem dX5_squeak_51 : decode cX5_squeak 51 = .ok (.iload_n 1, 1) := by decide +kernel
theorem dX5_squeak_52 : decode cX5_squeak 52 = .ok (.if_icmp .gt 12, 3) := by decide +kernel
theorem dX5_squeak_55 : decode cX5_squeak 55 = .ok (.iload_n 2, 1) := by decide +kernel
theorem dX5_squeak_56 : decode cX5_squeak 56 = .ok (.aload_n 0, 1) := by decide +kernel
theorem dX5_squeak_57 : decode cX5_squeak 57 = .ok (.getfield 46, 3) := by decide +kernel
theorem dX5_squeak_60 : decode cX5_squeak 60 = .ok (.iload_n 3, 1) := by decide +kernel
theorem dX5_squeak_61 : decode cX5_squeak 61 = .ok (.iaload, 1) := by decide +kernel
theorem dX5_squeak_62 : decode cX5_squeak 62 = .ok (.iadd, 1) := by decide +kernel
theorem dX5_squeak_63 : decode cX5_squeak 63 = .ok (.istore_n 2, 1) := by decide +kernel
theorem dX5_squeak_64 : decode cX5_squeak 64 = .ok (.iinc 3 1, 3) := by decide +kernel
theorem dX5_squeak_67 : decode cX5_squeak 67 = .ok (.goto (-35), 3) := by decide +kernel
theorem dX5_squeak_70 : decode cX5_squeak 70 = .ok (.iload_n 2, 1) := by decide +kernel
theorem dX5_squeak_71 : decode cX5_squeak 71 = .ok (.ireturn, 1) := by decide +kernel
theorem dX5_row_0 : decode cX5_row 0 = .ok (.iload_n 1, 1) := by decide +kernel
theorem dX5_row_1 : decode cX5_row 1 = .ok (.ifCond .ge 10, 3) := by decide +kernel
theorem dX5_row_4 : decode cX5_row 4 = .ok (.aload_n 0, 1) := by decide +kernel
theorem dX5_row_5 : decode cX5_row 5 = .ok (.bipush (-4), 2) := by decide +kernel
theorem dX5_row_7 : decode cX5_row 7 = .ok (.invokevirtual 75, 3) := by decide +kernel
theorem dX5_row_10 : decode cX5_row 10 = .ok (.ireturn, 1) := by decide +kernel
theorem dX5_row_11 : decode cX5_row 11 = .ok (.iload_n 1, 1) := by decide +kernel
theorem dX5_row_12 : decode cX5_row 12 = .ok (.bipush 99, 2) := by decide +kernel
theorem dX5_row_14 : decode cX5_row 14 = .ok (.if_icmp .gt 12, 3) := by decide +kernel
theorem dX5_row_17 : decode cX5_row 17 = .ok (.aload_n 0, 1) := by decide +kernel
theorem dX5_row_18 : decode cX5_row 18 = .ok (.getfield 208, 3) := by decide +kernel
theorem dX5_row_21 : decode cX5_row 21 = .ok (.bipush 12, 2) := by decide +kernel
theorem dX5_row_23 : decode cX5_row 23 = .ok (.if_icmp .ne 10, 3) := by decide +kernel
theorem dX5_row_26 : decode cX5_row 26 = .ok (.aload_n 0, 1) := by decide +kernel
theorem dX5_row_27 : decode cX5_row 27 = .ok (.bipush (-6), 2) := by decide +kernel
theorem dX5_row_29 : decode cX5_row 29 = .ok (.invokevirtual 75, 3) := by decide +kernel
theorem dX5_row_32 : decode cX5_row 32 = .ok (.ireturn, 1) := by decide +kernel
theorem dX5_row_33 : decode cX5_row 33 = .ok (.aload_n 0, 1) := by decide +kernel
theorem dX5_row_34 : decode cX5_row 34 = .ok (.getfield 55, 3) := by decide +kernel
theorem dX5_row_37 : decode cX5_row 37 = .ok (.aload_n 0, 1) := by decide +kernel
theorem dX5_row_38 : decode cX5_row 38 = .ok (.dup, 1) := by decide +kernel
theorem dX5_row_39 : decode cX5_row 39 = .ok (.getfield 208, 3) := by decide +kernel
theorem dX5_row_42 : decode cX5_row 42 = .ok (.dup_x1, 1) := by decide +kernel
theorem dX5_row_43 : decode cX5_row 43 = .ok (.iconst 1, 1) := by decide +kernel
theorem dX5_row_44 : decode cX5_row 44 = .ok (.iadd, 1) := by decide +kernel
theorem dX5_row_45 : decode cX5_row 45 = .ok (.putfield 208, 3) := by decide +kernel
theorem dX5_row_48 : decode cX5_row 48 = .ok (.iload_n 1, 1) := by decide +kernel
theorem dX5_row_49 : decode cX5_row 49 = .ok (.iastore, 1) := by decide +kernel
theorem dX5_row_50 : decode cX5_row 50 = .ok (.aload_n 0, 1) := by decide +kernel
theorem dX5_row_51 : decode cX5_row 51 = .ok (.getfield 208, 3) := by decide +kernel
theorem dX5_row_54 : decode cX5_row 54 = .ok (.ireturn, 1) := by decide +kernel
theorem dX5_wrong_0 : decode cX5_wrong 0 = .ok (.aload_n 0, 1) := by decide +kernel
theorem dX5_wrong_1 : decode cX5_wrong 1 = .ok (.invokevirtual 166, 3) := by decide +kernel
theorem dX5_wrong_4 : decode cX5_wrong 4 = .ok (.iconst 0, 1) := by decide +kernel
theorem dX5_wrong_5 : decode cX5_wrong 5 = .ok (.istore_n 1, 1) := by decide +kernel
theorem dX5_wrong_6 : decode cX5_wrong 6 = .ok (.iload_n 1, 1) := by decide +kernel
theorem dX5_wrong_7 : decode cX5_wrong 7 = .ok (.aload_n 0, 1) := by decide +kernel
theorem dX5_wrong_8 : decode cX5_wrong 8 = .ok (.getfield 208, 3) := by decide +kernel
theorem dX5_wrong_11 : decode cX5_wrong 11 = .ok (.if_icmp .ge 34, 3) := by decide +kernel
theorem dX5_wrong_14 : decode cX5_wrong 14 = .ok (.iload_n 1, 1) := by decide +kernel
theorem dX5_wrong_15 : decode cX5_wrong 15 = .ok (.aload_n 0, 1) := by decide +kernel
theorem dX5_wrong_16 : decode cX5_wrong 16 = .ok (.getfield 79, 3) := by decide +kernel
theorem dX5_wrong_19 : decode cX5_wrong 19 = .ok (.if_icmp .ge 18, 3) := by decide +kernel
theorem dX5_wrong_22 : decode cX5_wrong 22 = .ok (.aload_n 0, 1) := by decide +kernel
theorem dX5_wrong_23 : decode cX5_wrong 23 = .ok (.getfield 55, 3) := by decide +kernel
theorem dX5_wrong_26 : decode cX5_wrong 26 = .ok (.iload_n 1, 1) := by decide +kernel
theorem dX5_wrong_27 : decode cX5_wrong 27 = .ok (.iaload, 1) := by decide +kernel
theorem dX5_wrong_28 : decode cX5_wrong 28 = .ok (.aload_n 0, 1) := by decide +kernel
theorem dX5_wrong_29 : decode cX5_wrong 29 = .ok (.getfield 40, 3) := by decide +kernel
theorem dX5_wrong_32 : decode cX5_wrong 32 = .ok (.iload_n 1, 1) := by decide +kernel
theorem dX5_wrong_33 : decode cX5_wrong 33 = .ok (.iaload, 1) := by decide +kernel
theorem dX5_wrong_34 : decode cX5_wrong 34 = .ok (.if_icmp .eq 5, 3) := by decide +kernel
theorem dX5_wrong_37 : decode cX5_wrong 37 = .ok (.iload_n 1, 1) := by decide +kernel
theorem dX5_wrong_38 : decode cX5_wrong 38 = .ok (.ireturn, 1) := by decide +kernel
theorem dX5_wrong_39 : decode cX5_wrong 39 = .ok (.iinc 1 1, 3) := by decide +kernel
theorem dX5_wrong_42 : decode cX5_wrong 42 = .ok (.goto (-36), 3) := by decide +kernel
theorem dX5_wrong_45 : decode cX5_wrong 45 = .ok (.bipush (-9), 2) := by decide +kernel
theorem dX5_wrong_47 : decode cX5_wrong 47 = .ok (.ireturn, 1) := by decide +kernel
theorem dX5_fits_0 : decode cX5_fits 0 = .ok (.iload_n 1, 1) := by decide +kernel
theorem dX5_fits_1 : decode cX5_fits 1 = .ok (.iconst (-1), 1) := by decide +kernel
theorem dX5_fits_2 : decode cX5_fits 2 = .ok (.if_icmp .ge 10, 3) := by decide +kernel
theorem dX5_fits_5 : decode cX5_fits 5 = .ok (.aload_n 0, 1) := by decide +kernel
theorem dX5_fits_6 : decode cX5_fits 6 = .ok (.bipush (-4), 2) := by decide +kernel
theorem dX5_fits_8 : decode cX5_fits 8 = .ok (.invokevirtual 75, 3) := by decide +kernel
theorem dX5_fits_11 : decode cX5_fits 11 = .ok (.ireturn, 1) := by decide +kernel
theorem dX5_fits_12 : decode cX5_fits 12 = .ok (.iload_n 1, 1) := by decide +kernel
theorem dX5_fits_13 : decode cX5_fits 13 = .ok (.aload_n 0, 1) := by decide +kernel
theorem dX5_fits_14 : decode cX5_fits 14 = .ok (.getfield 79, 3) := by decide +kernel
theorem dX5_fits_17 : decode cX5_fits 17 = .ok (.if_icmp .lt 9, 3) := by decide +kernel
theorem dX5_fits_20 : decode cX5_fits 20 = .ok (.aload_n 0, 1) := by decide +kernel
theorem dX5_fits_21 : decode cX5_fits 21 = .ok (.iconst (-1), 1) := by decide +kernel
theorem dX5_fits_22 : decode cX5_fits 22 = .ok (.invokevirtual 75, 3) := by decide +kernel
theorem dX5_fits_25 : decode cX5_fits 25 = .ok (.ireturn, 1) := by decide +kernel
theorem dX5_fits_26 : decode cX5_fits 26 = .ok (.iconst 0, 1) := by decide +kernel
theorem dX5_fits_27 : decode cX5_fits 27 = .ok (.istore_n 2, 1) := by decide +kernel
theorem dX5_fits_28 : decode cX5_fits 28 = .ok (.bipush (-9), 2) := by decide +kernel
theorem dX5_fits_30 : decode cX5_fits 30 = .ok (.istore_n 3, 1) := by decide +kernel
theorem dX5_fits_31 : decode cX5_fits 31 = .ok (.aload_n 0, 1) := by decide +kernel
theorem dX5_fits_32 : decode cX5_fits 32 = .ok (.invokevirtual 169, 3) := by decide +kernel
theorem dX5_fits_35 : decode cX5_fits 35 = .ok (.iconst 1, 1) := by decide +kernel
theorem dX5_fits_36 : decode cX5_fits 36 = .ok (.istore 4, 2) := by decide +kernel
theorem dX5_fits_38 : decode cX5_fits 38 = .ok (.iload 4, 2) := by decide +kernel
theorem dX5_fits_40 : decode cX5_fits 40 = .ok (.ifCond .eq 40, 3) := by decide +kernel
theorem dX5_fits_43 : decode cX5_fits 43 = .ok (.aload_n 0, 1) := by decide +kernel
theorem dX5_fits_44 : decode cX5_fits 44 = .ok (.invokevirtual 211, 3) := by decide +kernel
theorem dX5_fits_47 : decode cX5_fits 47 = .ok (.bipush (-9), 2) := by decide +kernel
theorem dX5_fits_49 : decode cX5_fits 49 = .ok (.if_icmp .ne 22, 3) := by decide +kernel
theorem dX5_fits_52 : decode cX5_fits 52 = .ok (.iinc 2 1, 3) := by decide +kernel
theorem dX5_fits_55 : decode cX5_fits 55 = .ok (.iload_n 2, 1) := by decide +kernel
theorem dX5_fits_56 : decode cX5_fits 56 = .ok (.iconst 1, 1) := by decide +kernel
theorem dX5_fits_57 : decode cX5_fits 57 = .ok (.if_icmp .ne 14, 3) := by decide +kernel
theorem dX5_fits_60 : decode cX5_fits 60 = .ok (.iload_n 1, 1) := by decide +kernel
theorem dX5_fits_61 : decode cX5_fits 61 = .ok (.ifCond .lt 10, 3) := by decide +kernel
theorem dX5_fits_64 : decode cX5_fits 64 = .ok (.aload_n 0, 1) := by decide +kernel
theorem dX5_fits_65 : decode cX5_fits 65 = .ok (.getfield 22, 3) := by decide +kernel
theorem dX5_fits_68 : decode cX5_fits 68 = .ok (.iload_n 1, 1) := by decide +kernel
theorem dX5_fits_69 : decode cX5_fits 69 = .ok (.iaload, 1) := by decide +kernel
theorem dX5_fits_70 : decode cX5_fits 70 = .ok (.istore_n 3, 1) := by decide +kernel
theorem dX5_fits_71 : decode cX5_fits 71 = .ok (.aload_n 0, 1) := by decide +kernel
theorem dX5_fits_72 : decode cX5_fits 72 = .ok (.invokevirtual 172, 3) := by decide +kernel
theorem dX5_fits_75 : decode cX5_fits 75 = .ok (.istore 4, 2) := by decide +kernel
theorem dX5_fits_77 : decode cX5_fits 77 = .ok (.goto (-39), 3) := by decide +kernel
theorem dX5_fits_80 : decode cX5_fits 80 = .ok (.aload_n 0, 1) := by decide +kernel
theorem dX5_fits_81 : decode cX5_fits 81 = .ok (.invokevirtual 176, 3) := by decide +kernel
theorem dX5_fits_84 : decode cX5_fits 84 = .ok (.iload_n 1, 1) := by decide +kernel
theorem dX5_fits_85 : decode cX5_fits 85 = .ok (.ifCond .ge 7, 3) := by decide +kernel
theorem dX5_fits_88 : decode cX5_fits 88 = .ok (.iload_n 2, 1) := by decide +kernel
theorem dX5_fits_89 : decode cX5_fits 89 = .ok (.goto 4, 3) := by decide +kernel
theorem dX5_fits_92 : decode cX5_fits 92 = .ok (.iload_n 3, 1) := by decide +kernel
theorem dX5_fits_93 : decode cX5_fits 93 = .ok (.ireturn, 1) := by decide +kernel
theorem dX5_judge_0 : decode cX5_judge 0 = .ok (.aload_n 0, 1) := by decide +kernel
theorem dX5_judge_1 : decode cX5_judge 1 = .ok (.invokevirtual 211, 3) := by decide +kernel
theorem dX5_judge_4 : decode cX5_judge 4 = .ok (.istore_n 1, 1) := by decide +kernel
theorem dX5_judge_5 : decode cX5_judge 5 = .ok (.aload_n 0, 1) := by decide +kernel
theorem dX5_judge_6 : decode cX5_judge 6 = .ok (.iconst 0, 1) := by decide +kernel
theorem dX5_judge_7 : decode cX5_judge 7 = .ok (.putfield 208, 3) := by decide +kernel
theorem dX5_judge_10 : decode cX5_judge 10 = .ok (.iload_n 1, 1) := by decide +kernel
theorem dX5_judge_11 : decode cX5_judge 11 = .ok (.ireturn, 1) := by decide +kernel
theorem dX5_lots_0 : decode cX5_lots 0 = .ok (.iload_n 1, 1) := by decide +kernel
theorem dX5_lots_1 : decode cX5_lots 1 = .ok (.iconst 1, 1) := by decide +kernel
theorem dX5_lots_2 : decode cX5_lots 2 = .ok (.if_icmp .ge 10, 3) := by decide +kernel
theorem dX5_lots_5 : decode cX5_lots 5 = .ok (.aload_n 0, 1) := by decide +kernel
theorem dX5_lots_6 : decode cX5_lots 6 = .ok (.bipush (-4), 2) := by decide +kernel
theorem dX5_lots_8 : decode cX5_lots 8 = .ok (.invokevirtual 75, 3) := by decide +kernel
theorem dX5_lots_11 : decode cX5_lots 11 = .ok (.ireturn, 1) := by decide +kernel
theorem dX5_lots_12 : decode cX5_lots 12 = .ok (.iload_n 1, 1) := by decide +kernel
theorem dX5_lots_13 : decode cX5_lots 13 = .ok (.bipush 20, 2) := by decide +kernel
theorem dX5_lots_15 : decode cX5_lots 15 = .ok (.if_icmp .le 10, 3) := by decide +kernel
theorem dX5_lots_18 : decode cX5_lots 18 = .ok (.aload_n 0, 1) := by decide +kernel
theorem dX5_lots_19 : decode cX5_lots 19 = .ok (.bipush (-6), 2) := by decide +kernel
theorem dX5_lots_21 : decode cX5_lots 21 = .ok (.invokevirtual 75, 3) := by decide +kernel
theorem dX5_lots_24 : decode cX5_lots 24 = .ok (.ireturn, 1) := by decide +kernel
theorem dX5_lots_25 : decode cX5_lots 25 = .ok (.aload_n 0, 1) := by decide +kernel
theorem dX5_lots_26 : decode cX5_lots 26 = .ok (.aload_n 0, 1) := by decide +kernel
theorem dX5_lots_27 : decode cX5_lots 27 = .ok (.getfield 64, 3) := by decide +kernel
theorem dX5_lots_30 : decode cX5_lots 30 = .ok (.invokevirtual 122, 3) := by decide +kernel
theorem dX5_lots_33 : decode cX5_lots 33 = .ok (.iload_n 2, 1) := by decide +kernel
theorem dX5_lots_34 : decode cX5_lots 34 = .ok (.istore_n 3, 1) := by decide +kernel
theorem dX5_lots_35 : decode cX5_lots 35 = .ok (.iconst 0, 1) := by decide +kernel
theorem dX5_lots_36 : decode cX5_lots 36 = .ok (.istore 4, 2) := by decide +kernel
theorem dX5_lots_38 : decode cX5_lots 38 = .ok (.iconst 0, 1) := by decide +kernel
theorem dX5_lots_39 : decode cX5_lots 39 = .ok (.istore 5, 2) := by decide +kernel
theorem dX5_lots_41 : decode cX5_lots 41 = .ok (.iload 5, 2) := by decide +kernel
theorem dX5_lots_43 : decode cX5_lots 43 = .ok (.iload_n 1, 1) := by decide +kernel
theorem dX5_lots_44 : decode cX5_lots 44 = .ok (.if_icmp .ge 71, 3) := by decide +kernel
theorem dX5_lots_47 : decode cX5_lots 47 = .ok (.iconst 0, 1) := by decide +kernel
theorem dX5_lots_48 : decode cX5_lots 48 = .ok (.istore 6, 2) := by decide +kernel
theorem dX5_lots_50 : decode cX5_lots 50 = .ok (.iload 6, 2) := by decide +kernel
theorem dX5_lots_52 : decode cX5_lots 52 = .ok (.aload_n 0, 1) := by decide +kernel
theorem dX5_lots_53 : decode cX5_lots 53 = .ok (.getfield 79, 3) := by decide +kernel
theorem dX5_lots_56 : decode cX5_lots 56 = .ok (.if_icmp .ge 37, 3) := by decide +kernel
theorem dX5_lots_59 : decode cX5_lots 59 = .ok (.iload_n 3, 1) := by decide +kernel
theorem dX5_lots_60 : decode cX5_lots 60 = .ok (.ldc 214, 2) := by decide +kernel
theorem dX5_lots_62 : decode cX5_lots 62 = .ok (.imul, 1) := by decide +kernel
theorem dX5_lots_63 : decode cX5_lots 63 = .ok (.ldc 215, 2) := by decide +kernel
theorem dX5_lots_65 : decode cX5_lots 65 = .ok (.iadd, 1) := by decide +kernel
theorem dX5_lots_66 : decode cX5_lots 66 = .ok (.istore_n 3, 1) := by decide +kernel
theorem dX5_lots_67 : decode cX5_lots 67 = .ok (.aload_n 0, 1) := by decide +kernel
theorem dX5_lots_68 : decode cX5_lots 68 = .ok (.getfield 16, 3) := by decide +kernel
theorem dX5_lots_71 : decode cX5_lots 71 = .ok (.iload 6, 2) := by decide +kernel
theorem dX5_lots_73 : decode cX5_lots 73 = .ok (.iload_n 3, 1) := by decide +kernel
theorem dX5_lots_74 : decode cX5_lots 74 = .ok (.ldc 216, 2) := by decide +kernel
theorem dX5_lots_76 : decode cX5_lots 76 = .ok (.iand, 1) := by decide +kernel
theorem dX5_lots_77 : decode cX5_lots 77 = .ok (.sipush 256, 3) := by decide +kernel
theorem dX5_lots_80 : decode cX5_lots 80 = .ok (.idiv, 1) := by decide +kernel
theorem dX5_lots_81 : decode cX5_lots 81 = .ok (.bipush 20, 2) := by decide +kernel
theorem dX5_lots_83 : decode cX5_lots 83 = .ok (.irem, 1) := by decide +kernel
theorem dX5_lots_84 : decode cX5_lots 84 = .ok (.iconst 1, 1) := by decide +kernel
theorem dX5_lots_85 : decode cX5_lots 85 = .ok (.iadd, 1) := by decide +kernel
theorem dX5_lots_86 : decode cX5_lots 86 = .ok (.iastore, 1) := by decide +kernel
theorem dX5_lots_87 : decode cX5_lots 87 = .ok (.iinc 6 1, 3) := by decide +kernel
theorem dX5_lots_90 : decode cX5_lots 90 = .ok (.goto (-40), 3) := by decide +kernel
theorem dX5_lots_93 : decode cX5_lots 93 = .ok (.aload_n 0, 1) := by decide +kernel
theorem dX5_lots_94 : decode cX5_lots 94 = .ok (.invokevirtual 166, 3) := by decide +kernel
theorem dX5_lots_97 : decode cX5_lots 97 = .ok (.iload 4, 2) := by decide +kernel
theorem dX5_lots_99 : decode cX5_lots 99 = .ok (.aload_n 0, 1) := by decide +kernel
theorem dX5_lots_100 : decode cX5_lots 100 = .ok (.getfield 31, 3) := by decide +kernel
theorem dX5_lots_103 : decode cX5_lots 103 = .ok (.bipush 7, 2) := by decide +kernel
theorem dX5_lots_105 : decode cX5_lots 105 = .ok (.iaload, 1) := by decide +kernel
theorem dX5_lots_106 : decode cX5_lots 106 = .ok (.iadd, 1) := by decide +kernel
theorem dX5_lots_107 : decode cX5_lots 107 = .ok (.istore 4, 2) := by decide +kernel
theorem dX5_lots_109 : decode cX5_lots 109 = .ok (.iinc 5 1, 3) := by decide +kernel
theorem dX5_lots_112 : decode cX5_lots 112 = .ok (.goto (-71), 3) := by decide +kernel
theorem dX5_lots_115 : decode cX5_lots 115 = .ok (.aload_n 0, 1) := by decide +kernel
theorem dX5_lots_116 : decode cX5_lots 116 = .ok (.aload_n 0, 1) := by decide +kernel
theorem dX5_lots_117 : decode cX5_lots 117 = .ok (.getfield 64, 3) := by decide +kernel
theorem dX5_lots_120 : decode cX5_lots 120 = .ok (.invokevirtual 126, 3) := by decide +kernel
theorem dX5_lots_123 : decode cX5_lots 123 = .ok (.iload 4, 2) := by decide +kernel
theorem dX5_lots_125 : decode cX5_lots 125 = .ok (.ireturn, 1) := by decide +kernel
theorem dX5_keep__0 : decode cX5_keep_ 0 = .ok (.iconst 0, 1) := by decide +kernel
theorem dX5_keep__1 : decode cX5_keep_ 1 = .ok (.istore_n 2, 1) := by decide +kernel
theorem dX5_keep__2 : decode cX5_keep_ 2 = .ok (.iload_n 2, 1) := by decide +kernel
theorem dX5_keep__3 : decode cX5_keep_ 3 = .ok (.bipush 6, 2) := by decide +kernel
theorem dX5_keep__5 : decode cX5_keep_ 5 = .ok (.if_icmp .ge 66, 3) := by decide +kernel
theorem dX5_keep__8 : decode cX5_keep_ 8 = .ok (.aload_n 1, 1) := by decide +kernel
theorem dX5_keep__9 : decode cX5_keep_ 9 = .ok (.iload_n 2, 1) := by decide +kernel
theorem dX5_keep__10 : decode cX5_keep_ 10 = .ok (.aload_n 0, 1) := by decide +kernel
theorem dX5_keep__11 : decode cX5_keep_ 11 = .ok (.getfield 7, 3) := by decide +kernel
theorem dX5_keep__14 : decode cX5_keep_ 14 = .ok (.iload_n 2, 1) := by decide +kernel
theorem dX5_keep__15 : decode cX5_keep_ 15 = .ok (.iaload, 1) := by decide +kernel
theorem dX5_keep__16 : decode cX5_keep_ 16 = .ok (.iastore, 1) := by decide +kernel
theorem dX5_keep__17 : decode cX5_keep_ 17 = .ok (.aload_n 1, 1) := by decide +kernel
theorem dX5_keep__18 : decode cX5_keep_ 18 = .ok (.bipush 6, 2) := by decide +kernel
theorem dX5_keep__20 : decode cX5_keep_ 20 = .ok (.iload_n 2, 1) := by decide +kernel
theorem dX5_keep__21 : decode cX5_keep_ 21 = .ok (.iadd, 1) := by decide +kernel
theorem dX5_keep__22 : decode cX5_keep_ 22 = .ok (.aload_n 0, 1) := by decide +kernel
theorem dX5_keep__23 : decode cX5_keep_ 23 = .ok (.getfield 13, 3) := by decide +kernel
theorem dX5_keep__26 : decode cX5_keep_ 26 = .ok (.iload_n 2, 1) := by decide +kernel
theorem dX5_keep__27 : decode cX5_keep_ 27 = .ok (.iaload, 1) := by decide +kernel
theorem dX5_keep__28 : decode cX5_keep_ 28 = .ok (.iastore, 1) := by decide +kernel
theorem dX5_keep__29 : decode cX5_keep_ 29 = .ok (.aload_n 1, 1) := by decide +kernel
theorem dX5_keep__30 : decode cX5_keep_ 30 = .ok (.bipush 12, 2) := by decide +kernel
theorem dX5_keep__32 : decode cX5_keep_ 32 = .ok (.iload_n 2, 1) := by decide +kernel
theorem dX5_keep__33 : decode cX5_keep_ 33 = .ok (.iadd, 1) := by decide +kernel
theorem dX5_keep__34 : decode cX5_keep_ 34 = .ok (.aload_n 0, 1) := by decide +kernel
theorem dX5_keep__35 : decode cX5_keep_ 35 = .ok (.getfield 16, 3) := by decide +kernel
theorem dX5_keep__38 : decode cX5_keep_ 38 = .ok (.iload_n 2, 1) := by decide +kernel
theorem dX5_keep__39 : decode cX5_keep_ 39 = .ok (.iaload, 1) := by decide +kernel
theorem dX5_keep__40 : decode cX5_keep_ 40 = .ok (.iastore, 1) := by decide +kernel
theorem dX5_keep__41 : decode cX5_keep_ 41 = .ok (.aload_n 1, 1) := by decide +kernel
theorem dX5_keep__42 : decode cX5_keep_ 42 = .ok (.bipush 18, 2) := by decide +kernel
theorem dX5_keep__44 : decode cX5_keep_ 44 = .ok (.iload_n 2, 1) := by decide +kernel
theorem dX5_keep__45 : decode cX5_keep_ 45 = .ok (.iadd, 1) := by decide +kernel
theorem dX5_keep__46 : decode cX5_keep_ 46 = .ok (.aload_n 0, 1) := by decide +kernel
theorem dX5_keep__47 : decode cX5_keep_ 47 = .ok (.getfield 19, 3) := by decide +kernel
theorem dX5_keep__50 : decode cX5_keep_ 50 = .ok (.iload_n 2, 1) := by decide +kernel
theorem dX5_keep__51 : decode cX5_keep_ 51 = .ok (.iaload, 1) := by decide +kernel
theorem dX5_keep__52 : decode cX5_keep_ 52 = .ok (.iastore, 1) := by decide +kernel
theorem dX5_keep__53 : decode cX5_keep_ 53 = .ok (.aload_n 1, 1) := by decide +kernel
theorem dX5_keep__54 : decode cX5_keep_ 54 = .ok (.bipush 24, 2) := by decide +kernel
theorem dX5_keep__56 : decode cX5_keep_ 56 = .ok (.iload_n 2, 1) := by decide +kernel
theorem dX5_keep__57 : decode cX5_keep_ 57 = .ok (.iadd, 1) := by decide +kernel
theorem dX5_keep__58 : decode cX5_keep_ 58 = .ok (.aload_n 0, 1) := by decide +kernel
theorem dX5_keep__59 : decode cX5_keep_ 59 = .ok (.getfield 22, 3) := by decide +kernel
theorem dX5_keep__62 : decode cX5_keep_ 62 = .ok (.iload_n 2, 1) := by decide +kernel
theorem dX5_keep__63 : decode cX5_keep_ 63 = .ok (.iaload, 1) := by decide +kernel
theorem dX5_keep__64 : decode cX5_keep_ 64 = .ok (.iastore, 1) := by decide +kernel
theorem dX5_keep__65 : decode cX5_keep_ 65 = .ok (.iinc 2 1, 3) := by decide +kernel
theorem dX5_keep__68 : decode cX5_keep_ 68 = .ok (.goto (-66), 3) := by decide +kernel
theorem dX5_keep__71 : decode cX5_keep_ 71 = .ok (.iconst 0, 1) := by decide +kernel
theorem dX5_keep__72 : decode cX5_keep_ 72 = .ok (.istore_n 2, 1) := by decide +kernel
theorem dX5_keep__73 : decode cX5_keep_ 73 = .ok (.iload_n 2, 1) := by decide +kernel
theorem dX5_keep__74 : decode cX5_keep_ 74 = .ok (.bipush 10, 2) := by decide +kernel
theorem dX5_keep__76 : decode cX5_keep_ 76 = .ok (.if_icmp .ge 21, 3) := by decide +kernel
theorem dX5_keep__79 : decode cX5_keep_ 79 = .ok (.aload_n 1, 1) := by decide +kernel
theorem dX5_keep__80 : decode cX5_keep_ 80 = .ok (.bipush 30, 2) := by decide +kernel
theorem dX5_keep__82 : decode cX5_keep_ 82 = .ok (.iload_n 2, 1) := by decide +kernel
theorem dX5_keep__83 : decode cX5_keep_ 83 = .ok (.iadd, 1) := by decide +kernel
theorem dX5_keep__84 : decode cX5_keep_ 84 = .ok (.aload_n 0, 1) := by decide +kernel
theorem dX5_keep__85 : decode cX5_keep_ 85 = .ok (.getfield 25, 3) := by decide +kernel
theorem dX5_keep__88 : decode cX5_keep_ 88 = .ok (.iload_n 2, 1) := by decide +kernel
theorem dX5_keep__89 : decode cX5_keep_ 89 = .ok (.iaload, 1) := by decide +kernel
theorem dX5_keep__90 : decode cX5_keep_ 90 = .ok (.iastore, 1) := by decide +kernel
theorem dX5_keep__91 : decode cX5_keep_ 91 = .ok (.iinc 2 1, 3) := by decide +kernel
theorem dX5_keep__94 : decode cX5_keep_ 94 = .ok (.goto (-21), 3) := by decide +kernel
theorem dX5_keep__97 : decode cX5_keep_ 97 = .ok (.aload_n 1, 1) := by decide +kernel
theorem dX5_keep__98 : decode cX5_keep_ 98 = .ok (.bipush 40, 2) := by decide +kernel
theorem dX5_keep__100 : decode cX5_keep_ 100 = .ok (.aload_n 0, 1) := by decide +kernel
theorem dX5_keep__101 : decode cX5_keep_ 101 = .ok (.getfield 79, 3) := by decide +kernel
theorem dX5_keep__104 : decode cX5_keep_ 104 = .ok (.iastore, 1) := by decide +kernel
theorem dX5_keep__105 : decode cX5_keep_ 105 = .ok (.return_, 1) := by decide +kernel
theorem dX5_again_0 : decode cX5_again 0 = .ok (.iconst 0, 1) := by decide +kernel
theorem dX5_again_1 : decode cX5_again 1 = .ok (.istore_n 2, 1) := by decide +kernel
theorem dX5_again_2 : decode cX5_again 2 = .ok (.iload_n 2, 1) := by decide +kernel
theorem dX5_again_3 : decode cX5_again 3 = .ok (.bipush 6, 2) := by decide +kernel
theorem dX5_again_5 : decode cX5_again 5 = .ok (.if_icmp .ge 66, 3) := by decide +kernel
theorem dX5_again_8 : decode cX5_again 8 = .ok (.aload_n 0, 1) := by decide +kernel
theorem dX5_again_9 : decode cX5_again 9 = .ok (.getfield 7, 3) := by decide +kernel
theorem dX5_again_12 : decode cX5_again 12 = .ok (.iload_n 2, 1) := by decide +kernel
theorem dX5_again_13 : decode cX5_again 13 = .ok (.aload_n 1, 1) := by decide +kernel
theorem dX5_again_14 : decode cX5_again 14 = .ok (.iload_n 2, 1) := by decide +kernel
theorem dX5_again_15 : decode cX5_again 15 = .ok (.iaload, 1) := by decide +kernel
theorem dX5_again_16 : decode cX5_again 16 = .ok (.iastore, 1) := by decide +kernel
theorem dX5_again_17 : decode cX5_again 17 = .ok (.aload_n 0, 1) := by decide +kernel
theorem dX5_again_18 : decode cX5_again 18 = .ok (.getfield 13, 3) := by decide +kernel
theorem dX5_again_21 : decode cX5_again 21 = .ok (.iload_n 2, 1) := by decide +kernel
theorem dX5_again_22 : decode cX5_again 22 = .ok (.aload_n 1, 1) := by decide +kernel
theorem dX5_again_23 : decode cX5_again 23 = .ok (.bipush 6, 2) := by decide +kernel
theorem dX5_again_25 : decode cX5_again 25 = .ok (.iload_n 2, 1) := by decide +kernel
theorem dX5_again_26 : decode cX5_again 26 = .ok (.iadd, 1) := by decide +kernel
theorem dX5_again_27 : decode cX5_again 27 = .ok (.iaload, 1) := by decide +kernel
theorem dX5_again_28 : decode cX5_again 28 = .ok (.iastore, 1) := by decide +kernel
theorem dX5_again_29 : decode cX5_again 29 = .ok (.aload_n 0, 1) := by decide +kernel
theorem dX5_again_30 : decode cX5_again 30 = .ok (.getfield 16, 3) := by decide +kernel
theorem dX5_again_33 : decode cX5_again 33 = .ok (.iload_n 2, 1) := by decide +kernel
theorem dX5_again_34 : decode cX5_again 34 = .ok (.aload_n 1, 1) := by decide +kernel
theorem dX5_again_35 : decode cX5_again 35 = .ok (.bipush 12, 2) := by decide +kernel
theorem dX5_again_37 : decode cX5_again 37 = .ok (.iload_n 2, 1) := by decide +kernel
theorem dX5_again_38 : decode cX5_again 38 = .ok (.iadd, 1) := by decide +kernel
theorem dX5_again_39 : decode cX5_again 39 = .ok (.iaload, 1) := by decide +kernel
theorem dX5_again_40 : decode cX5_again 40 = .ok (.iastore, 1) := by decide +kernel
theorem dX5_again_41 : decode cX5_again 41 = .ok (.aload_n 0, 1) := by decide +kernel
theorem dX5_again_42 : decode cX5_again 42 = .ok (.getfield 19, 3) := by decide +kernel
theorem dX5_again_45 : decode cX5_again 45 = .ok (.iload_n 2, 1) := by decide +kernel
theorem dX5_again_46 : decode cX5_again 46 = .ok (.aload_n 1, 1) := by decide +kernel
theorem dX5_again_47 : decode cX5_again 47 = .ok (.bipush 18, 2) := by decide +kernel
theorem dX5_again_49 : decode cX5_again 49 = .ok (.iload_n 2, 1) := by decide +kernel
theorem dX5_again_50 : decode cX5_again 50 = .ok (.iadd, 1) := by decide +kernel
theorem dX5_again_51 : decode cX5_again 51 = .ok (.iaload, 1) := by decide +kernel
theorem dX5_again_52 : decode cX5_again 52 = .ok (.iastore, 1) := by decide +kernel
theorem dX5_again_53 : decode cX5_again 53 = .ok (.aload_n 0, 1) := by decide +kernel
theorem dX5_again_54 : decode cX5_again 54 = .ok (.getfield 22, 3) := by decide +kernel
theorem dX5_again_57 : decode cX5_again 57 = .ok (.iload_n 2, 1) := by decide +kernel
theorem dX5_again_58 : decode cX5_again 58 = .ok (.aload_n 1, 1) := by decide +kernel
theorem dX5_again_59 : decode cX5_again 59 = .ok (.bipush 24, 2) := by decide +kernel
theorem dX5_again_61 : decode cX5_again 61 = .ok (.iload_n 2, 1) := by decide +kernel
theorem dX5_again_62 : decode cX5_again 62 = .ok (.iadd, 1) := by decide +kernel
theorem dX5_again_63 : decode cX5_again 63 = .ok (.iaload, 1) := by decide +kernel
theorem dX5_again_64 : decode cX5_again 64 = .ok (.iastore, 1) := by decide +kernel
theorem dX5_again_65 : decode cX5_again 65 = .ok (.iinc 2 1, 3) := by decide +kernel
theorem dX5_again_68 : decode cX5_again 68 = .ok (.goto (-66), 3) := by decide +kernel
theorem dX5_again_71 : decode cX5_again 71 = .ok (.iconst 0, 1) := by decide +kernel
theorem dX5_again_72 : decode cX5_again 72 = .ok (.istore_n 2, 1) := by decide +kernel
theorem dX5_again_73 : decode cX5_again 73 = .ok (.iload_n 2, 1) := by decide +kernel
theorem dX5_again_74 : decode cX5_again 74 = .ok (.bipush 10, 2) := by decide +kernel
theorem dX5_again_76 : decode cX5_again 76 = .ok (.if_icmp .ge 21, 3) := by decide +kernel
theorem dX5_again_79 : decode cX5_again 79 = .ok (.aload_n 0, 1) := by decide +kernel
theorem dX5_again_80 : decode cX5_again 80 = .ok (.getfield 25, 3) := by decide +kernel
theorem dX5_again_83 : decode cX5_again 83 = .ok (.iload_n 2, 1) := by decide +kernel
theorem dX5_again_84 : decode cX5_again 84 = .ok (.aload_n 1, 1) := by decide +kernel
theorem dX5_again_85 : decode cX5_again 85 = .ok (.bipush 30, 2) := by decide +kernel
theorem dX5_again_87 : decode cX5_again 87 = .ok (.iload_n 2, 1) := by decide +kernel
theorem dX5_again_88 : decode cX5_again 88 = .ok (.iadd, 1) := by decide +kernel
theorem dX5_again_89 : decode cX5_again 89 = .ok (.iaload, 1) := by decide +kernel
theorem dX5_again_90 : decode cX5_again 90 = .ok (.iastore, 1) := by decide +kernel
theorem dX5_again_91 : decode cX5_again 91 = .ok (.iinc 2 1, 3) := by decide +kernel
theorem dX5_again_94 : decode cX5_again 94 = .ok (.goto (-21), 3) := by decide +kernel
theorem dX5_again_97 : decode cX5_again 97 = .ok (.aload_n 0, 1) := by decide +kernel
theorem dX5_again_98 : decode cX5_again 98 = .ok (.aload_n 1, 1) := by decide +kernel
theorem dX5_again_99 : decode cX5_again 99 = .ok (.bipush 40, 2) := by decide +kernel
theorem dX5_again_101 : decode cX5_again 101 = .ok (.iaload, 1) := by decide +kernel
theorem dX5_again_102 : decode cX5_again 102 = .ok (.putfield 79, 3) := by decide +kernel
theorem dX5_again_105 : decode cX5_again 105 = .ok (.return_, 1) := by decide +kernel
theorem dX5_image_0 : decode cX5_image 0 = .ok (.aload_n 0, 1) := by decide +kernel
theorem dX5_image_1 : decode cX5_image 1 = .ok (.iconst 1, 1) := by decide +kernel
theorem dX5_image_2 : decode cX5_image 2 = .ok (.putfield 217, 3) := by decide +kernel
theorem dX5_image_5 : decode cX5_image 5 = .ok (.aload_n 0, 1) := by decide +kernel
theorem dX5_image_6 : decode cX5_image 6 = .ok (.aload_n 0, 1) := by decide +kernel
theorem dX5_image_7 : decode cX5_image 7 = .ok (.getfield 61, 3) := by decide +kernel
theorem dX5_image_10 : decode cX5_image 10 = .ok (.invokevirtual 122, 3) := by decide +kernel
theorem dX5_image_13 : decode cX5_image 13 = .ok (.aload_n 0, 1) := by decide +kernel
theorem dX5_image_14 : decode cX5_image 14 = .ok (.getfield 79, 3) := by decide +kernel
theorem dX5_image_17 : decode cX5_image 17 = .ok (.ireturn, 1) := by decide +kernel
theorem dX5_on_0 : decode cX5_on 0 = .ok (.aload_n 0, 1) := by decide +kernel
theorem dX5_on_1 : decode cX5_on 1 = .ok (.getfield 217, 3) := by decide +kernel
theorem dX5_on_4 : decode cX5_on 4 = .ok (.ifCond .ne 10, 3) := by decide +kernel
theorem dX5_on_7 : decode cX5_on 7 = .ok (.aload_n 0, 1) := by decide +kernel
theorem dX5_on_8 : decode cX5_on 8 = .ok (.bipush (-3), 2) := by decide +kernel
theorem dX5_on_10 : decode cX5_on 10 = .ok (.invokevirtual 75, 3) := by decide +kernel
theorem dX5_on_13 : decode cX5_on 13 = .ok (.ireturn, 1) := by decide +kernel
theorem dX5_on_14 : decode cX5_on 14 = .ok (.aload_n 0, 1) := by decide +kernel
theorem dX5_on_15 : decode cX5_on 15 = .ok (.aload_n 0, 1) := by decide +kernel
theorem dX5_on_16 : decode cX5_on 16 = .ok (.getfield 61, 3) := by decide +kernel
theorem dX5_on_19 : decode cX5_on 19 = .ok (.invokevirtual 126, 3) := by decide +kernel
theorem dX5_on_22 : decode cX5_on 22 = .ok (.aload_n 0, 1) := by decide +kernel
theorem dX5_on_23 : decode cX5_on 23 = .ok (.getfield 79, 3) := by decide +kernel
theorem dX5_on_26 : decode cX5_on 26 = .ok (.ireturn, 1) := by decide +kernel
theorem dX5_count_0 : decode cX5_count 0 = .ok (.iconst 0, 1) := by decide +kernel
theorem dX5_count_1 : decode cX5_count 1 = .ok (.istore_n 2, 1) := by decide +kernel
theorem dX5_count_2 : decode cX5_count 2 = .ok (.iload_n 1, 1) := by decide +kernel
theorem dX5_count_3 : decode cX5_count 3 = .ok (.tableswitch 153 0 9 #[53, 58, 85, 106, 113, 120, 127, 135, 143, 148], 53) := by decide +kernel
theorem dX5_count_56 : decode cX5_count 56 = .ok (.aload_n 0, 1) := by decide +kernel
theorem dX5_count_57 : decode cX5_count 57 = .ok (.getfield 79, 3) := by decide +kernel
theorem dX5_count_60 : decode cX5_count 60 = .ok (.ireturn, 1) := by decide +kernel
theorem dX5_count_61 : decode cX5_count 61 = .ok (.iconst 0, 1) := by decide +kernel
theorem dX5_count_62 : decode cX5_count 62 = .ok (.istore_n 3, 1) := by decide +kernel
theorem dX5_count_63 : decode cX5_count 63 = .ok (.iload_n 3, 1) := by decide +kernel
theorem dX5_count_64 : decode cX5_count 64 = .ok (.aload_n 0, 1) := by decide +kernel
theorem dX5_count_65 : decode cX5_count 65 = .ok (.getfield 79, 3) := by decide +kernel
theorem dX5_count_68 : decode cX5_count 68 = .ok (.if_icmp .ge 18, 3) := by decide +kernel
theorem dX5_count_71 : decode cX5_count 71 = .ok (.iload_n 2, 1) := by decide +kernel
theorem dX5_count_72 : decode cX5_count 72 = .ok (.aload_n 0, 1) := by decide +kernel
theorem dX5_count_73 : decode cX5_count 73 = .ok (.getfield 16, 3) := by decide +kernel
theorem dX5_count_76 : decode cX5_count 76 = .ok (.iload_n 3, 1) := by decide +kernel
theorem dX5_count_77 : decode cX5_count 77 = .ok (.iaload, 1) := by decide +kernel
theorem dX5_count_78 : decode cX5_count 78 = .ok (.iadd, 1) := by decide +kernel
theorem dX5_count_79 : decode cX5_count 79 = .ok (.istore_n 2, 1) := by decide +kernel
theorem dX5_count_80 : decode cX5_count 80 = .ok (.iinc 3 1, 3) := by decide +kernel
theorem dX5_count_83 : decode cX5_count 83 = .ok (.goto (-20), 3) := by decide +kernel
theorem dX5_count_86 : decode cX5_count 86 = .ok (.iload_n 2, 1) := by decide +kernel
theorem dX5_count_87 : decode cX5_count 87 = .ok (.ireturn, 1) := by decide +kernel
theorem dX5_count_88 : decode cX5_count 88 = .ok (.aload_n 0, 1) := by decide +kernel
theorem dX5_count_89 : decode cX5_count 89 = .ok (.getfield 25, 3) := by decide +kernel
theorem dX5_count_92 : decode cX5_count 92 = .ok (.iconst 2, 1) := by decide +kernel
theorem dX5_count_93 : decode cX5_count 93 = .ok (.iaload, 1) := by decide +kernel
theorem dX5_count_94 : decode cX5_count 94 = .ok (.aload_n 0, 1) := by decide +kernel
theorem dX5_count_95 : decode cX5_count 95 = .ok (.getfield 25, 3) := by decide +kernel
theorem dX5_count_98 : decode cX5_count 98 = .ok (.iconst 3, 1) := by decide +kernel
theorem dX5_count_99 : decode cX5_count 99 = .ok (.iaload, 1) := by decide +kernel
theorem dX5_count_100 : decode cX5_count 100 = .ok (.iadd, 1) := by decide +kernel
theorem dX5_count_101 : decode cX5_count 101 = .ok (.aload_n 0, 1) := by decide +kernel
theorem dX5_count_102 : decode cX5_count 102 = .ok (.getfield 25, 3) := by decide +kernel
theorem dX5_count_105 : decode cX5_count 105 = .ok (.iconst 4, 1) := by decide +kernel
theorem dX5_count_106 : decode cX5_count 106 = .ok (.iaload, 1) := by decide +kernel
theorem dX5_count_107 : decode cX5_count 107 = .ok (.iadd, 1) := by decide +kernel
theorem dX5_count_108 : decode cX5_count 108 = .ok (.ireturn, 1) := by decide +kernel
theorem dX5_count_109 : decode cX5_count 109 = .ok (.aload_n 0, 1) := by decide +kernel
theorem dX5_count_110 : decode cX5_count 110 = .ok (.getfield 25, 3) := by decide +kernel
theorem dX5_count_113 : decode cX5_count 113 = .ok (.iconst 0, 1) := by decide +kernel
theorem dX5_count_114 : decode cX5_count 114 = .ok (.iaload, 1) := by decide +kernel
theorem dX5_count_115 : decode cX5_count 115 = .ok (.ireturn, 1) := by decide +kernel
theorem dX5_count_116 : decode cX5_count 116 = .ok (.aload_n 0, 1) := by decide +kernel
theorem dX5_count_117 : decode cX5_count 117 = .ok (.getfield 25, 3) := by decide +kernel
theorem dX5_count_120 : decode cX5_count 120 = .ok (.iconst 1, 1) := by decide +kernel
theorem dX5_count_121 : decode cX5_count 121 = .ok (.iaload, 1) := by decide +kernel
theorem dX5_count_122 : decode cX5_count 122 = .ok (.ireturn, 1) := by decide +kernel
theorem dX5_count_123 : decode cX5_count 123 = .ok (.aload_n 0, 1) := by decide +kernel
theorem dX5_count_124 : decode cX5_count 124 = .ok (.getfield 25, 3) := by decide +kernel
theorem dX5_count_127 : decode cX5_count 127 = .ok (.iconst 5, 1) := by decide +kernel
theorem dX5_count_128 : decode cX5_count 128 = .ok (.iaload, 1) := by decide +kernel
theorem dX5_count_129 : decode cX5_count 129 = .ok (.ireturn, 1) := by decide +kernel
theorem dX5_count_130 : decode cX5_count 130 = .ok (.aload_n 0, 1) := by decide +kernel
theorem dX5_count_131 : decode cX5_count 131 = .ok (.getfield 25, 3) := by decide +kernel
theorem dX5_count_134 : decode cX5_count 134 = .ok (.bipush 6, 2) := by decide +kernel
theorem dX5_count_136 : decode cX5_count 136 = .ok (.iaload, 1) := by decide +kernel
theorem dX5_count_137 : decode cX5_count 137 = .ok (.ireturn, 1) := by decide +kernel
theorem dX5_count_138 : decode cX5_count 138 = .ok (.aload_n 0, 1) := by decide +kernel
theorem dX5_count_139 : decode cX5_count 139 = .ok (.getfield 25, 3) := by decide +kernel
theorem dX5_count_142 : decode cX5_count 142 = .ok (.bipush 8, 2) := by decide +kernel
theorem dX5_count_144 : decode cX5_count 144 = .ok (.iaload, 1) := by decide +kernel
theorem dX5_count_145 : decode cX5_count 145 = .ok (.ireturn, 1) := by decide +kernel
theorem dX5_count_146 : decode cX5_count 146 = .ok (.aload_n 0, 1) := by decide +kernel
theorem dX5_count_147 : decode cX5_count 147 = .ok (.getfield 208, 3) := by decide +kernel
theorem dX5_count_150 : decode cX5_count 150 = .ok (.ireturn, 1) := by decide +kernel
theorem dX5_count_151 : decode cX5_count 151 = .ok (.aload_n 0, 1) := by decide +kernel
theorem dX5_count_152 : decode cX5_count 152 = .ok (.getfield 87, 3) := by decide +kernel
theorem dX5_count_155 : decode cX5_count 155 = .ok (.ireturn, 1) := by decide +kernel
theorem dX5_count_156 : decode cX5_count 156 = .ok (.iload_n 1, 1) := by decide +kernel
theorem dX5_count_157 : decode cX5_count 157 = .ok (.bipush 11, 2) := by decide +kernel
theorem dX5_count_159 : decode cX5_count 159 = .ok (.bipush 16, 2) := by decide +kernel
theorem dX5_count_161 : decode cX5_count 161 = .ok (.invokestatic 83, 3) := by decide +kernel
theorem dX5_count_164 : decode cX5_count 164 = .ok (.ifCond .eq 15, 3) := by decide +kernel
theorem dX5_count_167 : decode cX5_count 167 = .ok (.aload_n 0, 1) := by decide +kernel
theorem dX5_count_168 : decode cX5_count 168 = .ok (.getfield 58, 3) := by decide +kernel
theorem dX5_count_171 : decode cX5_count 171 = .ok (.iload_n 1, 1) := by decide +kernel
theorem dX5_count_172 : decode cX5_count 172 = .ok (.bipush 10, 2) := by decide +kernel
theorem dX5_count_174 : decode cX5_count 174 = .ok (.isub, 1) := by decide +kernel
theorem dX5_count_175 : decode cX5_count 175 = .ok (.iaload, 1) := by decide +kernel
theorem dX5_count_176 : decode cX5_count 176 = .ok (.goto 5, 3) := by decide +kernel
theorem dX5_count_179 : decode cX5_count 179 = .ok (.bipush (-9), 2) := by decide +kernel
theorem dX5_count_181 : decode cX5_count 181 = .ok (.ireturn, 1) := by decide +kernel
