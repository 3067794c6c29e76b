theorem dX4_init_0 : decode cX4_init 0 = .ok (.aload_n 0, 1) := by decide +kernel
theorem dX4_init_1 : decode cX4_init 1 = .ok (.invokespecial 1, 3) := by decide +kernel
theorem dX4_init_4 : decode cX4_init 4 = .ok (.aload_n 0, 1) := by decide +kernel
theorem dX4_init_5 : decode cX4_init 5 = .ok (.iconst 4, 1) := by decide +kernel
theorem dX4_init_6 : decode cX4_init 6 = .ok (.newarray .int, 2) := by decide +kernel
theorem dX4_init_8 : decode cX4_init 8 = .ok (.putfield 7, 3) := by decide +kernel
theorem dX4_init_11 : decode cX4_init 11 = .ok (.aload_n 0, 1) := by decide +kernel
theorem dX4_init_12 : decode cX4_init 12 = .ok (.bipush 8, 2) := by decide +kernel
theorem dX4_init_14 : decode cX4_init 14 = .ok (.newarray .int, 2) := by decide +kernel
theorem dX4_init_16 : decode cX4_init 16 = .ok (.putfield 13, 3) := by decide +kernel
theorem dX4_init_19 : decode cX4_init 19 = .ok (.aload_n 0, 1) := by decide +kernel
theorem dX4_init_20 : decode cX4_init 20 = .ok (.iconst 3, 1) := by decide +kernel
theorem dX4_init_21 : decode cX4_init 21 = .ok (.newarray .int, 2) := by decide +kernel
theorem dX4_init_23 : decode cX4_init 23 = .ok (.putfield 16, 3) := by decide +kernel
theorem dX4_init_26 : decode cX4_init 26 = .ok (.aload_n 0, 1) := by decide +kernel
theorem dX4_init_27 : decode cX4_init 27 = .ok (.bipush 8, 2) := by decide +kernel
theorem dX4_init_29 : decode cX4_init 29 = .ok (.newarray .int, 2) := by decide +kernel
theorem dX4_init_31 : decode cX4_init 31 = .ok (.putfield 19, 3) := by decide +kernel
theorem dX4_init_34 : decode cX4_init 34 = .ok (.aload_n 0, 1) := by decide +kernel
theorem dX4_init_35 : decode cX4_init 35 = .ok (.bipush 8, 2) := by decide +kernel
theorem dX4_init_37 : decode cX4_init 37 = .ok (.newarray .int, 2) := by decide +kernel
theorem dX4_init_39 : decode cX4_init 39 = .ok (.putfield 22, 3) := by decide +kernel
theorem dX4_init_42 : decode cX4_init 42 = .ok (.aload_n 0, 1) := by decide +kernel
theorem dX4_init_43 : decode cX4_init 43 = .ok (.bipush 8, 2) := by decide +kernel
theorem dX4_init_45 : decode cX4_init 45 = .ok (.newarray .int, 2) := by decide +kernel
theorem dX4_init_47 : decode cX4_init 47 = .ok (.putfield 25, 3) := by decide +kernel
theorem dX4_init_50 : decode cX4_init 50 = .ok (.aload_n 0, 1) := by decide +kernel
theorem dX4_init_51 : decode cX4_init 51 = .ok (.bipush 8, 2) := by decide +kernel
theorem dX4_init_53 : decode cX4_init 53 = .ok (.newarray .int, 2) := by decide +kernel
theorem dX4_init_55 : decode cX4_init 55 = .ok (.putfield 28, 3) := by decide +kernel
theorem dX4_init_58 : decode cX4_init 58 = .ok (.aload_n 0, 1) := by decide +kernel
theorem dX4_init_59 : decode cX4_init 59 = .ok (.bipush 8, 2) := by decide +kernel
theorem dX4_init_61 : decode cX4_init 61 = .ok (.newarray .int, 2) := by decide +kernel
theorem dX4_init_63 : decode cX4_init 63 = .ok (.putfield 31, 3) := by decide +kernel
theorem dX4_init_66 : decode cX4_init 66 = .ok (.aload_n 0, 1) := by decide +kernel
theorem dX4_init_67 : decode cX4_init 67 = .ok (.bipush 8, 2) := by decide +kernel
theorem dX4_init_69 : decode cX4_init 69 = .ok (.newarray .int, 2) := by decide +kernel
theorem dX4_init_71 : decode cX4_init 71 = .ok (.putfield 34, 3) := by decide +kernel
theorem dX4_init_74 : decode cX4_init 74 = .ok (.aload_n 0, 1) := by decide +kernel
theorem dX4_init_75 : decode cX4_init 75 = .ok (.bipush 8, 2) := by decide +kernel
theorem dX4_init_77 : decode cX4_init 77 = .ok (.newarray .int, 2) := by decide +kernel
theorem dX4_init_79 : decode cX4_init 79 = .ok (.putfield 37, 3) := by decide +kernel
theorem dX4_init_82 : decode cX4_init 82 = .ok (.aload_n 0, 1) := by decide +kernel
theorem dX4_init_83 : decode cX4_init 83 = .ok (.bipush 8, 2) := by decide +kernel
theorem dX4_init_85 : decode cX4_init 85 = .ok (.newarray .int, 2) := by decide +kernel
theorem dX4_init_87 : decode cX4_init 87 = .ok (.putfield 40, 3) := by decide +kernel
theorem dX4_init_90 : decode cX4_init 90 = .ok (.aload_n 0, 1) := by decide +kernel
theorem dX4_init_91 : decode cX4_init 91 = .ok (.bipush 8, 2) := by decide +kernel
theorem dX4_init_93 : decode cX4_init 93 = .ok (.newarray .int, 2) := by decide +kernel
theorem dX4_init_95 : decode cX4_init 95 = .ok (.putfield 43, 3) := by decide +kernel
theorem dX4_init_98 : decode cX4_init 98 = .ok (.aload_n 0, 1) := by decide +kernel
theorem dX4_init_99 : decode cX4_init 99 = .ok (.bipush 8, 2) := by decide +kernel
theorem dX4_init_101 : decode cX4_init 101 = .ok (.newarray .int, 2) := by decide +kernel
theorem dX4_init_103 : decode cX4_init 103 = .ok (.putfield 46, 3) := by decide +kernel
theorem dX4_init_106 : decode cX4_init 106 = .ok (.aload_n 0, 1) := by decide +kernel
theorem dX4_init_107 : decode cX4_init 107 = .ok (.bipush 6, 2) := by decide +kernel
theorem dX4_init_109 : decode cX4_init 109 = .ok (.newarray .int, 2) := by decide +kernel
theorem dX4_init_111 : decode cX4_init 111 = .ok (.putfield 49, 3) := by decide +kernel
theorem dX4_init_114 : decode cX4_init 114 = .ok (.aload_n 0, 1) := by decide +kernel
theorem dX4_init_115 : decode cX4_init 115 = .ok (.bipush 6, 2) := by decide +kernel
theorem dX4_init_117 : decode cX4_init 117 = .ok (.newarray .int, 2) := by decide +kernel
theorem dX4_init_119 : decode cX4_init 119 = .ok (.putfield 52, 3) := by decide +kernel
theorem dX4_init_122 : decode cX4_init 122 = .ok (.aload_n 0, 1) := by decide +kernel
theorem dX4_init_123 : decode cX4_init 123 = .ok (.bipush 6, 2) := by decide +kernel
theorem dX4_init_125 : decode cX4_init 125 = .ok (.newarray .int, 2) := by decide +kernel
theorem dX4_init_127 : decode cX4_init 127 = .ok (.putfield 55, 3) := by decide +kernel
theorem dX4_init_130 : decode cX4_init 130 = .ok (.aload_n 0, 1) := by decide +kernel
theorem dX4_init_131 : decode cX4_init 131 = .ok (.bipush 6, 2) := by decide +kernel
theorem dX4_init_133 : decode cX4_init 133 = .ok (.newarray .int, 2) := by decide +kernel
theorem dX4_init_135 : decode cX4_init 135 = .ok (.putfield 58, 3) := by decide +kernel
theorem dX4_init_138 : decode cX4_init 138 = .ok (.aload_n 0, 1) := by decide +kernel
theorem dX4_init_139 : decode cX4_init 139 = .ok (.sipush 12288, 3) := by decide +kernel
theorem dX4_init_142 : decode cX4_init 142 = .ok (.newarray .boolean, 2) := by decide +kernel
theorem dX4_init_144 : decode cX4_init 144 = .ok (.putfield 61, 3) := by decide +kernel
theorem dX4_init_147 : decode cX4_init 147 = .ok (.iconst 0, 1) := by decide +kernel
theorem dX4_init_148 : decode cX4_init 148 = .ok (.istore_n 1, 1) := by decide +kernel
theorem dX4_init_149 : decode cX4_init 149 = .ok (.iload_n 1, 1) := by decide +kernel
theorem dX4_init_150 : decode cX4_init 150 = .ok (.iconst 4, 1) := by decide +kernel
theorem dX4_init_151 : decode cX4_init 151 = .ok (.if_icmp .ge 17, 3) := by decide +kernel
theorem dX4_init_154 : decode cX4_init 154 = .ok (.aload_n 0, 1) := by decide +kernel
theorem dX4_init_155 : decode cX4_init 155 = .ok (.getfield 7, 3) := by decide +kernel
theorem dX4_init_158 : decode cX4_init 158 = .ok (.iload_n 1, 1) := by decide +kernel
theorem dX4_init_159 : decode cX4_init 159 = .ok (.bipush 8, 2) := by decide +kernel
theorem dX4_init_161 : decode cX4_init 161 = .ok (.iastore, 1) := by decide +kernel
theorem dX4_init_162 : decode cX4_init 162 = .ok (.iinc 1 1, 3) := by decide +kernel
theorem dX4_init_165 : decode cX4_init 165 = .ok (.goto (-16), 3) := by decide +kernel
theorem dX4_init_168 : decode cX4_init 168 = .ok (.iconst 0, 1) := by decide +kernel
theorem dX4_init_169 : decode cX4_init 169 = .ok (.istore_n 1, 1) := by decide +kernel
theorem dX4_init_170 : decode cX4_init 170 = .ok (.iload_n 1, 1) := by decide +kernel
theorem dX4_init_171 : decode cX4_init 171 = .ok (.bipush 8, 2) := by decide +kernel
theorem dX4_init_173 : decode cX4_init 173 = .ok (.if_icmp .ge 44, 3) := by decide +kernel
theorem dX4_init_176 : decode cX4_init 176 = .ok (.aload_n 0, 1) := by decide +kernel
theorem dX4_init_177 : decode cX4_init 177 = .ok (.getfield 19, 3) := by decide +kernel
theorem dX4_init_180 : decode cX4_init 180 = .ok (.iload_n 1, 1) := by decide +kernel
theorem dX4_init_181 : decode cX4_init 181 = .ok (.iconst (-1), 1) := by decide +kernel
theorem dX4_init_182 : decode cX4_init 182 = .ok (.iastore, 1) := by decide +kernel
theorem dX4_init_183 : decode cX4_init 183 = .ok (.aload_n 0, 1) := by decide +kernel
theorem dX4_init_184 : decode cX4_init 184 = .ok (.getfield 25, 3) := by decide +kernel
theorem dX4_init_187 : decode cX4_init 187 = .ok (.iload_n 1, 1) := by decide +kernel
theorem dX4_init_188 : decode cX4_init 188 = .ok (.iconst (-1), 1) := by decide +kernel
theorem dX4_init_189 : decode cX4_init 189 = .ok (.iastore, 1) := by decide +kernel
theorem dX4_init_190 : decode cX4_init 190 = .ok (.aload_n 0, 1) := by decide +kernel
theorem dX4_init_191 : decode cX4_init 191 = .ok (.getfield 31, 3) := by decide +kernel
theorem dX4_init_194 : decode cX4_init 194 = .ok (.iload_n 1, 1) := by decide +kernel
theorem dX4_init_195 : decode cX4_init 195 = .ok (.iconst (-1), 1) := by decide +kernel
theorem dX4_init_196 : decode cX4_init 196 = .ok (.iastore, 1) := by decide +kernel
theorem dX4_init_197 : decode cX4_init 197 = .ok (.aload_n 0, 1) := by decide +kernel
theorem dX4_init_198 : decode cX4_init 198 = .ok (.getfield 34, 3) := by decide +kernel
theorem dX4_init_201 : decode cX4_init 201 = .ok (.iload_n 1, 1) := by decide +kernel
theorem dX4_init_202 : decode cX4_init 202 = .ok (.iconst (-1), 1) := by decide +kernel
theorem dX4_init_203 : decode cX4_init 203 = .ok (.iastore, 1) := by decide +kernel
theorem dX4_init_204 : decode cX4_init 204 = .ok (.aload_n 0, 1) := by decide +kernel
theorem dX4_init_205 : decode cX4_init 205 = .ok (.getfield 40, 3) := by decide +kernel
theorem dX4_init_208 : decode cX4_init 208 = .ok (.iload_n 1, 1) := by decide +kernel
theorem dX4_init_209 : decode cX4_init 209 = .ok (.iconst (-1), 1) := by decide +kernel
theorem dX4_init_210 : decode cX4_init 210 = .ok (.iastore, 1) := by decide +kernel
theorem dX4_init_211 : decode cX4_init 211 = .ok (.iinc 1 1, 3) := by decide +kernel
theorem dX4_init_214 : decode cX4_init 214 = .ok (.goto (-44), 3) := by decide +kernel
theorem dX4_init_217 : decode cX4_init 217 = .ok (.iconst 0, 1) := by decide +kernel
theorem dX4_init_218 : decode cX4_init 218 = .ok (.istore_n 1, 1) := by decide +kernel
theorem dX4_init_219 : decode cX4_init 219 = .ok (.iload_n 1, 1) := by decide +kernel
theorem dX4_init_220 : decode cX4_init 220 = .ok (.bipush 6, 2) := by decide +kernel
theorem dX4_init_222 : decode cX4_init 222 = .ok (.if_icmp .ge 30, 3) := by decide +kernel
theorem dX4_init_225 : decode cX4_init 225 = .ok (.aload_n 0, 1) := by decide +kernel
theorem dX4_init_226 : decode cX4_init 226 = .ok (.getfield 52, 3) := by decide +kernel
theorem dX4_init_229 : decode cX4_init 229 = .ok (.iload_n 1, 1) := by decide +kernel
theorem dX4_init_230 : decode cX4_init 230 = .ok (.iconst (-1), 1) := by decide +kernel
theorem dX4_init_231 : decode cX4_init 231 = .ok (.iastore, 1) := by decide +kernel
theorem dX4_init_232 : decode cX4_init 232 = .ok (.aload_n 0, 1) := by decide +kernel
theorem dX4_init_233 : decode cX4_init 233 = .ok (.getfield 55, 3) := by decide +kernel
theorem dX4_init_236 : decode cX4_init 236 = .ok (.iload_n 1, 1) := by decide +kernel
theorem dX4_init_237 : decode cX4_init 237 = .ok (.iconst (-1), 1) := by decide +kernel
theorem dX4_init_238 : decode cX4_init 238 = .ok (.iastore, 1) := by decide +kernel
theorem dX4_init_239 : decode cX4_init 239 = .ok (.aload_n 0, 1) := by decide +kernel
theorem dX4_init_240 : decode cX4_init 240 = .ok (.getfield 58, 3) := by decide +kernel
theorem dX4_init_243 : decode cX4_init 243 = .ok (.iload_n 1, 1) := by decide +kernel
theorem dX4_init_244 : decode cX4_init 244 = .ok (.iconst (-1), 1) := by decide +kernel
theorem dX4_init_245 : decode cX4_init 245 = .ok (.iastore, 1) := by decide +kernel
theorem dX4_init_246 : decode cX4_init 246 = .ok (.iinc 1 1, 3) := by decide +kernel
theorem dX4_init_249 : decode cX4_init 249 = .ok (.goto (-30), 3) := by decide +kernel
theorem dX4_init_252 : decode cX4_init 252 = .ok (.return_, 1) := by decide +kernel
theorem dX4_thrown_0 : decode cX4_thrown 0 = .ok (.aload_n 0, 1) := by decide +kernel
theorem dX4_thrown_1 : decode cX4_thrown 1 = .ok (.getfield 65, 3) := by decide +kernel
theorem dX4_thrown_4 : decode cX4_thrown 4 = .ok (.ireturn, 1) := by decide +kernel
theorem dX4_in_0 : decode cX4_in 0 = .ok (.iload_n 0, 1) := by decide +kernel
theorem dX4_in_1 : decode cX4_in 1 = .ok (.iload_n 1, 1) := by decide +kernel
theorem dX4_in_2 : decode cX4_in 2 = .ok (.if_icmp .lt 12, 3) := by decide +kernel
theorem dX4_in_5 : decode cX4_in 5 = .ok (.iload_n 0, 1) := by decide +kernel
theorem dX4_in_6 : decode cX4_in 6 = .ok (.iload_n 2, 1) := by decide +kernel
theorem dX4_in_7 : decode cX4_in 7 = .ok (.if_icmp .gt 7, 3) := by decide +kernel
theorem dX4_in_10 : decode cX4_in 10 = .ok (.iconst 1, 1) := by decide +kernel
theorem dX4_in_11 : decode cX4_in 11 = .ok (.goto 4, 3) := by decide +kernel
theorem dX4_in_14 : decode cX4_in 14 = .ok (.iconst 0, 1) := by decide +kernel
theorem dX4_in_15 : decode cX4_in 15 = .ok (.ireturn, 1) := by decide +kernel
theorem dX4_goes_0 : decode cX4_goes 0 = .ok (.aload_n 0, 1) := by decide +kernel
theorem dX4_goes_1 : decode cX4_goes 1 = .ok (.iload_n 1, 1) := by decide +kernel
theorem dX4_goes_2 : decode cX4_goes 2 = .ok (.ifCond .ne 7, 3) := by decide +kernel
theorem dX4_goes_5 : decode cX4_goes 5 = .ok (.iconst 1, 1) := by decide +kernel
theorem dX4_goes_6 : decode cX4_goes 6 = .ok (.goto 20, 3) := by decide +kernel
theorem dX4_goes_9 : decode cX4_goes 9 = .ok (.iload_n 2, 1) := by decide +kernel
theorem dX4_goes_10 : decode cX4_goes 10 = .ok (.ifCond .ne 7, 3) := by decide +kernel
theorem dX4_goes_13 : decode cX4_goes 13 = .ok (.iconst 2, 1) := by decide +kernel
theorem dX4_goes_14 : decode cX4_goes 14 = .ok (.goto 12, 3) := by decide +kernel
theorem dX4_goes_17 : decode cX4_goes 17 = .ok (.iload_n 3, 1) := by decide +kernel
theorem dX4_goes_18 : decode cX4_goes 18 = .ok (.ifCond .ne 7, 3) := by decide +kernel
theorem dX4_goes_21 : decode cX4_goes 21 = .ok (.iconst 3, 1) := by decide +kernel
theorem dX4_goes_22 : decode cX4_goes 22 = .ok (.goto 4, 3) := by decide +kernel
theorem dX4_goes_25 : decode cX4_goes 25 = .ok (.iconst 0, 1) := by decide +kernel
theorem dX4_goes_26 : decode cX4_goes 26 = .ok (.putfield 65, 3) := by decide +kernel
theorem dX4_goes_29 : decode cX4_goes 29 = .ok (.aload_n 0, 1) := by decide +kernel
theorem dX4_goes_30 : decode cX4_goes 30 = .ok (.getfield 65, 3) := by decide +kernel
theorem dX4_goes_33 : decode cX4_goes 33 = .ok (.ifCond .ne 7, 3) := by decide +kernel
theorem dX4_goes_36 : decode cX4_goes 36 = .ok (.iconst 1, 1) := by decide +kernel
theorem dX4_goes_37 : decode cX4_goes 37 = .ok (.goto 4, 3) := by decide +kernel
theorem dX4_goes_40 : decode cX4_goes 40 = .ok (.iconst 0, 1) := by decide +kernel
theorem dX4_goes_41 : decode cX4_goes 41 = .ok (.ireturn, 1) := by decide +kernel
theorem dX4_told_0 : decode cX4_told 0 = .ok (.aload_n 0, 1) := by decide +kernel
theorem dX4_told_1 : decode cX4_told 1 = .ok (.iconst 0, 1) := by decide +kernel
theorem dX4_told_2 : decode cX4_told 2 = .ok (.putfield 65, 3) := by decide +kernel
theorem dX4_told_5 : decode cX4_told 5 = .ok (.iload_n 1, 1) := by decide +kernel
theorem dX4_told_6 : decode cX4_told 6 = .ok (.ireturn, 1) := by decide +kernel
theorem dX4_isGift_0 : decode cX4_isGift 0 = .ok (.iload_n 0, 1) := by decide +kernel
theorem dX4_isGift_1 : decode cX4_isGift 1 = .ok (.iconst 0, 1) := by decide +kernel
theorem dX4_isGift_2 : decode cX4_isGift 2 = .ok (.bipush 7, 2) := by decide +kernel
theorem dX4_isGift_4 : decode cX4_isGift 4 = .ok (.invokestatic 69, 3) := by decide +kernel
theorem dX4_isGift_7 : decode cX4_isGift 7 = .ok (.ireturn, 1) := by decide +kernel
theorem dX4_isCalling_0 : decode cX4_isCalling 0 = .ok (.iload_n 0, 1) := by decide +kernel
theorem dX4_isCalling_1 : decode cX4_isCalling 1 = .ok (.iconst 0, 1) := by decide +kernel
theorem dX4_isCalling_2 : decode cX4_isCalling 2 = .ok (.iconst 2, 1) := by decide +kernel
theorem dX4_isCalling_3 : decode cX4_isCalling 3 = .ok (.invokestatic 69, 3) := by decide +kernel
theorem dX4_isCalling_6 : decode cX4_isCalling 6 = .ok (.ireturn, 1) := by decide +kernel
theorem dX4_isValue_0 : decode cX4_isValue 0 = .ok (.iload_n 0, 1) := by decide +kernel
theorem dX4_isValue_1 : decode cX4_isValue 1 = .ok (.iconst 0, 1) := by decide +kernel
theorem dX4_isValue_2 : decode cX4_isValue 2 = .ok (.iconst 5, 1) := by decide +kernel
theorem dX4_isValue_3 : decode cX4_isValue 3 = .ok (.invokestatic 69, 3) := by decide +kernel
theorem dX4_isValue_6 : decode cX4_isValue 6 = .ok (.ireturn, 1) := by decide +kernel
theorem dX4_has_0 : decode cX4_has 0 = .ok (.iload_n 0, 1) := by decide +kernel
theorem dX4_has_1 : decode cX4_has 1 = .ok (.iload_n 1, 1) := by decide +kernel
theorem dX4_has_2 : decode cX4_has 2 = .ok (.ishr, 1) := by decide +kernel
theorem dX4_has_3 : decode cX4_has 3 = .ok (.iconst 1, 1) := by decide +kernel
theorem dX4_has_4 : decode cX4_has 4 = .ok (.iand, 1) := by decide +kernel
theorem dX4_has_5 : decode cX4_has 5 = .ok (.iconst 1, 1) := by decide +kernel
theorem dX4_has_6 : decode cX4_has 6 = .ok (.if_icmp .ne 7, 3) := by decide +kernel
theorem dX4_has_9 : decode cX4_has 9 = .ok (.iconst 1, 1) := by decide +kernel
theorem dX4_has_10 : decode cX4_has 10 = .ok (.goto 4, 3) := by decide +kernel
theorem dX4_has_13 : decode cX4_has 13 = .ok (.iconst 0, 1) := by decide +kernel
theorem dX4_has_14 : decode cX4_has 14 = .ok (.ireturn, 1) := by decide +kernel
theorem dX4_many_0 : decode cX4_many 0 = .ok (.iconst 0, 1) := by decide +kernel
theorem dX4_many_1 : decode cX4_many 1 = .ok (.istore_n 1, 1) := by decide +kernel
theorem dX4_many_2 : decode cX4_many 2 = .ok (.iconst 0, 1) := by decide +kernel
theorem dX4_many_3 : decode cX4_many 3 = .ok (.istore_n 2, 1) := by decide +kernel
theorem dX4_many_4 : decode cX4_many 4 = .ok (.iload_n 2, 1) := by decide +kernel
theorem dX4_many_5 : decode cX4_many 5 = .ok (.bipush 8, 2) := by decide +kernel
theorem dX4_many_7 : decode cX4_many 7 = .ok (.if_icmp .ge 17, 3) := by decide +kernel
theorem dX4_many_10 : decode cX4_many 10 = .ok (.iload_n 1, 1) := by decide +kernel
theorem dX4_many_11 : decode cX4_many 11 = .ok (.iload_n 0, 1) := by decide +kernel
theorem dX4_many_12 : decode cX4_many 12 = .ok (.iload_n 2, 1) := by decide +kernel
theorem dX4_many_13 : decode cX4_many 13 = .ok (.ishr, 1) := by decide +kernel
theorem dX4_many_14 : decode cX4_many 14 = .ok (.iconst 1, 1) := by decide +kernel
theorem dX4_many_15 : decode cX4_many 15 = .ok (.iand, 1) := by decide +kernel
theorem dX4_many_16 : decode cX4_many 16 = .ok (.iadd, 1) := by decide +kernel
theorem dX4_many_17 : decode cX4_many 17 = .ok (.istore_n 1, 1) := by decide +kernel
theorem dX4_many_18 : decode cX4_many 18 = .ok (.iinc 2 1, 3) := by decide +kernel
theorem dX4_many_21 : decode cX4_many 21 = .ok (.goto (-17), 3) := by decide +kernel
theorem dX4_many_24 : decode cX4_many 24 = .ok (.iload_n 1, 1) := by decide +kernel
theorem dX4_many_25 : decode cX4_many 25 = .ok (.ireturn, 1) := by decide +kernel
theorem dX4_half_0 : decode cX4_half 0 = .ok (.iload_n 0, 1) := by decide +kernel
theorem dX4_half_1 : decode cX4_half 1 = .ok (.iconst 1, 1) := by decide +kernel
theorem dX4_half_2 : decode cX4_half 2 = .ok (.ishr, 1) := by decide +kernel
theorem dX4_half_3 : decode cX4_half 3 = .ok (.ireturn, 1) := by decide +kernel
theorem dX4_setNeeds_0 : decode cX4_setNeeds 0 = .ok (.iload_n 1, 1) := by decide +kernel
theorem dX4_setNeeds_1 : decode cX4_setNeeds 1 = .ok (.invokestatic 73, 3) := by decide +kernel
theorem dX4_setNeeds_4 : decode cX4_setNeeds 4 = .ok (.ifCond .eq 37, 3) := by decide +kernel
theorem dX4_setNeeds_7 : decode cX4_setNeeds 7 = .ok (.iload_n 2, 1) := by decide +kernel
theorem dX4_setNeeds_8 : decode cX4_setNeeds 8 = .ok (.iconst (-1), 1) := by decide +kernel
theorem dX4_setNeeds_9 : decode cX4_setNeeds 9 = .ok (.iconst 3, 1) := by decide +kernel
theorem dX4_setNeeds_10 : decode cX4_setNeeds 10 = .ok (.invokestatic 69, 3) := by decide +kernel
theorem dX4_setNeeds_13 : decode cX4_setNeeds 13 = .ok (.ifCond .eq 28, 3) := by decide +kernel
theorem dX4_setNeeds_16 : decode cX4_setNeeds 16 = .ok (.iload 4, 2) := by decide +kernel
theorem dX4_setNeeds_18 : decode cX4_setNeeds 18 = .ok (.iconst (-1), 1) := by decide +kernel
theorem dX4_setNeeds_19 : decode cX4_setNeeds 19 = .ok (.iconst 2, 1) := by decide +kernel
theorem dX4_setNeeds_20 : decode cX4_setNeeds 20 = .ok (.invokestatic 69, 3) := by decide +kernel
theorem dX4_setNeeds_23 : decode cX4_setNeeds 23 = .ok (.ifCond .eq 18, 3) := by decide +kernel
theorem dX4_setNeeds_26 : decode cX4_setNeeds 26 = .ok (.iload 6, 2) := by decide +kernel
theorem dX4_setNeeds_28 : decode cX4_setNeeds 28 = .ok (.iconst (-1), 1) := by decide +kernel
theorem dX4_setNeeds_29 : decode cX4_setNeeds 29 = .ok (.bipush 7, 2) := by decide +kernel
theorem dX4_setNeeds_31 : decode cX4_setNeeds 31 = .ok (.invokestatic 69, 3) := by decide +kernel
theorem dX4_setNeeds_34 : decode cX4_setNeeds 34 = .ok (.ifCond .eq 7, 3) := by decide +kernel
theorem dX4_setNeeds_37 : decode cX4_setNeeds 37 = .ok (.iconst 1, 1) := by decide +kernel
theorem dX4_setNeeds_38 : decode cX4_setNeeds 38 = .ok (.goto 4, 3) := by decide +kernel
theorem dX4_setNeeds_41 : decode cX4_setNeeds 41 = .ok (.iconst 0, 1) := by decide +kernel
theorem dX4_setNeeds_42 : decode cX4_setNeeds 42 = .ok (.istore 7, 2) := by decide +kernel
theorem dX4_setNeeds_44 : decode cX4_setNeeds 44 = .ok (.iload_n 2, 1) := by decide +kernel
theorem dX4_setNeeds_45 : decode cX4_setNeeds 45 = .ok (.iconst (-1), 1) := by decide +kernel
theorem dX4_setNeeds_46 : decode cX4_setNeeds 46 = .ok (.if_icmp .eq 14, 3) := by decide +kernel
theorem dX4_setNeeds_49 : decode cX4_setNeeds 49 = .ok (.iload_n 3, 1) := by decide +kernel
theorem dX4_setNeeds_50 : decode cX4_setNeeds 50 = .ok (.bipush 8, 2) := by decide +kernel
theorem dX4_setNeeds_52 : decode cX4_setNeeds 52 = .ok (.bipush 16, 2) := by decide +kernel
theorem dX4_setNeeds_54 : decode cX4_setNeeds 54 = .ok (.invokestatic 69, 3) := by decide +kernel
theorem dX4_setNeeds_57 : decode cX4_setNeeds 57 = .ok (.ifCond .eq 24, 3) := by decide +kernel
theorem dX4_setNeeds_60 : decode cX4_setNeeds 60 = .ok (.iload 4, 2) := by decide +kernel
theorem dX4_setNeeds_62 : decode cX4_setNeeds 62 = .ok (.iconst (-1), 1) := by decide +kernel
theorem dX4_setNeeds_63 : decode cX4_setNeeds 63 = .ok (.if_icmp .eq 14, 3) := by decide +kernel
theorem dX4_setNeeds_66 : decode cX4_setNeeds 66 = .ok (.iload 5, 2) := by decide +kernel
theorem dX4_setNeeds_68 : decode cX4_setNeeds 68 = .ok (.iconst 1, 1) := by decide +kernel
theorem dX4_setNeeds_69 : decode cX4_setNeeds 69 = .ok (.bipush 8, 2) := by decide +kernel
theorem dX4_setNeeds_71 : decode cX4_setNeeds 71 = .ok (.invokestatic 69, 3) := by decide +kernel
theorem dX4_setNeeds_74 : decode cX4_setNeeds 74 = .ok (.ifCond .eq 7, 3) := by decide +kernel
theorem dX4_setNeeds_77 : decode cX4_setNeeds 77 = .ok (.iconst 1, 1) := by decide +kernel
theorem dX4_setNeeds_78 : decode cX4_setNeeds 78 = .ok (.goto 4, 3) := by decide +kernel
theorem dX4_setNeeds_81 : decode cX4_setNeeds 81 = .ok (.iconst 0, 1) := by decide +kernel
theorem dX4_setNeeds_82 : decode cX4_setNeeds 82 = .ok (.istore 8, 2) := by decide +kernel
theorem dX4_setNeeds_84 : decode cX4_setNeeds 84 = .ok (.aload_n 0, 1) := by decide +kernel
theorem dX4_setNeeds_85 : decode cX4_setNeeds 85 = .ok (.iload 7, 2) := by decide +kernel
theorem dX4_setNeeds_87 : decode cX4_setNeeds 87 = .ok (.iload 8, 2) := by decide +kernel
theorem dX4_setNeeds_89 : decode cX4_setNeeds 89 = .ok (.iconst 1, 1) := by decide +kernel
theorem dX4_setNeeds_90 : decode cX4_setNeeds 90 = .ok (.invokevirtual 77, 3) := by decide +kernel
theorem dX4_setNeeds_93 : decode cX4_setNeeds 93 = .ok (.ifCond .eq 41, 3) := by decide +kernel
theorem dX4_setNeeds_96 : decode cX4_setNeeds 96 = .ok (.aload_n 0, 1) := by decide +kernel
theorem dX4_setNeeds_97 : decode cX4_setNeeds 97 = .ok (.getfield 19, 3) := by decide +kernel
theorem dX4_setNeeds_100 : decode cX4_setNeeds 100 = .ok (.iload_n 1, 1) := by decide +kernel
theorem dX4_setNeeds_101 : decode cX4_setNeeds 101 = .ok (.iload_n 2, 1) := by decide +kernel
theorem dX4_setNeeds_102 : decode cX4_setNeeds 102 = .ok (.iastore, 1) := by decide +kernel
theorem dX4_setNeeds_103 : decode cX4_setNeeds 103 = .ok (.aload_n 0, 1) := by decide +kernel
theorem dX4_setNeeds_104 : decode cX4_setNeeds 104 = .ok (.getfield 22, 3) := by decide +kernel
theorem dX4_setNeeds_107 : decode cX4_setNeeds 107 = .ok (.iload_n 1, 1) := by decide +kernel
theorem dX4_setNeeds_108 : decode cX4_setNeeds 108 = .ok (.iload_n 3, 1) := by decide +kernel
theorem dX4_setNeeds_109 : decode cX4_setNeeds 109 = .ok (.iastore, 1) := by decide +kernel
theorem dX4_setNeeds_110 : decode cX4_setNeeds 110 = .ok (.aload_n 0, 1) := by decide +kernel
theorem dX4_setNeeds_111 : decode cX4_setNeeds 111 = .ok (.getfield 25, 3) := by decide +kernel
theorem dX4_setNeeds_114 : decode cX4_setNeeds 114 = .ok (.iload_n 1, 1) := by decide +kernel
theorem dX4_setNeeds_115 : decode cX4_setNeeds 115 = .ok (.iload 4, 2) := by decide +kernel
theorem dX4_setNeeds_117 : decode cX4_setNeeds 117 = .ok (.iastore, 1) := by decide +kernel
theorem dX4_setNeeds_118 : decode cX4_setNeeds 118 = .ok (.aload_n 0, 1) := by decide +kernel
theorem dX4_setNeeds_119 : decode cX4_setNeeds 119 = .ok (.getfield 28, 3) := by decide +kernel
theorem dX4_setNeeds_122 : decode cX4_setNeeds 122 = .ok (.iload_n 1, 1) := by decide +kernel
theorem dX4_setNeeds_123 : decode cX4_setNeeds 123 = .ok (.iload 5, 2) := by decide +kernel
theorem dX4_setNeeds_125 : decode cX4_setNeeds 125 = .ok (.iastore, 1) := by decide +kernel
theorem dX4_setNeeds_126 : decode cX4_setNeeds 126 = .ok (.aload_n 0, 1) := by decide +kernel
theorem dX4_setNeeds_127 : decode cX4_setNeeds 127 = .ok (.getfield 31, 3) := by decide +kernel
theorem dX4_setNeeds_130 : decode cX4_setNeeds 130 = .ok (.iload_n 1, 1) := by decide +kernel
theorem dX4_setNeeds_131 : decode cX4_setNeeds 131 = .ok (.iload 6, 2) := by decide +kernel
theorem dX4_setNeeds_133 : decode cX4_setNeeds 133 = .ok (.iastore, 1) := by decide +kernel
theorem dX4_setNeeds_134 : decode cX4_setNeeds 134 = .ok (.return_, 1) := by decide +kernel
theorem dX4_bar_0 : decode cX4_bar 0 = .ok (.aload_n 0, 1) := by decide +kernel
theorem dX4_bar_1 : decode cX4_bar 1 = .ok (.iload_n 1, 1) := by decide +kernel
theorem dX4_bar_2 : decode cX4_bar 2 = .ok (.invokestatic 73, 3) := by decide +kernel
theorem dX4_bar_5 : decode cX4_bar 5 = .ok (.ifCond .eq 16, 3) := by decide +kernel
theorem dX4_bar_8 : decode cX4_bar 8 = .ok (.iload_n 2, 1) := by decide +kernel
theorem dX4_bar_9 : decode cX4_bar 9 = .ok (.iconst (-1), 1) := by decide +kernel
theorem dX4_bar_10 : decode cX4_bar 10 = .ok (.iconst 2, 1) := by decide +kernel
theorem dX4_bar_11 : decode cX4_bar 11 = .ok (.invokestatic 69, 3) := by decide +kernel
theorem dX4_bar_14 : decode cX4_bar 14 = .ok (.ifCond .eq 7, 3) := by decide +kernel
theorem dX4_bar_17 : decode cX4_bar 17 = .ok (.iconst 1, 1) := by decide +kernel
theorem dX4_bar_18 : decode cX4_bar 18 = .ok (.goto 4, 3) := by decide +kernel
theorem dX4_bar_21 : decode cX4_bar 21 = .ok (.iconst 0, 1) := by decide +kernel
theorem dX4_bar_22 : decode cX4_bar 22 = .ok (.iload_n 2, 1) := by decide +kernel
theorem dX4_bar_23 : decode cX4_bar 23 = .ok (.iconst (-1), 1) := by decide +kernel
theorem dX4_bar_24 : decode cX4_bar 24 = .ok (.if_icmp .eq 13, 3) := by decide +kernel
theorem dX4_bar_27 : decode cX4_bar 27 = .ok (.iload_n 3, 1) := by decide +kernel
theorem dX4_bar_28 : decode cX4_bar 28 = .ok (.iconst 0, 1) := by decide +kernel
theorem dX4_bar_29 : decode cX4_bar 29 = .ok (.bipush 7, 2) := by decide +kernel
theorem dX4_bar_31 : decode cX4_bar 31 = .ok (.invokestatic 69, 3) := by decide +kernel
theorem dX4_bar_34 : decode cX4_bar 34 = .ok (.ifCond .eq 7, 3) := by decide +kernel
theorem dX4_bar_37 : decode cX4_bar 37 = .ok (.iconst 1, 1) := by decide +kernel
theorem dX4_bar_38 : decode cX4_bar 38 = .ok (.goto 4, 3) := by decide +kernel
theorem dX4_bar_41 : decode cX4_bar 41 = .ok (.iconst 0, 1) := by decide +kernel
theorem dX4_bar_42 : decode cX4_bar 42 = .ok (.iconst 1, 1) := by decide +kernel
theorem dX4_bar_43 : decode cX4_bar 43 = .ok (.invokevirtual 77, 3) := by decide +kernel
theorem dX4_bar_46 : decode cX4_bar 46 = .ok (.ifCond .eq 17, 3) := by decide +kernel
theorem dX4_bar_49 : decode cX4_bar 49 = .ok (.aload_n 0, 1) := by decide +kernel
theorem dX4_bar_50 : decode cX4_bar 50 = .ok (.getfield 34, 3) := by decide +kernel
theorem dX4_bar_53 : decode cX4_bar 53 = .ok (.iload_n 1, 1) := by decide +kernel
theorem dX4_bar_54 : decode cX4_bar 54 = .ok (.iload_n 2, 1) := by decide +kernel
theorem dX4_bar_55 : decode cX4_bar 55 = .ok (.iastore, 1) := by decide +kernel
theorem dX4_bar_56 : decode cX4_bar 56 = .ok (.aload_n 0, 1) := by decide +kernel
theorem dX4_bar_57 : decode cX4_bar 57 = .ok (.getfield 37, 3) := by decide +kernel
theorem dX4_bar_60 : decode cX4_bar 60 = .ok (.iload_n 1, 1) := by decide +kernel
theorem dX4_bar_61 : decode cX4_bar 61 = .ok (.iload_n 3, 1) := by decide +kernel
theorem dX4_bar_62 : decode cX4_bar 62 = .ok (.iastore, 1) := by decide +kernel
theorem dX4_bar_63 : decode cX4_bar 63 = .ok (.return_, 1) := by decide +kernel
theorem dX4_setBonus_0 : decode cX4_setBonus 0 = .ok (.aload_n 0, 1) := by decide +kernel
theorem dX4_setBonus_1 : decode cX4_setBonus 1 = .ok (.iload_n 1, 1) := by decide +kernel
theorem dX4_setBonus_2 : decode cX4_setBonus 2 = .ok (.invokestatic 73, 3) := by decide +kernel
theorem dX4_setBonus_5 : decode cX4_setBonus 5 = .ok (.ifCond .eq 16, 3) := by decide +kernel
theorem dX4_setBonus_8 : decode cX4_setBonus 8 = .ok (.iload_n 2, 1) := by decide +kernel
theorem dX4_setBonus_9 : decode cX4_setBonus 9 = .ok (.iconst (-1), 1) := by decide +kernel
theorem dX4_setBonus_10 : decode cX4_setBonus 10 = .ok (.iconst 5, 1) := by decide +kernel
theorem dX4_setBonus_11 : decode cX4_setBonus 11 = .ok (.invokestatic 69, 3) := by decide +kernel
theorem dX4_setBonus_14 : decode cX4_setBonus 14 = .ok (.ifCond .eq 7, 3) := by decide +kernel
theorem dX4_setBonus_17 : decode cX4_setBonus 17 = .ok (.iconst 1, 1) := by decide +kernel
theorem dX4_setBonus_18 : decode cX4_setBonus 18 = .ok (.goto 4, 3) := by decide +kernel
theorem dX4_setBonus_21 : decode cX4_setBonus 21 = .ok (.iconst 0, 1) := by decide +kernel
theorem dX4_setBonus_22 : decode cX4_setBonus 22 = .ok (.iload_n 3, 1) := by decide +kernel
theorem dX4_setBonus_23 : decode cX4_setBonus 23 = .ok (.iconst 0, 1) := by decide +kernel
theorem dX4_setBonus_24 : decode cX4_setBonus 24 = .ok (.iconst 3, 1) := by decide +kernel
theorem dX4_setBonus_25 : decode cX4_setBonus 25 = .ok (.invokestatic 69, 3) := by decide +kernel
theorem dX4_setBonus_28 : decode cX4_setBonus 28 = .ok (.ifCond .eq 19, 3) := by decide +kernel
theorem dX4_setBonus_31 : decode cX4_setBonus 31 = .ok (.iload 4, 2) := by decide +kernel
theorem dX4_setBonus_33 : decode cX4_setBonus 33 = .ok (.bipush (-9), 2) := by decide +kernel
theorem dX4_setBonus_35 : decode cX4_setBonus 35 = .ok (.bipush 9, 2) := by decide +kernel
theorem dX4_setBonus_37 : decode cX4_setBonus 37 = .ok (.invokestatic 69, 3) := by decide +kernel
theorem dX4_setBonus_40 : decode cX4_setBonus 40 = .ok (.ifCond .eq 7, 3) := by decide +kernel
theorem dX4_setBonus_43 : decode cX4_setBonus 43 = .ok (.iconst 1, 1) := by decide +kernel
theorem dX4_setBonus_44 : decode cX4_setBonus 44 = .ok (.goto 4, 3) := by decide +kernel
theorem dX4_setBonus_47 : decode cX4_setBonus 47 = .ok (.iconst 0, 1) := by decide +kernel
theorem dX4_setBonus_48 : decode cX4_setBonus 48 = .ok (.iconst 1, 1) := by decide +kernel
theorem dX4_setBonus_49 : decode cX4_setBonus 49 = .ok (.invokevirtual 77, 3) := by decide +kernel
theorem dX4_setBonus_52 : decode cX4_setBonus 52 = .ok (.ifCond .eq 25, 3) := by decide +kernel
theorem dX4_setBonus_55 : decode cX4_setBonus 55 = .ok (.aload_n 0, 1) := by decide +kernel
theorem dX4_setBonus_56 : decode cX4_setBonus 56 = .ok (.getfield 40, 3) := by decide +kernel
theorem dX4_setBonus_59 : decode cX4_setBonus 59 = .ok (.iload_n 1, 1) := by decide +kernel
theorem dX4_setBonus_60 : decode cX4_setBonus 60 = .ok (.iload_n 2, 1) := by decide +kernel
theorem dX4_setBonus_61 : decode cX4_setBonus 61 = .ok (.iastore, 1) := by decide +kernel
theorem dX4_setBonus_62 : decode cX4_setBonus 62 = .ok (.aload_n 0, 1) := by decide +kernel
theorem dX4_setBonus_63 : decode cX4_setBonus 63 = .ok (.getfield 43, 3) := by decide +kernel
theorem dX4_setBonus_66 : decode cX4_setBonus 66 = .ok (.iload_n 1, 1) := by decide +kernel
theorem dX4_setBonus_67 : decode cX4_setBonus 67 = .ok (.iload_n 3, 1) := by decide +kernel
theorem dX4_setBonus_68 : decode cX4_setBonus 68 = .ok (.iastore, 1) := by decide +kernel
theorem dX4_setBonus_69 : decode cX4_setBonus 69 = .ok (.aload_n 0, 1) := by decide +kernel
theorem dX4_setBonus_70 : decode cX4_setBonus 70 = .ok (.getfield 46, 3) := by decide +kernel
theorem dX4_setBonus_73 : decode cX4_setBonus 73 = .ok (.iload_n 1, 1) := by decide +kernel
theorem dX4_setBonus_74 : decode cX4_setBonus 74 = .ok (.iload 4, 2) := by decide +kernel
theorem dX4_setBonus_76 : decode cX4_setBonus 76 = .ok (.iastore, 1) := by decide +kernel
theorem dX4_setBonus_77 : decode cX4_setBonus 77 = .ok (.return_, 1) := by decide +kernel
theorem dX4_setValue_0 : decode cX4_setValue 0 = .ok (.iload_n 1, 1) := by decide +kernel
theorem dX4_setValue_1 : decode cX4_setValue 1 = .ok (.invokestatic 81, 3) := by decide +kernel
theorem dX4_setValue_4 : decode cX4_setValue 4 = .ok (.ifCond .eq 36, 3) := by decide +kernel
theorem dX4_setValue_7 : decode cX4_setValue 7 = .ok (.iload_n 3, 1) := by decide +kernel
theorem dX4_setValue_8 : decode cX4_setValue 8 = .ok (.iconst (-1), 1) := by decide +kernel
theorem dX4_setValue_9 : decode cX4_setValue 9 = .ok (.iconst 3, 1) := by decide +kernel
theorem dX4_setValue_10 : decode cX4_setValue 10 = .ok (.invokestatic 69, 3) := by decide +kernel
theorem dX4_setValue_13 : decode cX4_setValue 13 = .ok (.ifCond .eq 27, 3) := by decide +kernel
theorem dX4_setValue_16 : decode cX4_setValue 16 = .ok (.iload 4, 2) := by decide +kernel
theorem dX4_setValue_18 : decode cX4_setValue 18 = .ok (.iconst (-1), 1) := by decide +kernel
theorem dX4_setValue_19 : decode cX4_setValue 19 = .ok (.iconst 2, 1) := by decide +kernel
theorem dX4_setValue_20 : decode cX4_setValue 20 = .ok (.invokestatic 69, 3) := by decide +kernel
theorem dX4_setValue_23 : decode cX4_setValue 23 = .ok (.ifCond .eq 17, 3) := by decide +kernel
theorem dX4_setValue_26 : decode cX4_setValue 26 = .ok (.iload 5, 2) := by decide +kernel
theorem dX4_setValue_28 : decode cX4_setValue 28 = .ok (.iconst (-1), 1) := by decide +kernel
theorem dX4_setValue_29 : decode cX4_setValue 29 = .ok (.iconst 5, 1) := by decide +kernel
theorem dX4_setValue_30 : decode cX4_setValue 30 = .ok (.invokestatic 69, 3) := by decide +kernel
theorem dX4_setValue_33 : decode cX4_setValue 33 = .ok (.ifCond .eq 7, 3) := by decide +kernel
theorem dX4_setValue_36 : decode cX4_setValue 36 = .ok (.iconst 1, 1) := by decide +kernel
theorem dX4_setValue_37 : decode cX4_setValue 37 = .ok (.goto 4, 3) := by decide +kernel
theorem dX4_setValue_40 : decode cX4_setValue 40 = .ok (.iconst 0, 1) := by decide +kernel
theorem dX4_setValue_41 : decode cX4_setValue 41 = .ok (.istore 6, 2) := by decide +kernel
theorem dX4_setValue_43 : decode cX4_setValue 43 = .ok (.aload_n 0, 1) := by decide +kernel
theorem dX4_setValue_44 : decode cX4_setValue 44 = .ok (.iload 6, 2) := by decide +kernel
theorem dX4_setValue_46 : decode cX4_setValue 46 = .ok (.iload_n 2, 1) := by decide +kernel
theorem dX4_setValue_47 : decode cX4_setValue 47 = .ok (.bipush (-50), 2) := by decide +kernel
theorem dX4_setValue_49 : decode cX4_setValue 49 = .ok (.bipush 50, 2) := by decide +kernel
theorem dX4_setValue_51 : decode cX4_setValue 51 = .ok (.invokestatic 69, 3) := by decide +kernel
theorem dX4_setValue_54 : decode cX4_setValue 54 = .ok (.iconst 1, 1) := by decide +kernel
theorem dX4_setValue_55 : decode cX4_setValue 55 = .ok (.invokevirtual 77, 3) := by decide +kernel
theorem dX4_setValue_58 : decode cX4_setValue 58 = .ok (.ifCond .eq 33, 3) := by decide +kernel
theorem dX4_setValue_61 : decode cX4_setValue 61 = .ok (.aload_n 0, 1) := by decide +kernel
theorem dX4_setValue_62 : decode cX4_setValue 62 = .ok (.getfield 49, 3) := by decide +kernel
theorem dX4_setValue_65 : decode cX4_setValue 65 = .ok (.iload_n 1, 1) := by decide +kernel
theorem dX4_setValue_66 : decode cX4_setValue 66 = .ok (.iload_n 2, 1) := by decide +kernel
theorem dX4_setValue_67 : decode cX4_setValue 67 = .ok (.iastore, 1) := by decide +kernel
theorem dX4_setValue_68 : decode cX4_setValue 68 = .ok (.aload_n 0, 1) := by decide +kernel
theorem dX4_setValue_69 : decode cX4_setValue 69 = .ok (.getfield 52, 3) := by decide +kernel
theorem dX4_setValue_72 : decode cX4_setValue 72 = .ok (.iload_n 1, 1) := by decide +kernel
theorem dX4_setValue_73 : decode cX4_setValue 73 = .ok (.iload_n 3, 1) := by decide +kernel
theorem dX4_setValue_74 : decode cX4_setValue 74 = .ok (.iastore, 1) := by decide +kernel
theorem dX4_setValue_75 : decode cX4_setValue 75 = .ok (.aload_n 0, 1) := by decide +kernel
theorem dX4_setValue_76 : decode cX4_setValue 76 = .ok (.getfield 55, 3) := by decide +kernel
theorem dX4_setValue_79 : decode cX4_setValue 79 = .ok (.iload_n 1, 1) := by decide +kernel
theorem dX4_setValue_80 : decode cX4_setValue 80 = .ok (.iload 4, 2) := by decide +kernel
theorem dX4_setValue_82 : decode cX4_setValue 82 = .ok (.iastore, 1) := by decide +kernel
theorem dX4_setValue_83 : decode cX4_setValue 83 = .ok (.aload_n 0, 1) := by decide +kernel
theorem dX4_setValue_84 : decode cX4_setValue 84 = .ok (.getfield 58, 3) := by decide +kernel
theorem dX4_setValue_87 : decode cX4_setValue 87 = .ok (.iload_n 1, 1) := by decide +kernel
theorem dX4_setValue_88 : decode cX4_setValue 88 = .ok (.iload 5, 2) := by decide +kernel
theorem dX4_setValue_90 : decode cX4_setValue 90 = .ok (.iastore, 1) := by decide +kernel
theorem dX4_setValue_91 : decode cX4_setValue 91 = .ok (.return_, 1) := by decide +kernel
theorem dX4_costOf_0 : decode cX4_costOf 0 = .ok (.iload_n 0, 1) := by decide +kernel
theorem dX4_costOf_1 : decode cX4_costOf 1 = .ok (.bipush 8, 2) := by decide +kernel
theorem dX4_costOf_3 : decode cX4_costOf 3 = .ok (.isub, 1) := by decide +kernel
theorem dX4_costOf_4 : decode cX4_costOf 4 = .ok (.iload_n 0, 1) := by decide +kernel
theorem dX4_costOf_5 : decode cX4_costOf 5 = .ok (.bipush 12, 2) := by decide +kernel
theorem dX4_costOf_7 : decode cX4_costOf 7 = .ok (.if_icmp .le 10, 3) := by decide +kernel
theorem dX4_costOf_10 : decode cX4_costOf 10 = .ok (.iload_n 0, 1) := by decide +kernel
theorem dX4_costOf_11 : decode cX4_costOf 11 = .ok (.bipush 12, 2) := by decide +kernel
theorem dX4_costOf_13 : decode cX4_costOf 13 = .ok (.isub, 1) := by decide +kernel
theorem dX4_costOf_14 : decode cX4_costOf 14 = .ok (.goto 4, 3) := by decide +kernel
theorem dX4_costOf_17 : decode cX4_costOf 17 = .ok (.iconst 0, 1) := by decide +kernel
theorem dX4_costOf_18 : decode cX4_costOf 18 = .ok (.iadd, 1) := by decide +kernel
theorem dX4_costOf_19 : decode cX4_costOf 19 = .ok (.ireturn, 1) := by decide +kernel
theorem dX4_cost_0 : decode cX4_cost 0 = .ok (.iconst 0, 1) := by decide +kernel
theorem dX4_cost_1 : decode cX4_cost 1 = .ok (.istore_n 1, 1) := by decide +kernel
theorem dX4_cost_2 : decode cX4_cost 2 = .ok (.iconst 0, 1) := by decide +kernel
theorem dX4_cost_3 : decode cX4_cost 3 = .ok (.istore_n 2, 1) := by decide +kernel
theorem dX4_cost_4 : decode cX4_cost 4 = .ok (.iload_n 2, 1) := by decide +kernel
theorem dX4_cost_5 : decode cX4_cost 5 = .ok (.iconst 4, 1) := by decide +kernel
theorem dX4_cost_6 : decode cX4_cost 6 = .ok (.if_icmp .ge 21, 3) := by decide +kernel
theorem dX4_cost_9 : decode cX4_cost 9 = .ok (.iload_n 1, 1) := by decide +kernel
theorem dX4_cost_10 : decode cX4_cost 10 = .ok (.aload_n 0, 1) := by decide +kernel
theorem dX4_cost_11 : decode cX4_cost 11 = .ok (.getfield 7, 3) := by decide +kernel
theorem dX4_cost_14 : decode cX4_cost 14 = .ok (.iload_n 2, 1) := by decide +kernel
theorem dX4_cost_15 : decode cX4_cost 15 = .ok (.iaload, 1) := by decide +kernel
theorem dX4_cost_16 : decode cX4_cost 16 = .ok (.invokestatic 84, 3) := by decide +kernel
theorem dX4_cost_19 : decode cX4_cost 19 = .ok (.iadd, 1) := by decide +kernel
theorem dX4_cost_20 : decode cX4_cost 20 = .ok (.istore_n 1, 1) := by decide +kernel
theorem dX4_cost_21 : decode cX4_cost 21 = .ok (.iinc 2 1, 3) := by decide +kernel
theorem dX4_cost_24 : decode cX4_cost 24 = .ok (.goto (-20), 3) := by decide +kernel
theorem dX4_cost_27 : decode cX4_cost 27 = .ok (.iload_n 1, 1) := by decide +kernel
theorem dX4_cost_28 : decode cX4_cost 28 = .ok (.ireturn, 1) := by decide +kernel
theorem dX4_setScore_0 : decode cX4_setScore 0 = .ok (.iload_n 1, 1) := by decide +kernel
theorem dX4_setScore_1 : decode cX4_setScore 1 = .ok (.iconst 0, 1) := by decide +kernel
theorem dX4_setScore_2 : decode cX4_setScore 2 = .ok (.iconst 3, 1) := by decide +kernel
theorem dX4_setScore_3 : decode cX4_setScore 3 = .ok (.invokestatic 69, 3) := by decide +kernel
theorem dX4_setScore_6 : decode cX4_setScore 6 = .ok (.istore_n 3, 1) := by decide +kernel
theorem dX4_setScore_7 : decode cX4_setScore 7 = .ok (.iload_n 2, 1) := by decide +kernel
theorem dX4_setScore_8 : decode cX4_setScore 8 = .ok (.bipush 8, 2) := by decide +kernel
theorem dX4_setScore_10 : decode cX4_setScore 10 = .ok (.bipush 16, 2) := by decide +kernel
theorem dX4_setScore_12 : decode cX4_setScore 12 = .ok (.invokestatic 69, 3) := by decide +kernel
theorem dX4_setScore_15 : decode cX4_setScore 15 = .ok (.istore 4, 2) := by decide +kernel
theorem dX4_setScore_17 : decode cX4_setScore 17 = .ok (.aload_n 0, 1) := by decide +kernel
theorem dX4_setScore_18 : decode cX4_setScore 18 = .ok (.iload_n 3, 1) := by decide +kernel
theorem dX4_setScore_19 : decode cX4_setScore 19 = .ok (.iload 4, 2) := by decide +kernel
theorem dX4_setScore_21 : decode cX4_setScore 21 = .ok (.iload_n 3, 1) := by decide +kernel
theorem dX4_setScore_22 : decode cX4_setScore 22 = .ok (.ifCond .eq 36, 3) := by decide +kernel
theorem dX4_setScore_25 : decode cX4_setScore 25 = .ok (.iload 4, 2) := by decide +kernel
theorem dX4_setScore_27 : decode cX4_setScore 27 = .ok (.ifCond .eq 31, 3) := by decide +kernel
theorem dX4_setScore_30 : decode cX4_setScore 30 = .ok (.aload_n 0, 1) := by decide +kernel
theorem dX4_setScore_31 : decode cX4_setScore 31 = .ok (.invokevirtual 88, 3) := by decide +kernel
theorem dX4_setScore_34 : decode cX4_setScore 34 = .ok (.aload_n 0, 1) := by decide +kernel
theorem dX4_setScore_35 : decode cX4_setScore 35 = .ok (.getfield 7, 3) := by decide +kernel
theorem dX4_setScore_38 : decode cX4_setScore 38 = .ok (.iload_n 1, 1) := by decide +kernel
theorem dX4_setScore_39 : decode cX4_setScore 39 = .ok (.iaload, 1) := by decide +kernel
theorem dX4_setScore_40 : decode cX4_setScore 40 = .ok (.invokestatic 84, 3) := by decide +kernel
theorem dX4_setScore_43 : decode cX4_setScore 43 = .ok (.isub, 1) := by decide +kernel
theorem dX4_setScore_44 : decode cX4_setScore 44 = .ok (.iload_n 2, 1) := by decide +kernel
theorem dX4_setScore_45 : decode cX4_setScore 45 = .ok (.invokestatic 84, 3) := by decide +kernel
theorem dX4_setScore_48 : decode cX4_setScore 48 = .ok (.iadd, 1) := by decide +kernel
theorem dX4_setScore_49 : decode cX4_setScore 49 = .ok (.bipush 20, 2) := by decide +kernel
theorem dX4_setScore_51 : decode cX4_setScore 51 = .ok (.if_icmp .gt 7, 3) := by decide +kernel
theorem dX4_setScore_54 : decode cX4_setScore 54 = .ok (.iconst 1, 1) := by decide +kernel
theorem dX4_setScore_55 : decode cX4_setScore 55 = .ok (.goto 4, 3) := by decide +kernel
theorem dX4_setScore_58 : decode cX4_setScore 58 = .ok (.iconst 0, 1) := by decide +kernel
theorem dX4_setScore_59 : decode cX4_setScore 59 = .ok (.invokevirtual 77, 3) := by decide +kernel
theorem dX4_setScore_62 : decode cX4_setScore 62 = .ok (.ifCond .ne 5, 3) := by decide +kernel
theorem dX4_setScore_65 : decode cX4_setScore 65 = .ok (.iconst 0, 1) := by decide +kernel
theorem dX4_setScore_66 : decode cX4_setScore 66 = .ok (.ireturn, 1) := by decide +kernel
theorem dX4_setScore_67 : decode cX4_setScore 67 = .ok (.aload_n 0, 1) := by decide +kernel
theorem dX4_setScore_68 : decode cX4_setScore 68 = .ok (.getfield 7, 3) := by decide +kernel
theorem dX4_setScore_71 : decode cX4_setScore 71 = .ok (.iload_n 1, 1) := by decide +kernel
theorem dX4_setScore_72 : decode cX4_setScore 72 = .ok (.iload_n 2, 1) := by decide +kernel
theorem dX4_setScore_73 : decode cX4_setScore 73 = .ok (.iastore, 1) := by decide +kernel
theorem dX4_setScore_74 : decode cX4_setScore 74 = .ok (.bipush 20, 2) := by decide +kernel
theorem dX4_setScore_76 : decode cX4_setScore 76 = .ok (.aload_n 0, 1) := by decide +kernel
theorem dX4_setScore_77 : decode cX4_setScore 77 = .ok (.invokevirtual 88, 3) := by decide +kernel
theorem dX4_setScore_80 : decode cX4_setScore 80 = .ok (.isub, 1) := by decide +kernel
theorem dX4_setScore_81 : decode cX4_setScore 81 = .ok (.ireturn, 1) := by decide +kernel
theorem dX4_takeLevel_0 : decode cX4_takeLevel 0 = .ok (.aload_n 0, 1) := by decide +kernel
theorem dX4_takeLevel_1 : decode cX4_takeLevel 1 = .ok (.iload_n 1, 1) := by decide +kernel
theorem dX4_takeLevel_2 : decode cX4_takeLevel 2 = .ok (.invokestatic 92, 3) := by decide +kernel
theorem dX4_takeLevel_5 : decode cX4_takeLevel 5 = .ok (.aload_n 0, 1) := by decide +kernel
theorem dX4_takeLevel_6 : decode cX4_takeLevel 6 = .ok (.getfield 95, 3) := by decide +kernel
theorem dX4_takeLevel_9 : decode cX4_takeLevel 9 = .ok (.bipush 8, 2) := by decide +kernel
theorem dX4_takeLevel_11 : decode cX4_takeLevel 11 = .ok (.if_icmp .ge 7, 3) := by decide +kernel
theorem dX4_takeLevel_14 : decode cX4_takeLevel 14 = .ok (.iconst 1, 1) := by decide +kernel
theorem dX4_takeLevel_15 : decode cX4_takeLevel 15 = .ok (.goto 4, 3) := by decide +kernel
theorem dX4_takeLevel_18 : decode cX4_takeLevel 18 = .ok (.iconst 0, 1) := by decide +kernel
theorem dX4_takeLevel_19 : decode cX4_takeLevel 19 = .ok (.iconst 1, 1) := by decide +kernel
theorem dX4_takeLevel_20 : decode cX4_takeLevel 20 = .ok (.invokevirtual 77, 3) := by decide +kernel
theorem dX4_takeLevel_23 : decode cX4_takeLevel 23 = .ok (.ifCond .ne 5, 3) := by decide +kernel
theorem dX4_takeLevel_26 : decode cX4_takeLevel 26 = .ok (.iconst 0, 1) := by decide +kernel
theorem dX4_takeLevel_27 : decode cX4_takeLevel 27 = .ok (.ireturn, 1) := by decide +kernel
theorem dX4_takeLevel_28 : decode cX4_takeLevel 28 = .ok (.aload_n 0, 1) := by decide +kernel
theorem dX4_takeLevel_29 : decode cX4_takeLevel 29 = .ok (.getfield 13, 3) := by decide +kernel
theorem dX4_takeLevel_32 : decode cX4_takeLevel 32 = .ok (.aload_n 0, 1) := by decide +kernel
theorem dX4_takeLevel_33 : decode cX4_takeLevel 33 = .ok (.getfield 95, 3) := by decide +kernel
theorem dX4_takeLevel_36 : decode cX4_takeLevel 36 = .ok (.iload_n 1, 1) := by decide +kernel
theorem dX4_takeLevel_37 : decode cX4_takeLevel 37 = .ok (.iastore, 1) := by decide +kernel
theorem dX4_takeLevel_38 : decode cX4_takeLevel 38 = .ok (.aload_n 0, 1) := by decide +kernel
theorem dX4_takeLevel_39 : decode cX4_takeLevel 39 = .ok (.getfield 16, 3) := by decide +kernel
theorem dX4_takeLevel_42 : decode cX4_takeLevel 42 = .ok (.iload_n 1, 1) := by decide +kernel
theorem dX4_takeLevel_43 : decode cX4_takeLevel 43 = .ok (.dup2, 1) := by decide +kernel
theorem dX4_takeLevel_44 : decode cX4_takeLevel 44 = .ok (.iaload, 1) := by decide +kernel
theorem dX4_takeLevel_45 : decode cX4_takeLevel 45 = .ok (.iconst 1, 1) := by decide +kernel
theorem dX4_takeLevel_46 : decode cX4_takeLevel 46 = .ok (.iadd, 1) := by decide +kernel
theorem dX4_takeLevel_47 : decode cX4_takeLevel 47 = .ok (.iastore, 1) := by decide +kernel
theorem dX4_takeLevel_48 : decode cX4_takeLevel 48 = .ok (.aload_n 0, 1) := by decide +kernel
theorem dX4_takeLevel_49 : decode cX4_takeLevel 49 = .ok (.dup, 1) := by decide +kernel
theorem dX4_takeLevel_50 : decode cX4_takeLevel 50 = .ok (.getfield 95, 3) := by decide +kernel
theorem dX4_takeLevel_53 : decode cX4_takeLevel 53 = .ok (.iconst 1, 1) := by decide +kernel
theorem dX4_takeLevel_54 : decode cX4_takeLevel 54 = .ok (.iadd, 1) := by decide +kernel
theorem dX4_takeLevel_55 : decode cX4_takeLevel 55 = .ok (.putfield 95, 3) := by decide +kernel
theorem dX4_takeLevel_58 : decode cX4_takeLevel 58 = .ok (.aload_n 0, 1) := by decide +kernel
theorem dX4_takeLevel_59 : decode cX4_takeLevel 59 = .ok (.getfield 95, 3) := by decide +kernel
theorem dX4_takeLevel_62 : decode cX4_takeLevel 62 = .ok (.ireturn, 1) := by decide +kernel
theorem dX4_areScores_0 : decode cX4_areScores 0 = .ok (.aload_n 0, 1) := by decide +kernel
theorem dX4_areScores_1 : decode cX4_areScores 1 = .ok (.getfield 19, 3) := by decide +kernel
theorem dX4_areScores_4 : decode cX4_areScores 4 = .ok (.iload_n 1, 1) := by decide +kernel
theorem dX4_areScores_5 : decode cX4_areScores 5 = .ok (.iaload, 1) := by decide +kernel
theorem dX4_areScores_6 : decode cX4_areScores 6 = .ok (.iconst (-1), 1) := by decide +kernel
theorem dX4_areScores_7 : decode cX4_areScores 7 = .ok (.if_icmp .eq 23, 3) := by decide +kernel
theorem dX4_areScores_10 : decode cX4_areScores 10 = .ok (.aload_n 0, 1) := by decide +kernel
theorem dX4_areScores_11 : decode cX4_areScores 11 = .ok (.getfield 7, 3) := by decide +kernel
theorem dX4_areScores_14 : decode cX4_areScores 14 = .ok (.aload_n 0, 1) := by decide +kernel
theorem dX4_areScores_15 : decode cX4_areScores 15 = .ok (.getfield 19, 3) := by decide +kernel
theorem dX4_areScores_18 : decode cX4_areScores 18 = .ok (.iload_n 1, 1) := by decide +kernel
theorem dX4_areScores_19 : decode cX4_areScores 19 = .ok (.iaload, 1) := by decide +kernel
theorem dX4_areScores_20 : decode cX4_areScores 20 = .ok (.iaload, 1) := by decide +kernel
theorem dX4_areScores_21 : decode cX4_areScores 21 = .ok (.aload_n 0, 1) := by decide +kernel
theorem dX4_areScores_22 : decode cX4_areScores 22 = .ok (.getfield 22, 3) := by decide +kernel
theorem dX4_areScores_25 : decode cX4_areScores 25 = .ok (.iload_n 1, 1) := by decide +kernel
theorem dX4_areScores_26 : decode cX4_areScores 26 = .ok (.iaload, 1) := by decide +kernel
theorem dX4_areScores_27 : decode cX4_areScores 27 = .ok (.if_icmp .lt 7, 3) := by decide +kernel
theorem dX4_areScores_30 : decode cX4_areScores 30 = .ok (.iconst 1, 1) := by decide +kernel
theorem dX4_areScores_31 : decode cX4_areScores 31 = .ok (.goto 4, 3) := by decide +kernel
theorem dX4_areScores_34 : decode cX4_areScores 34 = .ok (.iconst 0, 1) := by decide +kernel
theorem dX4_areScores_35 : decode cX4_areScores 35 = .ok (.ireturn, 1) := by decide +kernel
theorem dX4_mayTake_0 : decode cX4_mayTake 0 = .ok (.aload_n 0, 1) := by decide +kernel
theorem dX4_mayTake_1 : decode cX4_mayTake 1 = .ok (.getfield 25, 3) := by decide +kernel
theorem dX4_mayTake_4 : decode cX4_mayTake 4 = .ok (.iload_n 1, 1) := by decide +kernel
theorem dX4_mayTake_5 : decode cX4_mayTake 5 = .ok (.iaload, 1) := by decide +kernel
theorem dX4_mayTake_6 : decode cX4_mayTake 6 = .ok (.istore 6, 2) := by decide +kernel
theorem dX4_mayTake_8 : decode cX4_mayTake 8 = .ok (.aload_n 0, 1) := by decide +kernel
theorem dX4_mayTake_9 : decode cX4_mayTake 9 = .ok (.getfield 34, 3) := by decide +kernel
theorem dX4_mayTake_12 : decode cX4_mayTake 12 = .ok (.iload_n 1, 1) := by decide +kernel
theorem dX4_mayTake_13 : decode cX4_mayTake 13 = .ok (.iaload, 1) := by decide +kernel
theorem dX4_mayTake_14 : decode cX4_mayTake 14 = .ok (.istore 7, 2) := by decide +kernel
theorem dX4_mayTake_16 : decode cX4_mayTake 16 = .ok (.iload 6, 2) := by decide +kernel
theorem dX4_mayTake_18 : decode cX4_mayTake 18 = .ok (.ifCond .ne 7, 3) := by decide +kernel
theorem dX4_mayTake_21 : decode cX4_mayTake 21 = .ok (.iload_n 2, 1) := by decide +kernel
theorem dX4_mayTake_22 : decode cX4_mayTake 22 = .ok (.goto 15, 3) := by decide +kernel
theorem dX4_mayTake_25 : decode cX4_mayTake 25 = .ok (.iload 6, 2) := by decide +kernel
theorem dX4_mayTake_27 : decode cX4_mayTake 27 = .ok (.iconst 1, 1) := by decide +kernel
theorem dX4_mayTake_28 : decode cX4_mayTake 28 = .ok (.if_icmp .ne 7, 3) := by decide +kernel
theorem dX4_mayTake_31 : decode cX4_mayTake 31 = .ok (.iload_n 3, 1) := by decide +kernel
theorem dX4_mayTake_32 : decode cX4_mayTake 32 = .ok (.goto 5, 3) := by decide +kernel
theorem dX4_mayTake_35 : decode cX4_mayTake 35 = .ok (.iload 4, 2) := by decide +kernel
theorem dX4_mayTake_37 : decode cX4_mayTake 37 = .ok (.istore 8, 2) := by decide +kernel
theorem dX4_mayTake_39 : decode cX4_mayTake 39 = .ok (.iload 7, 2) := by decide +kernel
theorem dX4_mayTake_41 : decode cX4_mayTake 41 = .ok (.ifCond .ne 7, 3) := by decide +kernel
theorem dX4_mayTake_44 : decode cX4_mayTake 44 = .ok (.iload_n 2, 1) := by decide +kernel
theorem dX4_mayTake_45 : decode cX4_mayTake 45 = .ok (.goto 15, 3) := by decide +kernel
theorem dX4_mayTake_48 : decode cX4_mayTake 48 = .ok (.iload 7, 2) := by decide +kernel
theorem dX4_mayTake_50 : decode cX4_mayTake 50 = .ok (.iconst 1, 1) := by decide +kernel
theorem dX4_mayTake_51 : decode cX4_mayTake 51 = .ok (.if_icmp .ne 7, 3) := by decide +kernel
theorem dX4_mayTake_54 : decode cX4_mayTake 54 = .ok (.iload_n 3, 1) := by decide +kernel
theorem dX4_mayTake_55 : decode cX4_mayTake 55 = .ok (.goto 5, 3) := by decide +kernel
theorem dX4_mayTake_58 : decode cX4_mayTake 58 = .ok (.iload 4, 2) := by decide +kernel
theorem dX4_mayTake_60 : decode cX4_mayTake 60 = .ok (.istore 9, 2) := by decide +kernel
theorem dX4_mayTake_62 : decode cX4_mayTake 62 = .ok (.iload 5, 2) := by decide +kernel
theorem dX4_mayTake_64 : decode cX4_mayTake 64 = .ok (.invokestatic 98, 3) := by decide +kernel
theorem dX4_mayTake_67 : decode cX4_mayTake 67 = .ok (.iconst 1, 1) := by decide +kernel
theorem dX4_mayTake_68 : decode cX4_mayTake 68 = .ok (.iload_n 2, 1) := by decide +kernel
theorem dX4_mayTake_69 : decode cX4_mayTake 69 = .ok (.iload_n 3, 1) := by decide +kernel
theorem dX4_mayTake_70 : decode cX4_mayTake 70 = .ok (.iadd, 1) := by decide +kernel
theorem dX4_mayTake_71 : decode cX4_mayTake 71 = .ok (.iload 4, 2) := by decide +kernel
theorem dX4_mayTake_73 : decode cX4_mayTake 73 = .ok (.iadd, 1) := by decide +kernel
theorem dX4_mayTake_74 : decode cX4_mayTake 74 = .ok (.invokestatic 101, 3) := by decide +kernel
theorem dX4_mayTake_77 : decode cX4_mayTake 77 = .ok (.iadd, 1) := by decide +kernel
theorem dX4_mayTake_78 : decode cX4_mayTake 78 = .ok (.if_icmp .ge 7, 3) := by decide +kernel
theorem dX4_mayTake_81 : decode cX4_mayTake 81 = .ok (.iconst 1, 1) := by decide +kernel
theorem dX4_mayTake_82 : decode cX4_mayTake 82 = .ok (.goto 4, 3) := by decide +kernel
theorem dX4_mayTake_85 : decode cX4_mayTake 85 = .ok (.iconst 0, 1) := by decide +kernel
theorem dX4_mayTake_86 : decode cX4_mayTake 86 = .ok (.istore 10, 2) := by decide +kernel
theorem dX4_mayTake_88 : decode cX4_mayTake 88 = .ok (.aload_n 0, 1) := by decide +kernel
theorem dX4_mayTake_89 : decode cX4_mayTake 89 = .ok (.iload_n 1, 1) := by decide +kernel
theorem dX4_mayTake_90 : decode cX4_mayTake 90 = .ok (.invokevirtual 104, 3) := by decide +kernel
theorem dX4_mayTake_93 : decode cX4_mayTake 93 = .ok (.ifCond .eq 48, 3) := by decide +kernel
theorem dX4_mayTake_96 : decode cX4_mayTake 96 = .ok (.iload 6, 2) := by decide +kernel
theorem dX4_mayTake_98 : decode cX4_mayTake 98 = .ok (.iconst (-1), 1) := by decide +kernel
theorem dX4_mayTake_99 : decode cX4_mayTake 99 = .ok (.if_icmp .eq 14, 3) := by decide +kernel
theorem dX4_mayTake_102 : decode cX4_mayTake 102 = .ok (.iload 8, 2) := by decide +kernel
theorem dX4_mayTake_104 : decode cX4_mayTake 104 = .ok (.aload_n 0, 1) := by decide +kernel
theorem dX4_mayTake_105 : decode cX4_mayTake 105 = .ok (.getfield 28, 3) := by decide +kernel
theorem dX4_mayTake_108 : decode cX4_mayTake 108 = .ok (.iload_n 1, 1) := by decide +kernel
theorem dX4_mayTake_109 : decode cX4_mayTake 109 = .ok (.iaload, 1) := by decide +kernel
theorem dX4_mayTake_110 : decode cX4_mayTake 110 = .ok (.if_icmp .lt 31, 3) := by decide +kernel
theorem dX4_mayTake_113 : decode cX4_mayTake 113 = .ok (.aload_n 0, 1) := by decide +kernel
theorem dX4_mayTake_114 : decode cX4_mayTake 114 = .ok (.getfield 31, 3) := by decide +kernel
theorem dX4_mayTake_117 : decode cX4_mayTake 117 = .ok (.iload_n 1, 1) := by decide +kernel
theorem dX4_mayTake_118 : decode cX4_mayTake 118 = .ok (.iaload, 1) := by decide +kernel
theorem dX4_mayTake_119 : decode cX4_mayTake 119 = .ok (.iconst (-1), 1) := by decide +kernel
theorem dX4_mayTake_120 : decode cX4_mayTake 120 = .ok (.if_icmp .eq 17, 3) := by decide +kernel
theorem dX4_mayTake_123 : decode cX4_mayTake 123 = .ok (.iload 5, 2) := by decide +kernel
theorem dX4_mayTake_125 : decode cX4_mayTake 125 = .ok (.aload_n 0, 1) := by decide +kernel
theorem dX4_mayTake_126 : decode cX4_mayTake 126 = .ok (.getfield 31, 3) := by decide +kernel
theorem dX4_mayTake_129 : decode cX4_mayTake 129 = .ok (.iload_n 1, 1) := by decide +kernel
theorem dX4_mayTake_130 : decode cX4_mayTake 130 = .ok (.iaload, 1) := by decide +kernel
theorem dX4_mayTake_131 : decode cX4_mayTake 131 = .ok (.invokestatic 107, 3) := by decide +kernel
theorem dX4_mayTake_134 : decode cX4_mayTake 134 = .ok (.ifCond .eq 7, 3) := by decide +kernel
theorem dX4_mayTake_137 : decode cX4_mayTake 137 = .ok (.iconst 1, 1) := by decide +kernel
theorem dX4_mayTake_138 : decode cX4_mayTake 138 = .ok (.goto 4, 3) := by decide +kernel
theorem dX4_mayTake_141 : decode cX4_mayTake 141 = .ok (.iconst 0, 1) := by decide +kernel
theorem dX4_mayTake_142 : decode cX4_mayTake 142 = .ok (.istore 11, 2) := by decide +kernel
theorem dX4_mayTake_144 : decode cX4_mayTake 144 = .ok (.iload 5, 2) := by decide +kernel
theorem dX4_mayTake_146 : decode cX4_mayTake 146 = .ok (.iload_n 1, 1) := by decide +kernel
theorem dX4_mayTake_147 : decode cX4_mayTake 147 = .ok (.invokestatic 107, 3) := by decide +kernel
theorem dX4_mayTake_150 : decode cX4_mayTake 150 = .ok (.ifCond .ne 34, 3) := by decide +kernel
theorem dX4_mayTake_153 : decode cX4_mayTake 153 = .ok (.iload 10, 2) := by decide +kernel
theorem dX4_mayTake_155 : decode cX4_mayTake 155 = .ok (.ifCond .eq 29, 3) := by decide +kernel
theorem dX4_mayTake_158 : decode cX4_mayTake 158 = .ok (.iload 11, 2) := by decide +kernel
theorem dX4_mayTake_160 : decode cX4_mayTake 160 = .ok (.ifCond .eq 24, 3) := by decide +kernel
theorem dX4_mayTake_163 : decode cX4_mayTake 163 = .ok (.iload 7, 2) := by decide +kernel
theorem dX4_mayTake_165 : decode cX4_mayTake 165 = .ok (.iconst (-1), 1) := by decide +kernel
theorem dX4_mayTake_166 : decode cX4_mayTake 166 = .ok (.if_icmp .eq 14, 3) := by decide +kernel
theorem dX4_mayTake_169 : decode cX4_mayTake 169 = .ok (.iload 9, 2) := by decide +kernel
theorem dX4_mayTake_171 : decode cX4_mayTake 171 = .ok (.aload_n 0, 1) := by decide +kernel
theorem dX4_mayTake_172 : decode cX4_mayTake 172 = .ok (.getfield 37, 3) := by decide +kernel
theorem dX4_mayTake_175 : decode cX4_mayTake 175 = .ok (.iload_n 1, 1) := by decide +kernel
theorem dX4_mayTake_176 : decode cX4_mayTake 176 = .ok (.iaload, 1) := by decide +kernel
theorem dX4_mayTake_177 : decode cX4_mayTake 177 = .ok (.if_icmp .gt 7, 3) := by decide +kernel
theorem dX4_mayTake_180 : decode cX4_mayTake 180 = .ok (.iconst 1, 1) := by decide +kernel
theorem dX4_mayTake_181 : decode cX4_mayTake 181 = .ok (.goto 4, 3) := by decide +kernel
theorem dX4_mayTake_184 : decode cX4_mayTake 184 = .ok (.iconst 0, 1) := by decide +kernel
theorem dX4_mayTake_185 : decode cX4_mayTake 185 = .ok (.ireturn, 1) := by decide +kernel
theorem dX4_mayTakeNow_0 : decode cX4_mayTakeNow 0 = .ok (.aload_n 0, 1) := by decide +kernel
theorem dX4_mayTakeNow_1 : decode cX4_mayTakeNow 1 = .ok (.iload_n 1, 1) := by decide +kernel
theorem dX4_mayTakeNow_2 : decode cX4_mayTakeNow 2 = .ok (.aload_n 0, 1) := by decide +kernel
theorem dX4_mayTakeNow_3 : decode cX4_mayTakeNow 3 = .ok (.getfield 16, 3) := by decide +kernel
theorem dX4_mayTakeNow_6 : decode cX4_mayTakeNow 6 = .ok (.iconst 0, 1) := by decide +kernel
theorem dX4_mayTakeNow_7 : decode cX4_mayTakeNow 7 = .ok (.iaload, 1) := by decide +kernel
theorem dX4_mayTakeNow_8 : decode cX4_mayTakeNow 8 = .ok (.aload_n 0, 1) := by decide +kernel
theorem dX4_mayTakeNow_9 : decode cX4_mayTakeNow 9 = .ok (.getfield 16, 3) := by decide +kernel
theorem dX4_mayTakeNow_12 : decode cX4_mayTakeNow 12 = .ok (.iconst 1, 1) := by decide +kernel
theorem dX4_mayTakeNow_13 : decode cX4_mayTakeNow 13 = .ok (.iaload, 1) := by decide +kernel
theorem dX4_mayTakeNow_14 : decode cX4_mayTakeNow 14 = .ok (.aload_n 0, 1) := by decide +kernel
theorem dX4_mayTakeNow_15 : decode cX4_mayTakeNow 15 = .ok (.getfield 16, 3) := by decide +kernel
theorem dX4_mayTakeNow_18 : decode cX4_mayTakeNow 18 = .ok (.iconst 2, 1) := by decide +kernel
theorem dX4_mayTakeNow_19 : decode cX4_mayTakeNow 19 = .ok (.iaload, 1) := by decide +kernel
theorem dX4_mayTakeNow_20 : decode cX4_mayTakeNow 20 = .ok (.aload_n 0, 1) := by decide +kernel
theorem dX4_mayTakeNow_21 : decode cX4_mayTakeNow 21 = .ok (.getfield 111, 3) := by decide +kernel
theorem dX4_mayTakeNow_24 : decode cX4_mayTakeNow 24 = .ok (.invokevirtual 114, 3) := by decide +kernel
theorem dX4_mayTakeNow_27 : decode cX4_mayTakeNow 27 = .ok (.ireturn, 1) := by decide +kernel
theorem dX4_takeGift_0 : decode cX4_takeGift 0 = .ok (.iload_n 1, 1) := by decide +kernel
theorem dX4_takeGift_1 : decode cX4_takeGift 1 = .ok (.invokestatic 73, 3) := by decide +kernel
theorem dX4_takeGift_4 : decode cX4_takeGift 4 = .ok (.istore_n 2, 1) := by decide +kernel
theorem dX4_takeGift_5 : decode cX4_takeGift 5 = .ok (.aload_n 0, 1) := by decide +kernel
theorem dX4_takeGift_6 : decode cX4_takeGift 6 = .ok (.iload_n 2, 1) := by decide +kernel
theorem dX4_takeGift_7 : decode cX4_takeGift 7 = .ok (.iload_n 2, 1) := by decide +kernel
theorem dX4_takeGift_8 : decode cX4_takeGift 8 = .ok (.ifCond .eq 15, 3) := by decide +kernel
theorem dX4_takeGift_11 : decode cX4_takeGift 11 = .ok (.aload_n 0, 1) := by decide +kernel
theorem dX4_takeGift_12 : decode cX4_takeGift 12 = .ok (.iload_n 1, 1) := by decide +kernel
theorem dX4_takeGift_13 : decode cX4_takeGift 13 = .ok (.invokevirtual 118, 3) := by decide +kernel
theorem dX4_takeGift_16 : decode cX4_takeGift 16 = .ok (.ifCond .eq 7, 3) := by decide +kernel
theorem dX4_takeGift_19 : decode cX4_takeGift 19 = .ok (.iconst 1, 1) := by decide +kernel
theorem dX4_takeGift_20 : decode cX4_takeGift 20 = .ok (.goto 4, 3) := by decide +kernel
theorem dX4_takeGift_23 : decode cX4_takeGift 23 = .ok (.iconst 0, 1) := by decide +kernel
theorem dX4_takeGift_24 : decode cX4_takeGift 24 = .ok (.iconst 1, 1) := by decide +kernel
theorem dX4_takeGift_25 : decode cX4_takeGift 25 = .ok (.invokevirtual 77, 3) := by decide +kernel
theorem dX4_takeGift_28 : decode cX4_takeGift 28 = .ok (.ifCond .ne 5, 3) := by decide +kernel
theorem dX4_takeGift_31 : decode cX4_takeGift 31 = .ok (.iconst 0, 1) := by decide +kernel
theorem dX4_takeGift_32 : decode cX4_takeGift 32 = .ok (.ireturn, 1) := by decide +kernel
theorem dX4_takeGift_33 : decode cX4_takeGift 33 = .ok (.aload_n 0, 1) := by decide +kernel
theorem dX4_takeGift_34 : decode cX4_takeGift 34 = .ok (.dup, 1) := by decide +kernel
theorem dX4_takeGift_35 : decode cX4_takeGift 35 = .ok (.getfield 111, 3) := by decide +kernel
theorem dX4_takeGift_38 : decode cX4_takeGift 38 = .ok (.iconst 1, 1) := by decide +kernel
theorem dX4_takeGift_39 : decode cX4_takeGift 39 = .ok (.iload_n 1, 1) := by decide +kernel
theorem dX4_takeGift_40 : decode cX4_takeGift 40 = .ok (.ishl, 1) := by decide +kernel
theorem dX4_takeGift_41 : decode cX4_takeGift 41 = .ok (.ior, 1) := by decide +kernel
theorem dX4_takeGift_42 : decode cX4_takeGift 42 = .ok (.putfield 111, 3) := by decide +kernel
theorem dX4_takeGift_45 : decode cX4_takeGift 45 = .ok (.aload_n 0, 1) := by decide +kernel
theorem dX4_takeGift_46 : decode cX4_takeGift 46 = .ok (.getfield 111, 3) := by decide +kernel
theorem dX4_takeGift_49 : decode cX4_takeGift 49 = .ok (.invokestatic 98, 3) := by decide +kernel
theorem dX4_takeGift_52 : decode cX4_takeGift 52 = .ok (.ireturn, 1) := by decide +kernel
theorem dX4_loseLevel_0 : decode cX4_loseLevel 0 = .ok (.aload_n 0, 1) := by decide +kernel
theorem dX4_loseLevel_1 : decode cX4_loseLevel 1 = .ok (.aload_n 0, 1) := by decide +kernel
theorem dX4_loseLevel_2 : decode cX4_loseLevel 2 = .ok (.getfield 95, 3) := by decide +kernel
theorem dX4_loseLevel_5 : decode cX4_loseLevel 5 = .ok (.ifCond .le 7, 3) := by decide +kernel
theorem dX4_loseLevel_8 : decode cX4_loseLevel 8 = .ok (.iconst 1, 1) := by decide +kernel
theorem dX4_loseLevel_9 : decode cX4_loseLevel 9 = .ok (.goto 4, 3) := by decide +kernel
theorem dX4_loseLevel_12 : decode cX4_loseLevel 12 = .ok (.iconst 0, 1) := by decide +kernel
theorem dX4_loseLevel_13 : decode cX4_loseLevel 13 = .ok (.iconst 1, 1) := by decide +kernel
theorem dX4_loseLevel_14 : decode cX4_loseLevel 14 = .ok (.iconst 1, 1) := by decide +kernel
theorem dX4_loseLevel_15 : decode cX4_loseLevel 15 = .ok (.invokevirtual 77, 3) := by decide +kernel
theorem dX4_loseLevel_18 : decode cX4_loseLevel 18 = .ok (.ifCond .ne 5, 3) := by decide +kernel
theorem dX4_loseLevel_21 : decode cX4_loseLevel 21 = .ok (.iconst 0, 1) := by decide +kernel
theorem dX4_loseLevel_22 : decode cX4_loseLevel 22 = .ok (.ireturn, 1) := by decide +kernel
theorem dX4_loseLevel_23 : decode cX4_loseLevel 23 = .ok (.aload_n 0, 1) := by decide +kernel
theorem dX4_loseLevel_24 : decode cX4_loseLevel 24 = .ok (.dup, 1) := by decide +kernel
theorem dX4_loseLevel_25 : decode cX4_loseLevel 25 = .ok (.getfield 95, 3) := by decide +kernel
theorem dX4_loseLevel_28 : decode cX4_loseLevel 28 = .ok (.iconst 1, 1) := by decide +kernel
theorem dX4_loseLevel_29 : decode cX4_loseLevel 29 = .ok (.isub, 1) := by decide +kernel
theorem dX4_loseLevel_30 : decode cX4_loseLevel 30 = .ok (.putfield 95, 3) := by decide +kernel
theorem dX4_loseLevel_33 : decode cX4_loseLevel 33 = .ok (.aload_n 0, 1) := by decide +kernel
theorem dX4_loseLevel_34 : decode cX4_loseLevel 34 = .ok (.getfield 16, 3) := by decide +kernel
theorem dX4_loseLevel_37 : decode cX4_loseLevel 37 = .ok (.aload_n 0, 1) := by decide +kernel
theorem dX4_loseLevel_38 : decode cX4_loseLevel 38 = .ok (.getfield 13, 3) := by decide +kernel
theorem dX4_loseLevel_41 : decode cX4_loseLevel 41 = .ok (.aload_n 0, 1) := by decide +kernel
theorem dX4_loseLevel_42 : decode cX4_loseLevel 42 = .ok (.getfield 95, 3) := by decide +kernel
theorem dX4_loseLevel_45 : decode cX4_loseLevel 45 = .ok (.iaload, 1) := by decide +kernel
theorem dX4_loseLevel_46 : decode cX4_loseLevel 46 = .ok (.dup2, 1) := by decide +kernel
theorem dX4_loseLevel_47 : decode cX4_loseLevel 47 = .ok (.iaload, 1) := by decide +kernel
theorem dX4_loseLevel_48 : decode cX4_loseLevel 48 = .ok (.iconst 1, 1) := by decide +kernel
theorem dX4_loseLevel_49 : decode cX4_loseLevel 49 = .ok (.isub, 1) := by decide +kernel
theorem dX4_loseLevel_50 : decode cX4_loseLevel 50 = .ok (.iastore, 1) := by decide +kernel
theorem dX4_loseLevel_51 : decode cX4_loseLevel 51 = .ok (.aload_n 0, 1) := by decide +kernel
theorem dX4_loseLevel_52 : decode cX4_loseLevel 52 = .ok (.getfield 13, 3) := by decide +kernel
theorem dX4_loseLevel_55 : decode cX4_loseLevel 55 = .ok (.aload_n 0, 1) := by decide +kernel
theorem dX4_loseLevel_56 : decode cX4_loseLevel 56 = .ok (.getfield 95, 3) := by decide +kernel
theorem dX4_loseLevel_59 : decode cX4_loseLevel 59 = .ok (.iaload, 1) := by decide +kernel
theorem dX4_loseLevel_60 : decode cX4_loseLevel 60 = .ok (.ireturn, 1) := by decide +kernel
theorem dX4_workingOf_0 : decode cX4_workingOf 0 = .ok (.iconst 0, 1) := by decide +kernel
theorem dX4_workingOf_1 : decode cX4_workingOf 1 = .ok (.istore_n 2, 1) := by decide +kernel
theorem dX4_workingOf_2 : decode cX4_workingOf 2 = .ok (.iconst 0, 1) := by decide +kernel
theorem dX4_workingOf_3 : decode cX4_workingOf 3 = .ok (.istore_n 3, 1) := by decide +kernel
theorem dX4_workingOf_4 : decode cX4_workingOf 4 = .ok (.iload_n 3, 1) := by decide +kernel
theorem dX4_workingOf_5 : decode cX4_workingOf 5 = .ok (.bipush 8, 2) := by decide +kernel
theorem dX4_workingOf_7 : decode cX4_workingOf 7 = .ok (.if_icmp .ge 124, 3) := by decide +kernel
theorem dX4_workingOf_10 : decode cX4_workingOf 10 = .ok (.iconst 0, 1) := by decide +kernel
theorem dX4_workingOf_11 : decode cX4_workingOf 11 = .ok (.istore 4, 2) := by decide +kernel
theorem dX4_workingOf_13 : decode cX4_workingOf 13 = .ok (.iload 4, 2) := by decide +kernel
theorem dX4_workingOf_15 : decode cX4_workingOf 15 = .ok (.bipush 8, 2) := by decide +kernel
theorem dX4_workingOf_17 : decode cX4_workingOf 17 = .ok (.if_icmp .ge 108, 3) := by decide +kernel
theorem dX4_workingOf_20 : decode cX4_workingOf 20 = .ok (.iload_n 1, 1) := by decide +kernel
theorem dX4_workingOf_21 : decode cX4_workingOf 21 = .ok (.iload 4, 2) := by decide +kernel
theorem dX4_workingOf_23 : decode cX4_workingOf 23 = .ok (.invokestatic 107, 3) := by decide +kernel
theorem dX4_workingOf_26 : decode cX4_workingOf 26 = .ok (.ifCond .eq 49, 3) := by decide +kernel
theorem dX4_workingOf_29 : decode cX4_workingOf 29 = .ok (.aload_n 0, 1) := by decide +kernel
theorem dX4_workingOf_30 : decode cX4_workingOf 30 = .ok (.iload 4, 2) := by decide +kernel
theorem dX4_workingOf_32 : decode cX4_workingOf 32 = .ok (.invokevirtual 104, 3) := by decide +kernel
theorem dX4_workingOf_35 : decode cX4_workingOf 35 = .ok (.ifCond .eq 40, 3) := by decide +kernel
theorem dX4_workingOf_38 : decode cX4_workingOf 38 = .ok (.aload_n 0, 1) := by decide +kernel
theorem dX4_workingOf_39 : decode cX4_workingOf 39 = .ok (.getfield 25, 3) := by decide +kernel
theorem dX4_workingOf_42 : decode cX4_workingOf 42 = .ok (.iload 4, 2) := by decide +kernel
theorem dX4_workingOf_44 : decode cX4_workingOf 44 = .ok (.iaload, 1) := by decide +kernel
theorem dX4_workingOf_45 : decode cX4_workingOf 45 = .ok (.iconst (-1), 1) := by decide +kernel
theorem dX4_workingOf_46 : decode cX4_workingOf 46 = .ok (.if_icmp .eq 25, 3) := by decide +kernel
theorem dX4_workingOf_49 : decode cX4_workingOf 49 = .ok (.aload_n 0, 1) := by decide +kernel
theorem dX4_workingOf_50 : decode cX4_workingOf 50 = .ok (.getfield 16, 3) := by decide +kernel
theorem dX4_workingOf_53 : decode cX4_workingOf 53 = .ok (.aload_n 0, 1) := by decide +kernel
theorem dX4_workingOf_54 : decode cX4_workingOf 54 = .ok (.getfield 25, 3) := by decide +kernel
theorem dX4_workingOf_57 : decode cX4_workingOf 57 = .ok (.iload 4, 2) := by decide +kernel
theorem dX4_workingOf_59 : decode cX4_workingOf 59 = .ok (.iaload, 1) := by decide +kernel
theorem dX4_workingOf_60 : decode cX4_workingOf 60 = .ok (.iaload, 1) := by decide +kernel
theorem dX4_workingOf_61 : decode cX4_workingOf 61 = .ok (.aload_n 0, 1) := by decide +kernel
theorem dX4_workingOf_62 : decode cX4_workingOf 62 = .ok (.getfield 28, 3) := by decide +kernel
theorem dX4_workingOf_65 : decode cX4_workingOf 65 = .ok (.iload 4, 2) := by decide +kernel
theorem dX4_workingOf_67 : decode cX4_workingOf 67 = .ok (.iaload, 1) := by decide +kernel
theorem dX4_workingOf_68 : decode cX4_workingOf 68 = .ok (.if_icmp .lt 7, 3) := by decide +kernel
theorem dX4_workingOf_71 : decode cX4_workingOf 71 = .ok (.iconst 1, 1) := by decide +kernel
theorem dX4_workingOf_72 : decode cX4_workingOf 72 = .ok (.goto 4, 3) := by decide +kernel
theorem dX4_workingOf_75 : decode cX4_workingOf 75 = .ok (.iconst 0, 1) := by decide +kernel
theorem dX4_workingOf_76 : decode cX4_workingOf 76 = .ok (.istore 5, 2) := by decide +kernel
theorem dX4_workingOf_78 : decode cX4_workingOf 78 = .ok (.iload_n 2, 1) := by decide +kernel
theorem dX4_workingOf_79 : decode cX4_workingOf 79 = .ok (.iload 5, 2) := by decide +kernel
theorem dX4_workingOf_81 : decode cX4_workingOf 81 = .ok (.ifCond .eq 35, 3) := by decide +kernel
theorem dX4_workingOf_84 : decode cX4_workingOf 84 = .ok (.aload_n 0, 1) := by decide +kernel
theorem dX4_workingOf_85 : decode cX4_workingOf 85 = .ok (.getfield 31, 3) := by decide +kernel
theorem dX4_workingOf_88 : decode cX4_workingOf 88 = .ok (.iload 4, 2) := by decide +kernel
theorem dX4_workingOf_90 : decode cX4_workingOf 90 = .ok (.iaload, 1) := by decide +kernel
theorem dX4_workingOf_91 : decode cX4_workingOf 91 = .ok (.iconst (-1), 1) := by decide +kernel
theorem dX4_workingOf_92 : decode cX4_workingOf 92 = .ok (.if_icmp .eq 17, 3) := by decide +kernel
theorem dX4_workingOf_95 : decode cX4_workingOf 95 = .ok (.iload_n 2, 1) := by decide +kernel
theorem dX4_workingOf_96 : decode cX4_workingOf 96 = .ok (.aload_n 0, 1) := by decide +kernel
theorem dX4_workingOf_97 : decode cX4_workingOf 97 = .ok (.getfield 31, 3) := by decide +kernel
theorem dX4_workingOf_100 : decode cX4_workingOf 100 = .ok (.iload 4, 2) := by decide +kernel
theorem dX4_workingOf_102 : decode cX4_workingOf 102 = .ok (.iaload, 1) := by decide +kernel
theorem dX4_workingOf_103 : decode cX4_workingOf 103 = .ok (.invokestatic 107, 3) := by decide +kernel
theorem dX4_workingOf_106 : decode cX4_workingOf 106 = .ok (.ifCond .eq 10, 3) := by decide +kernel
theorem dX4_workingOf_109 : decode cX4_workingOf 109 = .ok (.iconst 1, 1) := by decide +kernel
theorem dX4_workingOf_110 : decode cX4_workingOf 110 = .ok (.iload 4, 2) := by decide +kernel
theorem dX4_workingOf_112 : decode cX4_workingOf 112 = .ok (.ishl, 1) := by decide +kernel
theorem dX4_workingOf_113 : decode cX4_workingOf 113 = .ok (.goto 4, 3) := by decide +kernel
theorem dX4_workingOf_116 : decode cX4_workingOf 116 = .ok (.iconst 0, 1) := by decide +kernel
theorem dX4_workingOf_117 : decode cX4_workingOf 117 = .ok (.ior, 1) := by decide +kernel
theorem dX4_workingOf_118 : decode cX4_workingOf 118 = .ok (.istore_n 2, 1) := by decide +kernel
theorem dX4_workingOf_119 : decode cX4_workingOf 119 = .ok (.iinc 4 1, 3) := by decide +kernel
theorem dX4_workingOf_122 : decode cX4_workingOf 122 = .ok (.goto (-109), 3) := by decide +kernel
theorem dX4_workingOf_125 : decode cX4_workingOf 125 = .ok (.iinc 3 1, 3) := by decide +kernel
theorem dX4_workingOf_128 : decode cX4_workingOf 128 = .ok (.goto (-124), 3) := by decide +kernel
theorem dX4_workingOf_131 : decode cX4_workingOf 131 = .ok (.iload_n 2, 1) := by decide +kernel
theorem dX4_workingOf_132 : decode cX4_workingOf 132 = .ok (.ireturn, 1) := by decide +kernel
theorem dX4_exchange_0 : decode cX4_exchange 0 = .ok (.iload_n 1, 1) := by decide +kernel
theorem dX4_exchange_1 : decode cX4_exchange 1 = .ok (.invokestatic 73, 3) := by decide +kernel
theorem dX4_exchange_4 : decode cX4_exchange 4 = .ok (.ifCond .eq 14, 3) := by decide +kernel
theorem dX4_exchange_7 : decode cX4_exchange 7 = .ok (.iload_n 2, 1) := by decide +kernel
theorem dX4_exchange_8 : decode cX4_exchange 8 = .ok (.invokestatic 73, 3) := by decide +kernel
theorem dX4_exchange_11 : decode cX4_exchange 11 = .ok (.ifCond .eq 7, 3) := by decide +kernel
theorem dX4_exchange_14 : decode cX4_exchange 14 = .ok (.iconst 1, 1) := by decide +kernel
theorem dX4_exchange_15 : decode cX4_exchange 15 = .ok (.goto 4, 3) := by decide +kernel
theorem dX4_exchange_18 : decode cX4_exchange 18 = .ok (.iconst 0, 1) := by decide +kernel
theorem dX4_exchange_19 : decode cX4_exchange 19 = .ok (.istore_n 3, 1) := by decide +kernel
theorem dX4_exchange_20 : decode cX4_exchange 20 = .ok (.iload_n 3, 1) := by decide +kernel
theorem dX4_exchange_21 : decode cX4_exchange 21 = .ok (.ifCond .eq 29, 3) := by decide +kernel
theorem dX4_exchange_24 : decode cX4_exchange 24 = .ok (.aload_n 0, 1) := by decide +kernel
theorem dX4_exchange_25 : decode cX4_exchange 25 = .ok (.getfield 111, 3) := by decide +kernel
theorem dX4_exchange_28 : decode cX4_exchange 28 = .ok (.iload_n 1, 1) := by decide +kernel
theorem dX4_exchange_29 : decode cX4_exchange 29 = .ok (.invokestatic 107, 3) := by decide +kernel
theorem dX4_exchange_32 : decode cX4_exchange 32 = .ok (.ifCond .eq 18, 3) := by decide +kernel
theorem dX4_exchange_35 : decode cX4_exchange 35 = .ok (.aload_n 0, 1) := by decide +kernel
theorem dX4_exchange_36 : decode cX4_exchange 36 = .ok (.getfield 111, 3) := by decide +kernel
theorem dX4_exchange_39 : decode cX4_exchange 39 = .ok (.iload_n 2, 1) := by decide +kernel
theorem dX4_exchange_40 : decode cX4_exchange 40 = .ok (.invokestatic 107, 3) := by decide +kernel
theorem dX4_exchange_43 : decode cX4_exchange 43 = .ok (.ifCond .ne 7, 3) := by decide +kernel
theorem dX4_exchange_46 : decode cX4_exchange 46 = .ok (.iconst 1, 1) := by decide +kernel
theorem dX4_exchange_47 : decode cX4_exchange 47 = .ok (.goto 4, 3) := by decide +kernel
theorem dX4_exchange_50 : decode cX4_exchange 50 = .ok (.iconst 0, 1) := by decide +kernel
theorem dX4_exchange_51 : decode cX4_exchange 51 = .ok (.istore 4, 2) := by decide +kernel
theorem dX4_exchange_53 : decode cX4_exchange 53 = .ok (.iload 4, 2) := by decide +kernel
theorem dX4_exchange_55 : decode cX4_exchange 55 = .ok (.ifCond .eq 20, 3) := by decide +kernel
theorem dX4_exchange_58 : decode cX4_exchange 58 = .ok (.aload_n 0, 1) := by decide +kernel
theorem dX4_exchange_59 : decode cX4_exchange 59 = .ok (.getfield 111, 3) := by decide +kernel
theorem dX4_exchange_62 : decode cX4_exchange 62 = .ok (.iconst 1, 1) := by decide +kernel
theorem dX4_exchange_63 : decode cX4_exchange 63 = .ok (.iload_n 1, 1) := by decide +kernel
theorem dX4_exchange_64 : decode cX4_exchange 64 = .ok (.ishl, 1) := by decide +kernel
theorem dX4_exchange_65 : decode cX4_exchange 65 = .ok (.iconst (-1), 1) := by decide +kernel
theorem dX4_exchange_66 : decode cX4_exchange 66 = .ok (.ixor, 1) := by decide +kernel
theorem dX4_exchange_67 : decode cX4_exchange 67 = .ok (.iand, 1) := by decide +kernel
theorem dX4_exchange_68 : decode cX4_exchange 68 = .ok (.iconst 1, 1) := by decide +kernel
theorem dX4_exchange_69 : decode cX4_exchange 69 = .ok (.iload_n 2, 1) := by decide +kernel
theorem dX4_exchange_70 : decode cX4_exchange 70 = .ok (.ishl, 1) := by decide +kernel
theorem dX4_exchange_71 : decode cX4_exchange 71 = .ok (.ior, 1) := by decide +kernel
theorem dX4_exchange_72 : decode cX4_exchange 72 = .ok (.goto 4, 3) := by decide +kernel
theorem dX4_exchange_75 : decode cX4_exchange 75 = .ok (.iconst 0, 1) := by decide +kernel
theorem dX4_exchange_76 : decode cX4_exchange 76 = .ok (.istore 5, 2) := by decide +kernel
theorem dX4_exchange_78 : decode cX4_exchange 78 = .ok (.aload_n 0, 1) := by decide +kernel
theorem dX4_exchange_79 : decode cX4_exchange 79 = .ok (.iload_n 3, 1) := by decide +kernel
theorem dX4_exchange_80 : decode cX4_exchange 80 = .ok (.iload 4, 2) := by decide +kernel
theorem dX4_exchange_82 : decode cX4_exchange 82 = .ok (.ifCond .eq 16, 3) := by decide +kernel
theorem dX4_exchange_85 : decode cX4_exchange 85 = .ok (.aload_n 0, 1) := by decide +kernel
theorem dX4_exchange_86 : decode cX4_exchange 86 = .ok (.iload 5, 2) := by decide +kernel
theorem dX4_exchange_88 : decode cX4_exchange 88 = .ok (.invokevirtual 121, 3) := by decide +kernel
theorem dX4_exchange_91 : decode cX4_exchange 91 = .ok (.ifCond .eq 7, 3) := by decide +kernel
theorem dX4_exchange_94 : decode cX4_exchange 94 = .ok (.iconst 1, 1) := by decide +kernel
theorem dX4_exchange_95 : decode cX4_exchange 95 = .ok (.goto 4, 3) := by decide +kernel
theorem dX4_exchange_98 : decode cX4_exchange 98 = .ok (.iconst 0, 1) := by decide +kernel
theorem dX4_exchange_99 : decode cX4_exchange 99 = .ok (.iconst 1, 1) := by decide +kernel
theorem dX4_exchange_100 : decode cX4_exchange 100 = .ok (.invokevirtual 77, 3) := by decide +kernel
theorem dX4_exchange_103 : decode cX4_exchange 103 = .ok (.ifCond .ne 5, 3) := by decide +kernel
theorem dX4_exchange_106 : decode cX4_exchange 106 = .ok (.iconst 0, 1) := by decide +kernel
theorem dX4_exchange_107 : decode cX4_exchange 107 = .ok (.ireturn, 1) := by decide +kernel
theorem dX4_exchange_108 : decode cX4_exchange 108 = .ok (.aload_n 0, 1) := by decide +kernel
theorem dX4_exchange_109 : decode cX4_exchange 109 = .ok (.aload_n 0, 1) := by decide +kernel
theorem dX4_exchange_110 : decode cX4_exchange 110 = .ok (.getfield 111, 3) := by decide +kernel
theorem dX4_exchange_113 : decode cX4_exchange 113 = .ok (.invokevirtual 124, 3) := by decide +kernel
theorem dX4_exchange_116 : decode cX4_exchange 116 = .ok (.iconst 1, 1) := by decide +kernel
theorem dX4_exchange_117 : decode cX4_exchange 117 = .ok (.iload_n 1, 1) := by decide +kernel
theorem dX4_exchange_118 : decode cX4_exchange 118 = .ok (.ishl, 1) := by decide +kernel
theorem dX4_exchange_119 : decode cX4_exchange 119 = .ok (.iconst (-1), 1) := by decide +kernel
theorem dX4_exchange_120 : decode cX4_exchange 120 = .ok (.ixor, 1) := by decide +kernel
theorem dX4_exchange_121 : decode cX4_exchange 121 = .ok (.iand, 1) := by decide +kernel
theorem dX4_exchange_122 : decode cX4_exchange 122 = .ok (.istore 6, 2) := by decide +kernel
theorem dX4_exchange_124 : decode cX4_exchange 124 = .ok (.aload_n 0, 1) := by decide +kernel
theorem dX4_exchange_125 : decode cX4_exchange 125 = .ok (.iload 5, 2) := by decide +kernel
theorem dX4_exchange_127 : decode cX4_exchange 127 = .ok (.putfield 111, 3) := by decide +kernel
theorem dX4_exchange_130 : decode cX4_exchange 130 = .ok (.iload 6, 2) := by decide +kernel
theorem dX4_exchange_132 : decode cX4_exchange 132 = .ok (.aload_n 0, 1) := by decide +kernel
theorem dX4_exchange_133 : decode cX4_exchange 133 = .ok (.aload_n 0, 1) := by decide +kernel
theorem dX4_exchange_134 : decode cX4_exchange 134 = .ok (.getfield 111, 3) := by decide +kernel
theorem dX4_exchange_137 : decode cX4_exchange 137 = .ok (.invokevirtual 124, 3) := by decide +kernel
theorem dX4_exchange_140 : decode cX4_exchange 140 = .ok (.iconst (-1), 1) := by decide +kernel
theorem dX4_exchange_141 : decode cX4_exchange 141 = .ok (.ixor, 1) := by decide +kernel
theorem dX4_exchange_142 : decode cX4_exchange 142 = .ok (.iand, 1) := by decide +kernel
theorem dX4_exchange_143 : decode cX4_exchange 143 = .ok (.invokestatic 98, 3) := by decide +kernel
theorem dX4_exchange_146 : decode cX4_exchange 146 = .ok (.ireturn, 1) := by decide +kernel
theorem dX4_clear_0 : decode cX4_clear 0 = .ok (.aload_n 0, 1) := by decide +kernel
theorem dX4_clear_1 : decode cX4_clear 1 = .ok (.getfield 95, 3) := by decide +kernel
theorem dX4_clear_4 : decode cX4_clear 4 = .ok (.aload_n 0, 1) := by decide +kernel
theorem dX4_clear_5 : decode cX4_clear 5 = .ok (.getfield 111, 3) := by decide +kernel
theorem dX4_clear_8 : decode cX4_clear 8 = .ok (.invokestatic 98, 3) := by decide +kernel
theorem dX4_clear_11 : decode cX4_clear 11 = .ok (.iadd, 1) := by decide +kernel
theorem dX4_clear_12 : decode cX4_clear 12 = .ok (.istore_n 1, 1) := by decide +kernel
theorem dX4_clear_13 : decode cX4_clear 13 = .ok (.aload_n 0, 1) := by decide +kernel
theorem dX4_clear_14 : decode cX4_clear 14 = .ok (.iconst 0, 1) := by decide +kernel
theorem dX4_clear_15 : decode cX4_clear 15 = .ok (.putfield 95, 3) := by decide +kernel
theorem dX4_clear_18 : decode cX4_clear 18 = .ok (.aload_n 0, 1) := by decide +kernel
theorem dX4_clear_19 : decode cX4_clear 19 = .ok (.iconst 0, 1) := by decide +kernel
theorem dX4_clear_20 : decode cX4_clear 20 = .ok (.putfield 111, 3) := by decide +kernel
theorem dX4_clear_23 : decode cX4_clear 23 = .ok (.iconst 0, 1) := by decide +kernel
theorem dX4_clear_24 : decode cX4_clear 24 = .ok (.istore_n 2, 1) := by decide +kernel
theorem dX4_clear_25 : decode cX4_clear 25 = .ok (.iload_n 2, 1) := by decide +kernel
theorem dX4_clear_26 : decode cX4_clear 26 = .ok (.iconst 3, 1) := by decide +kernel
theorem dX4_clear_27 : decode cX4_clear 27 = .ok (.if_icmp .ge 16, 3) := by decide +kernel
theorem dX4_clear_30 : decode cX4_clear 30 = .ok (.aload_n 0, 1) := by decide +kernel
theorem dX4_clear_31 : decode cX4_clear 31 = .ok (.getfield 16, 3) := by decide +kernel
theorem dX4_clear_34 : decode cX4_clear 34 = .ok (.iload_n 2, 1) := by decide +kernel
theorem dX4_clear_35 : decode cX4_clear 35 = .ok (.iconst 0, 1) := by decide +kernel
theorem dX4_clear_36 : decode cX4_clear 36 = .ok (.iastore, 1) := by decide +kernel
theorem dX4_clear_37 : decode cX4_clear 37 = .ok (.iinc 2 1, 3) := by decide +kernel
theorem dX4_clear_40 : decode cX4_clear 40 = .ok (.goto (-15), 3) := by decide +kernel
theorem dX4_clear_43 : decode cX4_clear 43 = .ok (.aload_n 0, 1) := by decide +kernel
theorem dX4_clear_44 : decode cX4_clear 44 = .ok (.iload_n 1, 1) := by decide +kernel
theorem dX4_clear_45 : decode cX4_clear 45 = .ok (.invokevirtual 127, 3) := by decide +kernel
theorem dX4_clear_48 : decode cX4_clear 48 = .ok (.ireturn, 1) := by decide +kernel
theorem dX4_level_0 : decode cX4_level 0 = .ok (.aload_n 0, 1) := by decide +kernel
theorem dX4_level_1 : decode cX4_level 1 = .ok (.iload_n 1, 1) := by decide +kernel
theorem dX4_level_2 : decode cX4_level 2 = .ok (.invokestatic 92, 3) := by decide +kernel
theorem dX4_level_5 : decode cX4_level 5 = .ok (.iconst 1, 1) := by decide +kernel
theorem dX4_level_6 : decode cX4_level 6 = .ok (.iconst 1, 1) := by decide +kernel
theorem dX4_level_7 : decode cX4_level 7 = .ok (.invokevirtual 77, 3) := by decide +kernel
theorem dX4_level_10 : decode cX4_level 10 = .ok (.ifCond .eq 12, 3) := by decide +kernel
theorem dX4_level_13 : decode cX4_level 13 = .ok (.aload_n 0, 1) := by decide +kernel
theorem dX4_level_14 : decode cX4_level 14 = .ok (.getfield 16, 3) := by decide +kernel
theorem dX4_level_17 : decode cX4_level 17 = .ok (.iload_n 1, 1) := by decide +kernel
theorem dX4_level_18 : decode cX4_level 18 = .ok (.iaload, 1) := by decide +kernel
theorem dX4_level_19 : decode cX4_level 19 = .ok (.goto 4, 3) := by decide +kernel
theorem dX4_level_22 : decode cX4_level 22 = .ok (.iconst 0, 1) := by decide +kernel
theorem dX4_level_23 : decode cX4_level 23 = .ok (.ireturn, 1) := by decide +kernel
theorem dX4_gifts_0 : decode cX4_gifts 0 = .ok (.aload_n 0, 1) := by decide +kernel
theorem dX4_gifts_1 : decode cX4_gifts 1 = .ok (.aload_n 0, 1) := by decide +kernel
theorem dX4_gifts_2 : decode cX4_gifts 2 = .ok (.getfield 111, 3) := by decide +kernel
theorem dX4_gifts_5 : decode cX4_gifts 5 = .ok (.invokevirtual 127, 3) := by decide +kernel
theorem dX4_gifts_8 : decode cX4_gifts 8 = .ok (.ireturn, 1) := by decide +kernel
theorem dX4_working_0 : decode cX4_working 0 = .ok (.aload_n 0, 1) := by decide +kernel
theorem dX4_working_1 : decode cX4_working 1 = .ok (.aload_n 0, 1) := by decide +kernel
theorem dX4_working_2 : decode cX4_working 2 = .ok (.aload_n 0, 1) := by decide +kernel
theorem dX4_working_3 : decode cX4_working 3 = .ok (.getfield 111, 3) := by decide +kernel
theorem dX4_working_6 : decode cX4_working 6 = .ok (.invokevirtual 124, 3) := by decide +kernel
theorem dX4_working_9 : decode cX4_working 9 = .ok (.invokevirtual 127, 3) := by decide +kernel
theorem dX4_working_12 : decode cX4_working 12 = .ok (.ireturn, 1) := by decide +kernel
theorem dX4_open_0 : decode cX4_open 0 = .ok (.iconst 0, 1) := by decide +kernel
theorem dX4_open_1 : decode cX4_open 1 = .ok (.istore_n 1, 1) := by decide +kernel
theorem dX4_open_2 : decode cX4_open 2 = .ok (.iconst 0, 1) := by decide +kernel
theorem dX4_open_3 : decode cX4_open 3 = .ok (.istore_n 2, 1) := by decide +kernel
theorem dX4_open_4 : decode cX4_open 4 = .ok (.iload_n 2, 1) := by decide +kernel
theorem dX4_open_5 : decode cX4_open 5 = .ok (.bipush 8, 2) := by decide +kernel
theorem dX4_open_7 : decode cX4_open 7 = .ok (.if_icmp .ge 27, 3) := by decide +kernel
theorem dX4_open_10 : decode cX4_open 10 = .ok (.iload_n 1, 1) := by decide +kernel
theorem dX4_open_11 : decode cX4_open 11 = .ok (.aload_n 0, 1) := by decide +kernel
theorem dX4_open_12 : decode cX4_open 12 = .ok (.iload_n 2, 1) := by decide +kernel
theorem dX4_open_13 : decode cX4_open 13 = .ok (.invokevirtual 118, 3) := by decide +kernel
theorem dX4_open_16 : decode cX4_open 16 = .ok (.ifCond .eq 9, 3) := by decide +kernel
theorem dX4_open_19 : decode cX4_open 19 = .ok (.iconst 1, 1) := by decide +kernel
theorem dX4_open_20 : decode cX4_open 20 = .ok (.iload_n 2, 1) := by decide +kernel
theorem dX4_open_21 : decode cX4_open 21 = .ok (.ishl, 1) := by decide +kernel
theorem dX4_open_22 : decode cX4_open 22 = .ok (.goto 4, 3) := by decide +kernel
theorem dX4_open_25 : decode cX4_open 25 = .ok (.iconst 0, 1) := by decide +kernel
theorem dX4_open_26 : decode cX4_open 26 = .ok (.ior, 1) := by decide +kernel
theorem dX4_open_27 : decode cX4_open 27 = .ok (.istore_n 1, 1) := by decide +kernel
theorem dX4_open_28 : decode cX4_open 28 = .ok (.iinc 2 1, 3) := by decide +kernel
theorem dX4_open_31 : decode cX4_open 31 = .ok (.goto (-27), 3) := by decide +kernel
theorem dX4_open_34 : decode cX4_open 34 = .ok (.aload_n 0, 1) := by decide +kernel
theorem dX4_open_35 : decode cX4_open 35 = .ok (.iload_n 1, 1) := by decide +kernel
theorem dX4_open_36 : decode cX4_open 36 = .ok (.invokevirtual 127, 3) := by decide +kernel
theorem dX4_open_39 : decode cX4_open 39 = .ok (.ireturn, 1) := by decide +kernel
theorem dX4_places_0 : decode cX4_places 0 = .ok (.aload_n 0, 1) := by decide +kernel
theorem dX4_places_1 : decode cX4_places 1 = .ok (.iconst 1, 1) := by decide +kernel
theorem dX4_places_2 : decode cX4_places 2 = .ok (.aload_n 0, 1) := by decide +kernel
theorem dX4_places_3 : decode cX4_places 3 = .ok (.getfield 95, 3) := by decide +kernel
theorem dX4_places_6 : decode cX4_places 6 = .ok (.invokestatic 101, 3) := by decide +kernel
theorem dX4_places_9 : decode cX4_places 9 = .ok (.iadd, 1) := by decide +kernel
theorem dX4_places_10 : decode cX4_places 10 = .ok (.invokevirtual 127, 3) := by decide +kernel
theorem dX4_places_13 : decode cX4_places 13 = .ok (.ireturn, 1) := by decide +kernel
theorem dX4_points_0 : decode cX4_points 0 = .ok (.aload_n 0, 1) := by decide +kernel
theorem dX4_points_1 : decode cX4_points 1 = .ok (.bipush 20, 2) := by decide +kernel
theorem dX4_points_3 : decode cX4_points 3 = .ok (.aload_n 0, 1) := by decide +kernel
theorem dX4_points_4 : decode cX4_points 4 = .ok (.invokevirtual 88, 3) := by decide +kernel
theorem dX4_points_7 : decode cX4_points 7 = .ok (.isub, 1) := by decide +kernel
theorem dX4_points_8 : decode cX4_points 8 = .ok (.invokevirtual 127, 3) := by decide +kernel
theorem dX4_points_11 : decode cX4_points 11 = .ok (.ireturn, 1) := by decide +kernel
theorem dX4_bonusOf_0 : decode cX4_bonusOf 0 = .ok (.aload_n 0, 1) := by decide +kernel
theorem dX4_bonusOf_1 : decode cX4_bonusOf 1 = .ok (.aload_n 0, 1) := by decide +kernel
theorem dX4_bonusOf_2 : decode cX4_bonusOf 2 = .ok (.getfield 111, 3) := by decide +kernel
theorem dX4_bonusOf_5 : decode cX4_bonusOf 5 = .ok (.invokevirtual 124, 3) := by decide +kernel
theorem dX4_bonusOf_8 : decode cX4_bonusOf 8 = .ok (.istore_n 3, 1) := by decide +kernel
theorem dX4_bonusOf_9 : decode cX4_bonusOf 9 = .ok (.iconst 0, 1) := by decide +kernel
theorem dX4_bonusOf_10 : decode cX4_bonusOf 10 = .ok (.istore 4, 2) := by decide +kernel
theorem dX4_bonusOf_12 : decode cX4_bonusOf 12 = .ok (.iconst 0, 1) := by decide +kernel
theorem dX4_bonusOf_13 : decode cX4_bonusOf 13 = .ok (.istore 5, 2) := by decide +kernel
theorem dX4_bonusOf_15 : decode cX4_bonusOf 15 = .ok (.iconst 0, 1) := by decide +kernel
theorem dX4_bonusOf_16 : decode cX4_bonusOf 16 = .ok (.istore 6, 2) := by decide +kernel
theorem dX4_bonusOf_18 : decode cX4_bonusOf 18 = .ok (.iload 6, 2) := by decide +kernel
theorem dX4_bonusOf_20 : decode cX4_bonusOf 20 = .ok (.bipush 8, 2) := by decide +kernel
theorem dX4_bonusOf_22 : decode cX4_bonusOf 22 = .ok (.if_icmp .ge 117, 3) := by decide +kernel
theorem dX4_bonusOf_25 : decode cX4_bonusOf 25 = .ok (.iload_n 3, 1) := by decide +kernel
theorem dX4_bonusOf_26 : decode cX4_bonusOf 26 = .ok (.iload 6, 2) := by decide +kernel
theorem dX4_bonusOf_28 : decode cX4_bonusOf 28 = .ok (.invokestatic 107, 3) := by decide +kernel
theorem dX4_bonusOf_31 : decode cX4_bonusOf 31 = .ok (.ifCond .eq 29, 3) := by decide +kernel
theorem dX4_bonusOf_34 : decode cX4_bonusOf 34 = .ok (.aload_n 0, 1) := by decide +kernel
theorem dX4_bonusOf_35 : decode cX4_bonusOf 35 = .ok (.getfield 40, 3) := by decide +kernel
theorem dX4_bonusOf_38 : decode cX4_bonusOf 38 = .ok (.iload 6, 2) := by decide +kernel
theorem dX4_bonusOf_40 : decode cX4_bonusOf 40 = .ok (.iaload, 1) := by decide +kernel
theorem dX4_bonusOf_41 : decode cX4_bonusOf 41 = .ok (.iload_n 1, 1) := by decide +kernel
theorem dX4_bonusOf_42 : decode cX4_bonusOf 42 = .ok (.if_icmp .ne 18, 3) := by decide +kernel
theorem dX4_bonusOf_45 : decode cX4_bonusOf 45 = .ok (.aload_n 0, 1) := by decide +kernel
theorem dX4_bonusOf_46 : decode cX4_bonusOf 46 = .ok (.getfield 43, 3) := by decide +kernel
theorem dX4_bonusOf_49 : decode cX4_bonusOf 49 = .ok (.iload 6, 2) := by decide +kernel
theorem dX4_bonusOf_51 : decode cX4_bonusOf 51 = .ok (.iaload, 1) := by decide +kernel
theorem dX4_bonusOf_52 : decode cX4_bonusOf 52 = .ok (.iload_n 2, 1) := by decide +kernel
theorem dX4_bonusOf_53 : decode cX4_bonusOf 53 = .ok (.if_icmp .ne 7, 3) := by decide +kernel
theorem dX4_bonusOf_56 : decode cX4_bonusOf 56 = .ok (.iconst 1, 1) := by decide +kernel
theorem dX4_bonusOf_57 : decode cX4_bonusOf 57 = .ok (.goto 4, 3) := by decide +kernel
theorem dX4_bonusOf_60 : decode cX4_bonusOf 60 = .ok (.iconst 0, 1) := by decide +kernel
theorem dX4_bonusOf_61 : decode cX4_bonusOf 61 = .ok (.istore 7, 2) := by decide +kernel
theorem dX4_bonusOf_63 : decode cX4_bonusOf 63 = .ok (.iload 4, 2) := by decide +kernel
theorem dX4_bonusOf_65 : decode cX4_bonusOf 65 = .ok (.iload 7, 2) := by decide +kernel
theorem dX4_bonusOf_67 : decode cX4_bonusOf 67 = .ok (.ifCond .eq 27, 3) := by decide +kernel
theorem dX4_bonusOf_70 : decode cX4_bonusOf 70 = .ok (.iload_n 2, 1) := by decide +kernel
theorem dX4_bonusOf_71 : decode cX4_bonusOf 71 = .ok (.ifCond .eq 13, 3) := by decide +kernel
theorem dX4_bonusOf_74 : decode cX4_bonusOf 74 = .ok (.aload_n 0, 1) := by decide +kernel
theorem dX4_bonusOf_75 : decode cX4_bonusOf 75 = .ok (.getfield 46, 3) := by decide +kernel
theorem dX4_bonusOf_78 : decode cX4_bonusOf 78 = .ok (.iload 6, 2) := by decide +kernel
theorem dX4_bonusOf_80 : decode cX4_bonusOf 80 = .ok (.iaload, 1) := by decide +kernel
theorem dX4_bonusOf_81 : decode cX4_bonusOf 81 = .ok (.ifCond .ge 13, 3) := by decide +kernel
theorem dX4_bonusOf_84 : decode cX4_bonusOf 84 = .ok (.aload_n 0, 1) := by decide +kernel
theorem dX4_bonusOf_85 : decode cX4_bonusOf 85 = .ok (.getfield 46, 3) := by decide +kernel
theorem dX4_bonusOf_88 : decode cX4_bonusOf 88 = .ok (.iload 6, 2) := by decide +kernel
theorem dX4_bonusOf_90 : decode cX4_bonusOf 90 = .ok (.iaload, 1) := by decide +kernel
theorem dX4_bonusOf_91 : decode cX4_bonusOf 91 = .ok (.goto 4, 3) := by decide +kernel
theorem dX4_bonusOf_94 : decode cX4_bonusOf 94 = .ok (.iconst 0, 1) := by decide +kernel
theorem dX4_bonusOf_95 : decode cX4_bonusOf 95 = .ok (.iadd, 1) := by decide +kernel
theorem dX4_bonusOf_96 : decode cX4_bonusOf 96 = .ok (.istore 4, 2) := by decide +kernel
theorem dX4_bonusOf_98 : decode cX4_bonusOf 98 = .ok (.iload 7, 2) := by decide +kernel
theorem dX4_bonusOf_100 : decode cX4_bonusOf 100 = .ok (.ifCond .eq 29, 3) := by decide +kernel
theorem dX4_bonusOf_103 : decode cX4_bonusOf 103 = .ok (.iload_n 2, 1) := by decide +kernel
theorem dX4_bonusOf_104 : decode cX4_bonusOf 104 = .ok (.ifCond .le 25, 3) := by decide +kernel
theorem dX4_bonusOf_107 : decode cX4_bonusOf 107 = .ok (.aload_n 0, 1) := by decide +kernel
theorem dX4_bonusOf_108 : decode cX4_bonusOf 108 = .ok (.getfield 46, 3) := by decide +kernel
theorem dX4_bonusOf_111 : decode cX4_bonusOf 111 = .ok (.iload 6, 2) := by decide +kernel
theorem dX4_bonusOf_113 : decode cX4_bonusOf 113 = .ok (.iaload, 1) := by decide +kernel
theorem dX4_bonusOf_114 : decode cX4_bonusOf 114 = .ok (.iload 5, 2) := by decide +kernel
theorem dX4_bonusOf_116 : decode cX4_bonusOf 116 = .ok (.if_icmp .le 13, 3) := by decide +kernel
theorem dX4_bonusOf_119 : decode cX4_bonusOf 119 = .ok (.aload_n 0, 1) := by decide +kernel
theorem dX4_bonusOf_120 : decode cX4_bonusOf 120 = .ok (.getfield 46, 3) := by decide +kernel
theorem dX4_bonusOf_123 : decode cX4_bonusOf 123 = .ok (.iload 6, 2) := by decide +kernel
theorem dX4_bonusOf_125 : decode cX4_bonusOf 125 = .ok (.iaload, 1) := by decide +kernel
theorem dX4_bonusOf_126 : decode cX4_bonusOf 126 = .ok (.goto 5, 3) := by decide +kernel
theorem dX4_bonusOf_129 : decode cX4_bonusOf 129 = .ok (.iload 5, 2) := by decide +kernel
theorem dX4_bonusOf_131 : decode cX4_bonusOf 131 = .ok (.istore 5, 2) := by decide +kernel
theorem dX4_bonusOf_133 : decode cX4_bonusOf 133 = .ok (.iinc 6 1, 3) := by decide +kernel
theorem dX4_bonusOf_136 : decode cX4_bonusOf 136 = .ok (.goto (-118), 3) := by decide +kernel
theorem dX4_bonusOf_139 : decode cX4_bonusOf 139 = .ok (.iload 4, 2) := by decide +kernel
theorem dX4_bonusOf_141 : decode cX4_bonusOf 141 = .ok (.iload 5, 2) := by decide +kernel
theorem dX4_bonusOf_143 : decode cX4_bonusOf 143 = .ok (.iadd, 1) := by decide +kernel
theorem dX4_bonusOf_144 : decode cX4_bonusOf 144 = .ok (.ireturn, 1) := by decide +kernel
theorem dX4_isEndless_0 : decode cX4_isEndless 0 = .ok (.iload_n 1, 1) := by decide +kernel
theorem dX4_isEndless_1 : decode cX4_isEndless 1 = .ok (.istore_n 2, 1) := by decide +kernel
theorem dX4_isEndless_2 : decode cX4_isEndless 2 = .ok (.iconst 0, 1) := by decide +kernel
theorem dX4_isEndless_3 : decode cX4_isEndless 3 = .ok (.istore_n 3, 1) := by decide +kernel
theorem dX4_isEndless_4 : decode cX4_isEndless 4 = .ok (.iload_n 3, 1) := by decide +kernel
theorem dX4_isEndless_5 : decode cX4_isEndless 5 = .ok (.bipush 6, 2) := by decide +kernel
theorem dX4_isEndless_7 : decode cX4_isEndless 7 = .ok (.if_icmp .ge 21, 3) := by decide +kernel
theorem dX4_isEndless_10 : decode cX4_isEndless 10 = .ok (.iload_n 2, 1) := by decide +kernel
theorem dX4_isEndless_11 : decode cX4_isEndless 11 = .ok (.iconst (-1), 1) := by decide +kernel
theorem dX4_isEndless_12 : decode cX4_isEndless 12 = .ok (.if_icmp .eq 16, 3) := by decide +kernel
theorem dX4_isEndless_15 : decode cX4_isEndless 15 = .ok (.aload_n 0, 1) := by decide +kernel
theorem dX4_isEndless_16 : decode cX4_isEndless 16 = .ok (.getfield 58, 3) := by decide +kernel
theorem dX4_isEndless_19 : decode cX4_isEndless 19 = .ok (.iload_n 2, 1) := by decide +kernel
theorem dX4_isEndless_20 : decode cX4_isEndless 20 = .ok (.iaload, 1) := by decide +kernel
theorem dX4_isEndless_21 : decode cX4_isEndless 21 = .ok (.istore_n 2, 1) := by decide +kernel
theorem dX4_isEndless_22 : decode cX4_isEndless 22 = .ok (.iinc 3 1, 3) := by decide +kernel
theorem dX4_isEndless_25 : decode cX4_isEndless 25 = .ok (.goto (-21), 3) := by decide +kernel
theorem dX4_isEndless_28 : decode cX4_isEndless 28 = .ok (.iload_n 2, 1) := by decide +kernel
theorem dX4_isEndless_29 : decode cX4_isEndless 29 = .ok (.iconst (-1), 1) := by decide +kernel
theorem dX4_isEndless_30 : decode cX4_isEndless 30 = .ok (.if_icmp .eq 7, 3) := by decide +kernel
theorem dX4_isEndless_33 : decode cX4_isEndless 33 = .ok (.iconst 1, 1) := by decide +kernel
theorem dX4_isEndless_34 : decode cX4_isEndless 34 = .ok (.goto 4, 3) := by decide +kernel
theorem dX4_isEndless_37 : decode cX4_isEndless 37 = .ok (.iconst 0, 1) := by decide +kernel
theorem dX4_isEndless_38 : decode cX4_isEndless 38 = .ok (.ireturn, 1) := by decide +kernel
theorem dX4_alone_0 : decode cX4_alone 0 = .ok (.aload_n 0, 1) := by decide +kernel
theorem dX4_alone_1 : decode cX4_alone 1 = .ok (.getfield 49, 3) := by decide +kernel
theorem dX4_alone_4 : decode cX4_alone 4 = .ok (.iload_n 1, 1) := by decide +kernel
theorem dX4_alone_5 : decode cX4_alone 5 = .ok (.iaload, 1) := by decide +kernel
theorem dX4_alone_6 : decode cX4_alone 6 = .ok (.istore_n 2, 1) := by decide +kernel
theorem dX4_alone_7 : decode cX4_alone 7 = .ok (.iload_n 2, 1) := by decide +kernel
theorem dX4_alone_8 : decode cX4_alone 8 = .ok (.aload_n 0, 1) := by decide +kernel
theorem dX4_alone_9 : decode cX4_alone 9 = .ok (.getfield 52, 3) := by decide +kernel
theorem dX4_alone_12 : decode cX4_alone 12 = .ok (.iload_n 1, 1) := by decide +kernel
theorem dX4_alone_13 : decode cX4_alone 13 = .ok (.iaload, 1) := by decide +kernel
theorem dX4_alone_14 : decode cX4_alone 14 = .ok (.iconst (-1), 1) := by decide +kernel
theorem dX4_alone_15 : decode cX4_alone 15 = .ok (.if_icmp .ne 7, 3) := by decide +kernel
theorem dX4_alone_18 : decode cX4_alone 18 = .ok (.iconst 0, 1) := by decide +kernel
theorem dX4_alone_19 : decode cX4_alone 19 = .ok (.goto 20, 3) := by decide +kernel
theorem dX4_alone_22 : decode cX4_alone 22 = .ok (.aload_n 0, 1) := by decide +kernel
theorem dX4_alone_23 : decode cX4_alone 23 = .ok (.getfield 7, 3) := by decide +kernel
theorem dX4_alone_26 : decode cX4_alone 26 = .ok (.aload_n 0, 1) := by decide +kernel
theorem dX4_alone_27 : decode cX4_alone 27 = .ok (.getfield 52, 3) := by decide +kernel
theorem dX4_alone_30 : decode cX4_alone 30 = .ok (.iload_n 1, 1) := by decide +kernel
theorem dX4_alone_31 : decode cX4_alone 31 = .ok (.iaload, 1) := by decide +kernel
theorem dX4_alone_32 : decode cX4_alone 32 = .ok (.iaload, 1) := by decide +kernel
theorem dX4_alone_33 : decode cX4_alone 33 = .ok (.bipush 10, 2) := by decide +kernel
theorem dX4_alone_35 : decode cX4_alone 35 = .ok (.isub, 1) := by decide +kernel
theorem dX4_alone_36 : decode cX4_alone 36 = .ok (.invokestatic 101, 3) := by decide +kernel
theorem dX4_alone_39 : decode cX4_alone 39 = .ok (.iadd, 1) := by decide +kernel
theorem dX4_alone_40 : decode cX4_alone 40 = .ok (.istore_n 2, 1) := by decide +kernel
theorem dX4_alone_41 : decode cX4_alone 41 = .ok (.iload_n 2, 1) := by decide +kernel
theorem dX4_alone_42 : decode cX4_alone 42 = .ok (.aload_n 0, 1) := by decide +kernel
theorem dX4_alone_43 : decode cX4_alone 43 = .ok (.getfield 55, 3) := by decide +kernel
theorem dX4_alone_46 : decode cX4_alone 46 = .ok (.iload_n 1, 1) := by decide +kernel
theorem dX4_alone_47 : decode cX4_alone 47 = .ok (.iaload, 1) := by decide +kernel
theorem dX4_alone_48 : decode cX4_alone 48 = .ok (.iconst (-1), 1) := by decide +kernel
theorem dX4_alone_49 : decode cX4_alone 49 = .ok (.if_icmp .ne 7, 3) := by decide +kernel
theorem dX4_alone_52 : decode cX4_alone 52 = .ok (.iconst 0, 1) := by decide +kernel
theorem dX4_alone_53 : decode cX4_alone 53 = .ok (.goto 14, 3) := by decide +kernel
theorem dX4_alone_56 : decode cX4_alone 56 = .ok (.aload_n 0, 1) := by decide +kernel
theorem dX4_alone_57 : decode cX4_alone 57 = .ok (.getfield 16, 3) := by decide +kernel
theorem dX4_alone_60 : decode cX4_alone 60 = .ok (.aload_n 0, 1) := by decide +kernel
theorem dX4_alone_61 : decode cX4_alone 61 = .ok (.getfield 55, 3) := by decide +kernel
theorem dX4_alone_64 : decode cX4_alone 64 = .ok (.iload_n 1, 1) := by decide +kernel
theorem dX4_alone_65 : decode cX4_alone 65 = .ok (.iaload, 1) := by decide +kernel
theorem dX4_alone_66 : decode cX4_alone 66 = .ok (.iaload, 1) := by decide +kernel
theorem dX4_alone_67 : decode cX4_alone 67 = .ok (.iadd, 1) := by decide +kernel
theorem dX4_alone_68 : decode cX4_alone 68 = .ok (.istore_n 2, 1) := by decide +kernel
theorem dX4_alone_69 : decode cX4_alone 69 = .ok (.iconst 0, 1) := by decide +kernel
theorem dX4_alone_70 : decode cX4_alone 70 = .ok (.istore_n 3, 1) := by decide +kernel
theorem dX4_alone_71 : decode cX4_alone 71 = .ok (.iload_n 3, 1) := by decide +kernel
theorem dX4_alone_72 : decode cX4_alone 72 = .ok (.iconst 4, 1) := by decide +kernel
theorem dX4_alone_73 : decode cX4_alone 73 = .ok (.if_icmp .ge 18, 3) := by decide +kernel
theorem dX4_alone_76 : decode cX4_alone 76 = .ok (.iload_n 2, 1) := by decide +kernel
theorem dX4_alone_77 : decode cX4_alone 77 = .ok (.aload_n 0, 1) := by decide +kernel
theorem dX4_alone_78 : decode cX4_alone 78 = .ok (.iload_n 1, 1) := by decide +kernel
theorem dX4_alone_79 : decode cX4_alone 79 = .ok (.iload_n 3, 1) := by decide +kernel
theorem dX4_alone_80 : decode cX4_alone 80 = .ok (.invokevirtual 130, 3) := by decide +kernel
theorem dX4_alone_83 : decode cX4_alone 83 = .ok (.iadd, 1) := by decide +kernel
theorem dX4_alone_84 : decode cX4_alone 84 = .ok (.istore_n 2, 1) := by decide +kernel
theorem dX4_alone_85 : decode cX4_alone 85 = .ok (.iinc 3 1, 3) := by decide +kernel
theorem dX4_alone_88 : decode cX4_alone 88 = .ok (.goto (-17), 3) := by decide +kernel
theorem dX4_alone_91 : decode cX4_alone 91 = .ok (.iload_n 2, 1) := by decide +kernel
theorem dX4_alone_92 : decode cX4_alone 92 = .ok (.ireturn, 1) := by decide +kernel
theorem dX4_value_0 : decode cX4_value 0 = .ok (.iload_n 1, 1) := by decide +kernel
theorem dX4_value_1 : decode cX4_value 1 = .ok (.invokestatic 81, 3) := by decide +kernel
theorem dX4_value_4 : decode cX4_value 4 = .ok (.istore_n 2, 1) := by decide +kernel
theorem dX4_value_5 : decode cX4_value 5 = .ok (.aload_n 0, 1) := by decide +kernel
theorem dX4_value_6 : decode cX4_value 6 = .ok (.iload_n 2, 1) := by decide +kernel
theorem dX4_value_7 : decode cX4_value 7 = .ok (.iload_n 2, 1) := by decide +kernel
theorem dX4_value_8 : decode cX4_value 8 = .ok (.ifCond .eq 15, 3) := by decide +kernel
theorem dX4_value_11 : decode cX4_value 11 = .ok (.aload_n 0, 1) := by decide +kernel
theorem dX4_value_12 : decode cX4_value 12 = .ok (.iload_n 1, 1) := by decide +kernel
theorem dX4_value_13 : decode cX4_value 13 = .ok (.invokevirtual 134, 3) := by decide +kernel
theorem dX4_value_16 : decode cX4_value 16 = .ok (.ifCond .ne 7, 3) := by decide +kernel
theorem dX4_value_19 : decode cX4_value 19 = .ok (.iconst 1, 1) := by decide +kernel
theorem dX4_value_20 : decode cX4_value 20 = .ok (.goto 4, 3) := by decide +kernel
theorem dX4_value_23 : decode cX4_value 23 = .ok (.iconst 0, 1) := by decide +kernel
theorem dX4_value_24 : decode cX4_value 24 = .ok (.iconst 1, 1) := by decide +kernel
theorem dX4_value_25 : decode cX4_value 25 = .ok (.invokevirtual 77, 3) := by decide +kernel
theorem dX4_value_28 : decode cX4_value 28 = .ok (.ifCond .ne 5, 3) := by decide +kernel
theorem dX4_value_31 : decode cX4_value 31 = .ok (.iconst 0, 1) := by decide +kernel
theorem dX4_value_32 : decode cX4_value 32 = .ok (.ireturn, 1) := by decide +kernel
theorem dX4_value_33 : decode cX4_value 33 = .ok (.iconst 0, 1) := by decide +kernel
theorem dX4_value_34 : decode cX4_value 34 = .ok (.istore_n 3, 1) := by decide +kernel
theorem dX4_value_35 : decode cX4_value 35 = .ok (.bipush 6, 2) := by decide +kernel
theorem dX4_value_37 : decode cX4_value 37 = .ok (.istore 4, 2) := by decide +kernel
theorem dX4_value_39 : decode cX4_value 39 = .ok (.iload 4, 2) := by decide +kernel
theorem dX4_value_41 : decode cX4_value 41 = .ok (.ifCond .lt 65, 3) := by decide +kernel
theorem dX4_value_44 : decode cX4_value 44 = .ok (.iload_n 1, 1) := by decide +kernel
theorem dX4_value_45 : decode cX4_value 45 = .ok (.istore 5, 2) := by decide +kernel
theorem dX4_value_47 : decode cX4_value 47 = .ok (.iconst 0, 1) := by decide +kernel
theorem dX4_value_48 : decode cX4_value 48 = .ok (.istore 6, 2) := by decide +kernel
theorem dX4_value_50 : decode cX4_value 50 = .ok (.iload 6, 2) := by decide +kernel
theorem dX4_value_52 : decode cX4_value 52 = .ok (.iload 4, 2) := by decide +kernel
theorem dX4_value_54 : decode cX4_value 54 = .ok (.if_icmp .ge 24, 3) := by decide +kernel
theorem dX4_value_57 : decode cX4_value 57 = .ok (.iload 5, 2) := by decide +kernel
theorem dX4_value_59 : decode cX4_value 59 = .ok (.iconst (-1), 1) := by decide +kernel
theorem dX4_value_60 : decode cX4_value 60 = .ok (.if_icmp .eq 18, 3) := by decide +kernel
theorem dX4_value_63 : decode cX4_value 63 = .ok (.aload_n 0, 1) := by decide +kernel
theorem dX4_value_64 : decode cX4_value 64 = .ok (.getfield 58, 3) := by decide +kernel
theorem dX4_value_67 : decode cX4_value 67 = .ok (.iload 5, 2) := by decide +kernel
theorem dX4_value_69 : decode cX4_value 69 = .ok (.iaload, 1) := by decide +kernel
theorem dX4_value_70 : decode cX4_value 70 = .ok (.istore 5, 2) := by decide +kernel
theorem dX4_value_72 : decode cX4_value 72 = .ok (.iinc 6 1, 3) := by decide +kernel
theorem dX4_value_75 : decode cX4_value 75 = .ok (.goto (-25), 3) := by decide +kernel
theorem dX4_value_78 : decode cX4_value 78 = .ok (.iload 5, 2) := by decide +kernel
theorem dX4_value_80 : decode cX4_value 80 = .ok (.iconst (-1), 1) := by decide +kernel
theorem dX4_value_81 : decode cX4_value 81 = .ok (.if_icmp .ne 7, 3) := by decide +kernel
theorem dX4_value_84 : decode cX4_value 84 = .ok (.iconst 0, 1) := by decide +kernel
theorem dX4_value_85 : decode cX4_value 85 = .ok (.goto 14, 3) := by decide +kernel
theorem dX4_value_88 : decode cX4_value 88 = .ok (.aload_n 0, 1) := by decide +kernel
theorem dX4_value_89 : decode cX4_value 89 = .ok (.iload 5, 2) := by decide +kernel
theorem dX4_value_91 : decode cX4_value 91 = .ok (.invokevirtual 137, 3) := by decide +kernel
theorem dX4_value_94 : decode cX4_value 94 = .ok (.iload_n 3, 1) := by decide +kernel
theorem dX4_value_95 : decode cX4_value 95 = .ok (.invokestatic 101, 3) := by decide +kernel
theorem dX4_value_98 : decode cX4_value 98 = .ok (.iadd, 1) := by decide +kernel
theorem dX4_value_99 : decode cX4_value 99 = .ok (.istore_n 3, 1) := by decide +kernel
theorem dX4_value_100 : decode cX4_value 100 = .ok (.iinc 4 (-1), 3) := by decide +kernel
theorem dX4_value_103 : decode cX4_value 103 = .ok (.goto (-64), 3) := by decide +kernel
theorem dX4_value_106 : decode cX4_value 106 = .ok (.iload_n 3, 1) := by decide +kernel
theorem dX4_value_107 : decode cX4_value 107 = .ok (.ireturn, 1) := by decide +kernel
theorem dX4_bonus_0 : decode cX4_bonus 0 = .ok (.aload_n 0, 1) := by decide +kernel
theorem dX4_bonus_1 : decode cX4_bonus 1 = .ok (.iload_n 1, 1) := by decide +kernel
theorem dX4_bonus_2 : decode cX4_bonus 2 = .ok (.invokestatic 81, 3) := by decide +kernel
theorem dX4_bonus_5 : decode cX4_bonus 5 = .ok (.iload_n 2, 1) := by decide +kernel
theorem dX4_bonus_6 : decode cX4_bonus 6 = .ok (.iconst 0, 1) := by decide +kernel
theorem dX4_bonus_7 : decode cX4_bonus 7 = .ok (.iconst 3, 1) := by decide +kernel
theorem dX4_bonus_8 : decode cX4_bonus 8 = .ok (.invokestatic 69, 3) := by decide +kernel
theorem dX4_bonus_11 : decode cX4_bonus 11 = .ok (.iconst 1, 1) := by decide +kernel
theorem dX4_bonus_12 : decode cX4_bonus 12 = .ok (.invokevirtual 77, 3) := by decide +kernel
theorem dX4_bonus_15 : decode cX4_bonus 15 = .ok (.ifCond .eq 12, 3) := by decide +kernel
theorem dX4_bonus_18 : decode cX4_bonus 18 = .ok (.aload_n 0, 1) := by decide +kernel
theorem dX4_bonus_19 : decode cX4_bonus 19 = .ok (.iload_n 1, 1) := by decide +kernel
theorem dX4_bonus_20 : decode cX4_bonus 20 = .ok (.iload_n 2, 1) := by decide +kernel
theorem dX4_bonus_21 : decode cX4_bonus 21 = .ok (.invokevirtual 130, 3) := by decide +kernel
theorem dX4_bonus_24 : decode cX4_bonus 24 = .ok (.goto 4, 3) := by decide +kernel
theorem dX4_bonus_27 : decode cX4_bonus 27 = .ok (.iconst 0, 1) := by decide +kernel
theorem dX4_bonus_28 : decode cX4_bonus 28 = .ok (.ireturn, 1) := by decide +kernel
theorem dX4_isRing_0 : decode cX4_isRing 0 = .ok (.aload_n 0, 1) := by decide +kernel
theorem dX4_isRing_1 : decode cX4_isRing 1 = .ok (.iload_n 1, 1) := by decide +kernel
theorem dX4_isRing_2 : decode cX4_isRing 2 = .ok (.invokestatic 81, 3) := by decide +kernel
theorem dX4_isRing_5 : decode cX4_isRing 5 = .ok (.iconst 1, 1) := by decide +kernel
theorem dX4_isRing_6 : decode cX4_isRing 6 = .ok (.iconst 1, 1) := by decide +kernel
theorem dX4_isRing_7 : decode cX4_isRing 7 = .ok (.invokevirtual 77, 3) := by decide +kernel
theorem dX4_isRing_10 : decode cX4_isRing 10 = .ok (.ifCond .eq 15, 3) := by decide +kernel
theorem dX4_isRing_13 : decode cX4_isRing 13 = .ok (.aload_n 0, 1) := by decide +kernel
theorem dX4_isRing_14 : decode cX4_isRing 14 = .ok (.iload_n 1, 1) := by decide +kernel
theorem dX4_isRing_15 : decode cX4_isRing 15 = .ok (.invokevirtual 134, 3) := by decide +kernel
theorem dX4_isRing_18 : decode cX4_isRing 18 = .ok (.ifCond .eq 7, 3) := by decide +kernel
theorem dX4_isRing_21 : decode cX4_isRing 21 = .ok (.iconst 1, 1) := by decide +kernel
theorem dX4_isRing_22 : decode cX4_isRing 22 = .ok (.goto 4, 3) := by decide +kernel
theorem dX4_isRing_25 : decode cX4_isRing 25 = .ok (.iconst 0, 1) := by decide +kernel
theorem dX4_isRing_26 : decode cX4_isRing 26 = .ok (.ireturn, 1) := by decide +kernel
theorem dX4_attack_0 : decode cX4_attack 0 = .ok (.fconst 0, 1) := by decide +kernel
theorem dX4_attack_1 : decode cX4_attack 1 = .ok (.fstore_n 1, 1) := by decide +kernel
theorem dX4_attack_2 : decode cX4_attack 2 = .ok (.iconst (-1), 1) := by decide +kernel
theorem dX4_attack_3 : decode cX4_attack 3 = .ok (.istore_n 2, 1) := by decide +kernel
theorem dX4_attack_4 : decode cX4_attack 4 = .ok (.iconst 0, 1) := by decide +kernel
theorem dX4_attack_5 : decode cX4_attack 5 = .ok (.istore_n 3, 1) := by decide +kernel
theorem dX4_attack_6 : decode cX4_attack 6 = .ok (.iload_n 3, 1) := by decide +kernel
theorem dX4_attack_7 : decode cX4_attack 7 = .ok (.iconst 3, 1) := by decide +kernel
theorem dX4_attack_8 : decode cX4_attack 8 = .ok (.if_icmp .ge 69, 3) := by decide +kernel
theorem dX4_attack_11 : decode cX4_attack 11 = .ok (.fload_n 1, 1) := by decide +kernel
theorem dX4_attack_12 : decode cX4_attack 12 = .ok (.aload_n 0, 1) := by decide +kernel
theorem dX4_attack_13 : decode cX4_attack 13 = .ok (.getfield 16, 3) := by decide +kernel
theorem dX4_attack_16 : decode cX4_attack 16 = .ok (.iload_n 3, 1) := by decide +kernel
theorem dX4_attack_17 : decode cX4_attack 17 = .ok (.iaload, 1) := by decide +kernel
theorem dX4_attack_18 : decode cX4_attack 18 = .ok (.i2f, 1) := by decide +kernel
theorem dX4_attack_19 : decode cX4_attack 19 = .ok (.iload_n 3, 1) := by decide +kernel
theorem dX4_attack_20 : decode cX4_attack 20 = .ok (.iconst 2, 1) := by decide +kernel
theorem dX4_attack_21 : decode cX4_attack 21 = .ok (.iadd, 1) := by decide +kernel
theorem dX4_attack_22 : decode cX4_attack 22 = .ok (.i2f, 1) := by decide +kernel
theorem dX4_attack_23 : decode cX4_attack 23 = .ok (.ldc 140, 2) := by decide +kernel
theorem dX4_attack_25 : decode cX4_attack 25 = .ok (.fdiv, 1) := by decide +kernel
theorem dX4_attack_26 : decode cX4_attack 26 = .ok (.fmul, 1) := by decide +kernel
theorem dX4_attack_27 : decode cX4_attack 27 = .ok (.fadd, 1) := by decide +kernel
theorem dX4_attack_28 : decode cX4_attack 28 = .ok (.fstore_n 1, 1) := by decide +kernel
theorem dX4_attack_29 : decode cX4_attack 29 = .ok (.fload_n 1, 1) := by decide +kernel
theorem dX4_attack_30 : decode cX4_attack 30 = .ok (.iload_n 2, 1) := by decide +kernel
theorem dX4_attack_31 : decode cX4_attack 31 = .ok (.iconst (-1), 1) := by decide +kernel
theorem dX4_attack_32 : decode cX4_attack 32 = .ok (.if_icmp .ne 7, 3) := by decide +kernel
theorem dX4_attack_35 : decode cX4_attack 35 = .ok (.fconst 0, 1) := by decide +kernel
theorem dX4_attack_36 : decode cX4_attack 36 = .ok (.goto 13, 3) := by decide +kernel
theorem dX4_attack_39 : decode cX4_attack 39 = .ok (.ldc 141, 2) := by decide +kernel
theorem dX4_attack_41 : decode cX4_attack 41 = .ok (.aload_n 0, 1) := by decide +kernel
theorem dX4_attack_42 : decode cX4_attack 42 = .ok (.getfield 16, 3) := by decide +kernel
theorem dX4_attack_45 : decode cX4_attack 45 = .ok (.iload_n 3, 1) := by decide +kernel
theorem dX4_attack_46 : decode cX4_attack 46 = .ok (.iaload, 1) := by decide +kernel
theorem dX4_attack_47 : decode cX4_attack 47 = .ok (.i2f, 1) := by decide +kernel
theorem dX4_attack_48 : decode cX4_attack 48 = .ok (.fmul, 1) := by decide +kernel
theorem dX4_attack_49 : decode cX4_attack 49 = .ok (.fsub, 1) := by decide +kernel
theorem dX4_attack_50 : decode cX4_attack 50 = .ok (.fstore_n 1, 1) := by decide +kernel
theorem dX4_attack_51 : decode cX4_attack 51 = .ok (.iload_n 2, 1) := by decide +kernel
theorem dX4_attack_52 : decode cX4_attack 52 = .ok (.iconst (-1), 1) := by decide +kernel
theorem dX4_attack_53 : decode cX4_attack 53 = .ok (.if_icmp .ne 16, 3) := by decide +kernel
theorem dX4_attack_56 : decode cX4_attack 56 = .ok (.aload_n 0, 1) := by decide +kernel
theorem dX4_attack_57 : decode cX4_attack 57 = .ok (.getfield 16, 3) := by decide +kernel
theorem dX4_attack_60 : decode cX4_attack 60 = .ok (.iload_n 3, 1) := by decide +kernel
theorem dX4_attack_61 : decode cX4_attack 61 = .ok (.iaload, 1) := by decide +kernel
theorem dX4_attack_62 : decode cX4_attack 62 = .ok (.ifCond .le 7, 3) := by decide +kernel
theorem dX4_attack_65 : decode cX4_attack 65 = .ok (.iload_n 3, 1) := by decide +kernel
theorem dX4_attack_66 : decode cX4_attack 66 = .ok (.goto 4, 3) := by decide +kernel
theorem dX4_attack_69 : decode cX4_attack 69 = .ok (.iload_n 2, 1) := by decide +kernel
theorem dX4_attack_70 : decode cX4_attack 70 = .ok (.istore_n 2, 1) := by decide +kernel
theorem dX4_attack_71 : decode cX4_attack 71 = .ok (.iinc 3 1, 3) := by decide +kernel
theorem dX4_attack_74 : decode cX4_attack 74 = .ok (.goto (-68), 3) := by decide +kernel
theorem dX4_attack_77 : decode cX4_attack 77 = .ok (.aload_n 0, 1) := by decide +kernel
theorem dX4_attack_78 : decode cX4_attack 78 = .ok (.fload_n 1, 1) := by decide +kernel
theorem dX4_attack_79 : decode cX4_attack 79 = .ok (.f2i, 1) := by decide +kernel
theorem dX4_attack_80 : decode cX4_attack 80 = .ok (.invokevirtual 127, 3) := by decide +kernel
theorem dX4_attack_83 : decode cX4_attack 83 = .ok (.ireturn, 1) := by decide +kernel
theorem dX4_place_0 : decode cX4_place 0 = .ok (.sipush 256, 3) := by decide +kernel
theorem dX4_place_3 : decode cX4_place 3 = .ok (.iload_n 1, 1) := by decide +kernel
theorem dX4_place_4 : decode cX4_place 4 = .ok (.aload_n 0, 1) := by decide +kernel
theorem dX4_place_5 : decode cX4_place 5 = .ok (.getfield 16, 3) := by decide +kernel
theorem dX4_place_8 : decode cX4_place 8 = .ok (.iconst 1, 1) := by decide +kernel
theorem dX4_place_9 : decode cX4_place 9 = .ok (.iaload, 1) := by decide +kernel
theorem dX4_place_10 : decode cX4_place 10 = .ok (.iconst 1, 1) := by decide +kernel
theorem dX4_place_11 : decode cX4_place 11 = .ok (.iadd, 1) := by decide +kernel
theorem dX4_place_12 : decode cX4_place 12 = .ok (.imul, 1) := by decide +kernel
theorem dX4_place_13 : decode cX4_place 13 = .ok (.iload_n 2, 1) := by decide +kernel
theorem dX4_place_14 : decode cX4_place 14 = .ok (.iadd, 1) := by decide +kernel
theorem dX4_place_15 : decode cX4_place 15 = .ok (.aload_n 0, 1) := by decide +kernel
theorem dX4_place_16 : decode cX4_place 16 = .ok (.getfield 16, 3) := by decide +kernel
theorem dX4_place_19 : decode cX4_place 19 = .ok (.iconst 2, 1) := by decide +kernel
theorem dX4_place_20 : decode cX4_place 20 = .ok (.iaload, 1) := by decide +kernel
theorem dX4_place_21 : decode cX4_place 21 = .ok (.iconst 1, 1) := by decide +kernel
theorem dX4_place_22 : decode cX4_place 22 = .ok (.iadd, 1) := by decide +kernel
theorem dX4_place_23 : decode cX4_place 23 = .ok (.imul, 1) := by decide +kernel
theorem dX4_place_24 : decode cX4_place 24 = .ok (.iload_n 3, 1) := by decide +kernel
theorem dX4_place_25 : decode cX4_place 25 = .ok (.iadd, 1) := by decide +kernel
theorem dX4_place_26 : decode cX4_place 26 = .ok (.imul, 1) := by decide +kernel
theorem dX4_place_27 : decode cX4_place 27 = .ok (.iload 4, 2) := by decide +kernel
theorem dX4_place_29 : decode cX4_place 29 = .ok (.iadd, 1) := by decide +kernel
theorem dX4_place_30 : decode cX4_place 30 = .ok (.ireturn, 1) := by decide +kernel
theorem dX4_leadsOn_0 : decode cX4_leadsOn 0 = .ok (.iload_n 1, 1) := by decide +kernel
theorem dX4_leadsOn_1 : decode cX4_leadsOn 1 = .ok (.aload_n 0, 1) := by decide +kernel
theorem dX4_leadsOn_2 : decode cX4_leadsOn 2 = .ok (.getfield 16, 3) := by decide +kernel
theorem dX4_leadsOn_5 : decode cX4_leadsOn 5 = .ok (.iconst 0, 1) := by decide +kernel
theorem dX4_leadsOn_6 : decode cX4_leadsOn 6 = .ok (.iaload, 1) := by decide +kernel
theorem dX4_leadsOn_7 : decode cX4_leadsOn 7 = .ok (.if_icmp .ne 34, 3) := by decide +kernel
theorem dX4_leadsOn_10 : decode cX4_leadsOn 10 = .ok (.iload_n 2, 1) := by decide +kernel
theorem dX4_leadsOn_11 : decode cX4_leadsOn 11 = .ok (.aload_n 0, 1) := by decide +kernel
theorem dX4_leadsOn_12 : decode cX4_leadsOn 12 = .ok (.getfield 16, 3) := by decide +kernel
theorem dX4_leadsOn_15 : decode cX4_leadsOn 15 = .ok (.iconst 1, 1) := by decide +kernel
theorem dX4_leadsOn_16 : decode cX4_leadsOn 16 = .ok (.iaload, 1) := by decide +kernel
theorem dX4_leadsOn_17 : decode cX4_leadsOn 17 = .ok (.if_icmp .ne 24, 3) := by decide +kernel
theorem dX4_leadsOn_20 : decode cX4_leadsOn 20 = .ok (.iload_n 3, 1) := by decide +kernel
theorem dX4_leadsOn_21 : decode cX4_leadsOn 21 = .ok (.aload_n 0, 1) := by decide +kernel
theorem dX4_leadsOn_22 : decode cX4_leadsOn 22 = .ok (.getfield 16, 3) := by decide +kernel
theorem dX4_leadsOn_25 : decode cX4_leadsOn 25 = .ok (.iconst 2, 1) := by decide +kernel
theorem dX4_leadsOn_26 : decode cX4_leadsOn 26 = .ok (.iaload, 1) := by decide +kernel
theorem dX4_leadsOn_27 : decode cX4_leadsOn 27 = .ok (.if_icmp .ne 14, 3) := by decide +kernel
theorem dX4_leadsOn_30 : decode cX4_leadsOn 30 = .ok (.iload 4, 2) := by decide +kernel
theorem dX4_leadsOn_32 : decode cX4_leadsOn 32 = .ok (.iload 5, 2) := by decide +kernel
theorem dX4_leadsOn_34 : decode cX4_leadsOn 34 = .ok (.if_icmp .ne 7, 3) := by decide +kernel
theorem dX4_leadsOn_37 : decode cX4_leadsOn 37 = .ok (.iconst 1, 1) := by decide +kernel
theorem dX4_leadsOn_38 : decode cX4_leadsOn 38 = .ok (.goto 4, 3) := by decide +kernel
theorem dX4_leadsOn_41 : decode cX4_leadsOn 41 = .ok (.iconst 0, 1) := by decide +kernel
theorem dX4_leadsOn_42 : decode cX4_leadsOn 42 = .ok (.istore 6, 2) := by decide +kernel
theorem dX4_leadsOn_44 : decode cX4_leadsOn 44 = .ok (.iload 6, 2) := by decide +kernel
theorem dX4_leadsOn_46 : decode cX4_leadsOn 46 = .ok (.ifCond .ne 32, 3) := by decide +kernel
theorem dX4_leadsOn_49 : decode cX4_leadsOn 49 = .ok (.iload_n 1, 1) := by decide +kernel
theorem dX4_leadsOn_50 : decode cX4_leadsOn 50 = .ok (.aload_n 0, 1) := by decide +kernel
theorem dX4_leadsOn_51 : decode cX4_leadsOn 51 = .ok (.getfield 16, 3) := by decide +kernel
theorem dX4_leadsOn_54 : decode cX4_leadsOn 54 = .ok (.iconst 0, 1) := by decide +kernel
theorem dX4_leadsOn_55 : decode cX4_leadsOn 55 = .ok (.iaload, 1) := by decide +kernel
theorem dX4_leadsOn_56 : decode cX4_leadsOn 56 = .ok (.if_icmp .ge 26, 3) := by decide +kernel
theorem dX4_leadsOn_59 : decode cX4_leadsOn 59 = .ok (.aload_n 0, 1) := by decide +kernel
theorem dX4_leadsOn_60 : decode cX4_leadsOn 60 = .ok (.getfield 61, 3) := by decide +kernel
theorem dX4_leadsOn_63 : decode cX4_leadsOn 63 = .ok (.aload_n 0, 1) := by decide +kernel
theorem dX4_leadsOn_64 : decode cX4_leadsOn 64 = .ok (.iload_n 1, 1) := by decide +kernel
theorem dX4_leadsOn_65 : decode cX4_leadsOn 65 = .ok (.iconst 1, 1) := by decide +kernel
theorem dX4_leadsOn_66 : decode cX4_leadsOn 66 = .ok (.iadd, 1) := by decide +kernel
theorem dX4_leadsOn_67 : decode cX4_leadsOn 67 = .ok (.iload_n 2, 1) := by decide +kernel
theorem dX4_leadsOn_68 : decode cX4_leadsOn 68 = .ok (.iload_n 3, 1) := by decide +kernel
theorem dX4_leadsOn_69 : decode cX4_leadsOn 69 = .ok (.iload 4, 2) := by decide +kernel
theorem dX4_leadsOn_71 : decode cX4_leadsOn 71 = .ok (.invokevirtual 142, 3) := by decide +kernel
theorem dX4_leadsOn_74 : decode cX4_leadsOn 74 = .ok (.baload, 1) := by decide +kernel
theorem dX4_leadsOn_75 : decode cX4_leadsOn 75 = .ok (.ifCond .eq 7, 3) := by decide +kernel
theorem dX4_leadsOn_78 : decode cX4_leadsOn 78 = .ok (.iconst 1, 1) := by decide +kernel
theorem dX4_leadsOn_79 : decode cX4_leadsOn 79 = .ok (.goto 4, 3) := by decide +kernel
theorem dX4_leadsOn_82 : decode cX4_leadsOn 82 = .ok (.iconst 0, 1) := by decide +kernel
theorem dX4_leadsOn_83 : decode cX4_leadsOn 83 = .ok (.istore 6, 2) := by decide +kernel
theorem dX4_leadsOn_85 : decode cX4_leadsOn 85 = .ok (.iload 6, 2) := by decide +kernel
theorem dX4_leadsOn_87 : decode cX4_leadsOn 87 = .ok (.ifCond .ne 32, 3) := by decide +kernel
theorem dX4_leadsOn_90 : decode cX4_leadsOn 90 = .ok (.iload_n 2, 1) := by decide +kernel
theorem dX4_leadsOn_91 : decode cX4_leadsOn 91 = .ok (.aload_n 0, 1) := by decide +kernel
theorem dX4_leadsOn_92 : decode cX4_leadsOn 92 = .ok (.getfield 16, 3) := by decide +kernel
theorem dX4_leadsOn_95 : decode cX4_leadsOn 95 = .ok (.iconst 1, 1) := by decide +kernel
theorem dX4_leadsOn_96 : decode cX4_leadsOn 96 = .ok (.iaload, 1) := by decide +kernel
theorem dX4_leadsOn_97 : decode cX4_leadsOn 97 = .ok (.if_icmp .ge 26, 3) := by decide +kernel
theorem dX4_leadsOn_100 : decode cX4_leadsOn 100 = .ok (.aload_n 0, 1) := by decide +kernel
theorem dX4_leadsOn_101 : decode cX4_leadsOn 101 = .ok (.getfield 61, 3) := by decide +kernel
theorem dX4_leadsOn_104 : decode cX4_leadsOn 104 = .ok (.aload_n 0, 1) := by decide +kernel
theorem dX4_leadsOn_105 : decode cX4_leadsOn 105 = .ok (.iload_n 1, 1) := by decide +kernel
theorem dX4_leadsOn_106 : decode cX4_leadsOn 106 = .ok (.iload_n 2, 1) := by decide +kernel
theorem dX4_leadsOn_107 : decode cX4_leadsOn 107 = .ok (.iconst 1, 1) := by decide +kernel
theorem dX4_leadsOn_108 : decode cX4_leadsOn 108 = .ok (.iadd, 1) := by decide +kernel
theorem dX4_leadsOn_109 : decode cX4_leadsOn 109 = .ok (.iload_n 3, 1) := by decide +kernel
theorem dX4_leadsOn_110 : decode cX4_leadsOn 110 = .ok (.iload 4, 2) := by decide +kernel
theorem dX4_leadsOn_112 : decode cX4_leadsOn 112 = .ok (.invokevirtual 142, 3) := by decide +kernel
theorem dX4_leadsOn_115 : decode cX4_leadsOn 115 = .ok (.baload, 1) := by decide +kernel
theorem dX4_leadsOn_116 : decode cX4_leadsOn 116 = .ok (.ifCond .eq 7, 3) := by decide +kernel
theorem dX4_leadsOn_119 : decode cX4_leadsOn 119 = .ok (.iconst 1, 1) := by decide +kernel
theorem dX4_leadsOn_120 : decode cX4_leadsOn 120 = .ok (.goto 4, 3) := by decide +kernel
theorem dX4_leadsOn_123 : decode cX4_leadsOn 123 = .ok (.iconst 0, 1) := by decide +kernel
theorem dX4_leadsOn_124 : decode cX4_leadsOn 124 = .ok (.istore 6, 2) := by decide +kernel
theorem dX4_leadsOn_126 : decode cX4_leadsOn 126 = .ok (.iload 6, 2) := by decide +kernel
theorem dX4_leadsOn_128 : decode cX4_leadsOn 128 = .ok (.ifCond .ne 32, 3) := by decide +kernel
theorem dX4_leadsOn_131 : decode cX4_leadsOn 131 = .ok (.iload_n 3, 1) := by decide +kernel
theorem dX4_leadsOn_132 : decode cX4_leadsOn 132 = .ok (.aload_n 0, 1) := by decide +kernel
theorem dX4_leadsOn_133 : decode cX4_leadsOn 133 = .ok (.getfield 16, 3) := by decide +kernel
theorem dX4_leadsOn_136 : decode cX4_leadsOn 136 = .ok (.iconst 2, 1) := by decide +kernel
theorem dX4_leadsOn_137 : decode cX4_leadsOn 137 = .ok (.iaload, 1) := by decide +kernel
theorem dX4_leadsOn_138 : decode cX4_leadsOn 138 = .ok (.if_icmp .ge 26, 3) := by decide +kernel
theorem dX4_leadsOn_141 : decode cX4_leadsOn 141 = .ok (.aload_n 0, 1) := by decide +kernel
theorem dX4_leadsOn_142 : decode cX4_leadsOn 142 = .ok (.getfield 61, 3) := by decide +kernel
theorem dX4_leadsOn_145 : decode cX4_leadsOn 145 = .ok (.aload_n 0, 1) := by decide +kernel
theorem dX4_leadsOn_146 : decode cX4_leadsOn 146 = .ok (.iload_n 1, 1) := by decide +kernel
theorem dX4_leadsOn_147 : decode cX4_leadsOn 147 = .ok (.iload_n 2, 1) := by decide +kernel
theorem dX4_leadsOn_148 : decode cX4_leadsOn 148 = .ok (.iload_n 3, 1) := by decide +kernel
theorem dX4_leadsOn_149 : decode cX4_leadsOn 149 = .ok (.iconst 1, 1) := by decide +kernel
theorem dX4_leadsOn_150 : decode cX4_leadsOn 150 = .ok (.iadd, 1) := by decide +kernel
theorem dX4_leadsOn_151 : decode cX4_leadsOn 151 = .ok (.iload 4, 2) := by decide +kernel
theorem dX4_leadsOn_153 : decode cX4_leadsOn 153 = .ok (.invokevirtual 142, 3) := by decide +kernel
theorem dX4_leadsOn_156 : decode cX4_leadsOn 156 = .ok (.baload, 1) := by decide +kernel
theorem dX4_leadsOn_157 : decode cX4_leadsOn 157 = .ok (.ifCond .eq 7, 3) := by decide +kernel
theorem dX4_leadsOn_160 : decode cX4_leadsOn 160 = .ok (.iconst 1, 1) := by decide +kernel
theorem dX4_leadsOn_161 : decode cX4_leadsOn 161 = .ok (.goto 4, 3) := by decide +kernel
theorem dX4_leadsOn_164 : decode cX4_leadsOn 164 = .ok (.iconst 0, 1) := by decide +kernel
theorem dX4_leadsOn_165 : decode cX4_leadsOn 165 = .ok (.istore 6, 2) := by decide +kernel
theorem dX4_leadsOn_167 : decode cX4_leadsOn 167 = .ok (.iconst 0, 1) := by decide +kernel
theorem dX4_leadsOn_168 : decode cX4_leadsOn 168 = .ok (.istore 7, 2) := by decide +kernel
theorem dX4_leadsOn_170 : decode cX4_leadsOn 170 = .ok (.iload 7, 2) := by decide +kernel
theorem dX4_leadsOn_172 : decode cX4_leadsOn 172 = .ok (.bipush 8, 2) := by decide +kernel
theorem dX4_leadsOn_174 : decode cX4_leadsOn 174 = .ok (.if_icmp .ge 67, 3) := by decide +kernel
theorem dX4_leadsOn_177 : decode cX4_leadsOn 177 = .ok (.iload 6, 2) := by decide +kernel
theorem dX4_leadsOn_179 : decode cX4_leadsOn 179 = .ok (.ifCond .ne 62, 3) := by decide +kernel
theorem dX4_leadsOn_182 : decode cX4_leadsOn 182 = .ok (.iload 5, 2) := by decide +kernel
theorem dX4_leadsOn_184 : decode cX4_leadsOn 184 = .ok (.iload 7, 2) := by decide +kernel
theorem dX4_leadsOn_186 : decode cX4_leadsOn 186 = .ok (.invokestatic 107, 3) := by decide +kernel
theorem dX4_leadsOn_189 : decode cX4_leadsOn 189 = .ok (.ifCond .eq 43, 3) := by decide +kernel
theorem dX4_leadsOn_192 : decode cX4_leadsOn 192 = .ok (.aload_n 0, 1) := by decide +kernel
theorem dX4_leadsOn_193 : decode cX4_leadsOn 193 = .ok (.iload 7, 2) := by decide +kernel
theorem dX4_leadsOn_195 : decode cX4_leadsOn 195 = .ok (.iload_n 1, 1) := by decide +kernel
theorem dX4_leadsOn_196 : decode cX4_leadsOn 196 = .ok (.iload_n 2, 1) := by decide +kernel
theorem dX4_leadsOn_197 : decode cX4_leadsOn 197 = .ok (.iload_n 3, 1) := by decide +kernel
theorem dX4_leadsOn_198 : decode cX4_leadsOn 198 = .ok (.iload 4, 2) := by decide +kernel
theorem dX4_leadsOn_200 : decode cX4_leadsOn 200 = .ok (.invokevirtual 114, 3) := by decide +kernel
theorem dX4_leadsOn_203 : decode cX4_leadsOn 203 = .ok (.ifCond .eq 29, 3) := by decide +kernel
theorem dX4_leadsOn_206 : decode cX4_leadsOn 206 = .ok (.aload_n 0, 1) := by decide +kernel
theorem dX4_leadsOn_207 : decode cX4_leadsOn 207 = .ok (.getfield 61, 3) := by decide +kernel
theorem dX4_leadsOn_210 : decode cX4_leadsOn 210 = .ok (.aload_n 0, 1) := by decide +kernel
theorem dX4_leadsOn_211 : decode cX4_leadsOn 211 = .ok (.iload_n 1, 1) := by decide +kernel
theorem dX4_leadsOn_212 : decode cX4_leadsOn 212 = .ok (.iload_n 2, 1) := by decide +kernel
theorem dX4_leadsOn_213 : decode cX4_leadsOn 213 = .ok (.iload_n 3, 1) := by decide +kernel
theorem dX4_leadsOn_214 : decode cX4_leadsOn 214 = .ok (.iload 4, 2) := by decide +kernel
theorem dX4_leadsOn_216 : decode cX4_leadsOn 216 = .ok (.iconst 1, 1) := by decide +kernel
theorem dX4_leadsOn_217 : decode cX4_leadsOn 217 = .ok (.iload 7, 2) := by decide +kernel
theorem dX4_leadsOn_219 : decode cX4_leadsOn 219 = .ok (.ishl, 1) := by decide +kernel
theorem dX4_leadsOn_220 : decode cX4_leadsOn 220 = .ok (.ior, 1) := by decide +kernel
theorem dX4_leadsOn_221 : decode cX4_leadsOn 221 = .ok (.invokevirtual 142, 3) := by decide +kernel
theorem dX4_leadsOn_224 : decode cX4_leadsOn 224 = .ok (.baload, 1) := by decide +kernel
theorem dX4_leadsOn_225 : decode cX4_leadsOn 225 = .ok (.ifCond .eq 7, 3) := by decide +kernel
theorem dX4_leadsOn_228 : decode cX4_leadsOn 228 = .ok (.iconst 1, 1) := by decide +kernel
theorem dX4_leadsOn_229 : decode cX4_leadsOn 229 = .ok (.goto 4, 3) := by decide +kernel
theorem dX4_leadsOn_232 : decode cX4_leadsOn 232 = .ok (.iconst 0, 1) := by decide +kernel
theorem dX4_leadsOn_233 : decode cX4_leadsOn 233 = .ok (.istore 6, 2) := by decide +kernel
theorem dX4_leadsOn_235 : decode cX4_leadsOn 235 = .ok (.iinc 7 1, 3) := by decide +kernel
theorem dX4_leadsOn_238 : decode cX4_leadsOn 238 = .ok (.goto (-68), 3) := by decide +kernel
theorem dX4_leadsOn_241 : decode cX4_leadsOn 241 = .ok (.iload 6, 2) := by decide +kernel
theorem dX4_leadsOn_243 : decode cX4_leadsOn 243 = .ok (.ireturn, 1) := by decide +kernel
theorem dX4_isLawfulWith_0 : decode cX4_isLawfulWith 0 = .ok (.aload_n 0, 1) := by decide +kernel
theorem dX4_isLawfulWith_1 : decode cX4_isLawfulWith 1 = .ok (.getfield 16, 3) := by decide +kernel
theorem dX4_isLawfulWith_4 : decode cX4_isLawfulWith 4 = .ok (.iconst 0, 1) := by decide +kernel
theorem dX4_isLawfulWith_5 : decode cX4_isLawfulWith 5 = .ok (.iaload, 1) := by decide +kernel
theorem dX4_isLawfulWith_6 : decode cX4_isLawfulWith 6 = .ok (.istore_n 2, 1) := by decide +kernel
theorem dX4_isLawfulWith_7 : decode cX4_isLawfulWith 7 = .ok (.iload_n 2, 1) := by decide +kernel
theorem dX4_isLawfulWith_8 : decode cX4_isLawfulWith 8 = .ok (.ifCond .lt 104, 3) := by decide +kernel
theorem dX4_isLawfulWith_11 : decode cX4_isLawfulWith 11 = .ok (.aload_n 0, 1) := by decide +kernel
theorem dX4_isLawfulWith_12 : decode cX4_isLawfulWith 12 = .ok (.getfield 16, 3) := by decide +kernel
theorem dX4_isLawfulWith_15 : decode cX4_isLawfulWith 15 = .ok (.iconst 1, 1) := by decide +kernel
theorem dX4_isLawfulWith_16 : decode cX4_isLawfulWith 16 = .ok (.iaload, 1) := by decide +kernel
theorem dX4_isLawfulWith_17 : decode cX4_isLawfulWith 17 = .ok (.istore_n 3, 1) := by decide +kernel
theorem dX4_isLawfulWith_18 : decode cX4_isLawfulWith 18 = .ok (.iload_n 3, 1) := by decide +kernel
theorem dX4_isLawfulWith_19 : decode cX4_isLawfulWith 19 = .ok (.ifCond .lt 87, 3) := by decide +kernel
theorem dX4_isLawfulWith_22 : decode cX4_isLawfulWith 22 = .ok (.aload_n 0, 1) := by decide +kernel
theorem dX4_isLawfulWith_23 : decode cX4_isLawfulWith 23 = .ok (.getfield 16, 3) := by decide +kernel
theorem dX4_isLawfulWith_26 : decode cX4_isLawfulWith 26 = .ok (.iconst 2, 1) := by decide +kernel
theorem dX4_isLawfulWith_27 : decode cX4_isLawfulWith 27 = .ok (.iaload, 1) := by decide +kernel
theorem dX4_isLawfulWith_28 : decode cX4_isLawfulWith 28 = .ok (.istore 4, 2) := by decide +kernel
theorem dX4_isLawfulWith_30 : decode cX4_isLawfulWith 30 = .ok (.iload 4, 2) := by decide +kernel
theorem dX4_isLawfulWith_32 : decode cX4_isLawfulWith 32 = .ok (.ifCond .lt 68, 3) := by decide +kernel
theorem dX4_isLawfulWith_35 : decode cX4_isLawfulWith 35 = .ok (.sipush 255, 3) := by decide +kernel
theorem dX4_isLawfulWith_38 : decode cX4_isLawfulWith 38 = .ok (.istore 5, 2) := by decide +kernel
theorem dX4_isLawfulWith_40 : decode cX4_isLawfulWith 40 = .ok (.iload 5, 2) := by decide +kernel
theorem dX4_isLawfulWith_42 : decode cX4_isLawfulWith 42 = .ok (.ifCond .lt 52, 3) := by decide +kernel
theorem dX4_isLawfulWith_45 : decode cX4_isLawfulWith 45 = .ok (.aload_n 0, 1) := by decide +kernel
theorem dX4_isLawfulWith_46 : decode cX4_isLawfulWith 46 = .ok (.getfield 61, 3) := by decide +kernel
theorem dX4_isLawfulWith_49 : decode cX4_isLawfulWith 49 = .ok (.aload_n 0, 1) := by decide +kernel
theorem dX4_isLawfulWith_50 : decode cX4_isLawfulWith 50 = .ok (.iload_n 2, 1) := by decide +kernel
theorem dX4_isLawfulWith_51 : decode cX4_isLawfulWith 51 = .ok (.iload_n 3, 1) := by decide +kernel
theorem dX4_isLawfulWith_52 : decode cX4_isLawfulWith 52 = .ok (.iload 4, 2) := by decide +kernel
theorem dX4_isLawfulWith_54 : decode cX4_isLawfulWith 54 = .ok (.iload 5, 2) := by decide +kernel
theorem dX4_isLawfulWith_56 : decode cX4_isLawfulWith 56 = .ok (.invokevirtual 142, 3) := by decide +kernel
theorem dX4_isLawfulWith_59 : decode cX4_isLawfulWith 59 = .ok (.iload 5, 2) := by decide +kernel
theorem dX4_isLawfulWith_61 : decode cX4_isLawfulWith 61 = .ok (.iload_n 1, 1) := by decide +kernel
theorem dX4_isLawfulWith_62 : decode cX4_isLawfulWith 62 = .ok (.iconst (-1), 1) := by decide +kernel
theorem dX4_isLawfulWith_63 : decode cX4_isLawfulWith 63 = .ok (.ixor, 1) := by decide +kernel
theorem dX4_isLawfulWith_64 : decode cX4_isLawfulWith 64 = .ok (.iand, 1) := by decide +kernel
theorem dX4_isLawfulWith_65 : decode cX4_isLawfulWith 65 = .ok (.ifCond .ne 21, 3) := by decide +kernel
theorem dX4_isLawfulWith_68 : decode cX4_isLawfulWith 68 = .ok (.aload_n 0, 1) := by decide +kernel
theorem dX4_isLawfulWith_69 : decode cX4_isLawfulWith 69 = .ok (.iload_n 2, 1) := by decide +kernel
theorem dX4_isLawfulWith_70 : decode cX4_isLawfulWith 70 = .ok (.iload_n 3, 1) := by decide +kernel
theorem dX4_isLawfulWith_71 : decode cX4_isLawfulWith 71 = .ok (.iload 4, 2) := by decide +kernel
theorem dX4_isLawfulWith_73 : decode cX4_isLawfulWith 73 = .ok (.iload 5, 2) := by decide +kernel
theorem dX4_isLawfulWith_75 : decode cX4_isLawfulWith 75 = .ok (.iload_n 1, 1) := by decide +kernel
theorem dX4_isLawfulWith_76 : decode cX4_isLawfulWith 76 = .ok (.invokevirtual 146, 3) := by decide +kernel
theorem dX4_isLawfulWith_79 : decode cX4_isLawfulWith 79 = .ok (.ifCond .eq 7, 3) := by decide +kernel
theorem dX4_isLawfulWith_82 : decode cX4_isLawfulWith 82 = .ok (.iconst 1, 1) := by decide +kernel
theorem dX4_isLawfulWith_83 : decode cX4_isLawfulWith 83 = .ok (.goto 4, 3) := by decide +kernel
theorem dX4_isLawfulWith_86 : decode cX4_isLawfulWith 86 = .ok (.iconst 0, 1) := by decide +kernel
theorem dX4_isLawfulWith_87 : decode cX4_isLawfulWith 87 = .ok (.bastore, 1) := by decide +kernel
theorem dX4_isLawfulWith_88 : decode cX4_isLawfulWith 88 = .ok (.iinc 5 (-1), 3) := by decide +kernel
theorem dX4_isLawfulWith_91 : decode cX4_isLawfulWith 91 = .ok (.goto (-51), 3) := by decide +kernel
theorem dX4_isLawfulWith_94 : decode cX4_isLawfulWith 94 = .ok (.iinc 4 (-1), 3) := by decide +kernel
theorem dX4_isLawfulWith_97 : decode cX4_isLawfulWith 97 = .ok (.goto (-67), 3) := by decide +kernel
theorem dX4_isLawfulWith_100 : decode cX4_isLawfulWith 100 = .ok (.iinc 3 (-1), 3) := by decide +kernel
theorem dX4_isLawfulWith_103 : decode cX4_isLawfulWith 103 = .ok (.goto (-85), 3) := by decide +kernel
theorem dX4_isLawfulWith_106 : decode cX4_isLawfulWith 106 = .ok (.iinc 2 (-1), 3) := by decide +kernel
theorem dX4_isLawfulWith_109 : decode cX4_isLawfulWith 109 = .ok (.goto (-102), 3) := by decide +kernel
theorem dX4_isLawfulWith_112 : decode cX4_isLawfulWith 112 = .ok (.aload_n 0, 1) := by decide +kernel
theorem dX4_isLawfulWith_113 : decode cX4_isLawfulWith 113 = .ok (.getfield 61, 3) := by decide +kernel
theorem dX4_isLawfulWith_116 : decode cX4_isLawfulWith 116 = .ok (.iconst 0, 1) := by decide +kernel
theorem dX4_isLawfulWith_117 : decode cX4_isLawfulWith 117 = .ok (.baload, 1) := by decide +kernel
theorem dX4_isLawfulWith_118 : decode cX4_isLawfulWith 118 = .ok (.ireturn, 1) := by decide +kernel
theorem dX4_isLawful_0 : decode cX4_isLawful 0 = .ok (.aload_n 0, 1) := by decide +kernel
theorem dX4_isLawful_1 : decode cX4_isLawful 1 = .ok (.iconst 0, 1) := by decide +kernel
theorem dX4_isLawful_2 : decode cX4_isLawful 2 = .ok (.putfield 65, 3) := by decide +kernel
theorem dX4_isLawful_5 : decode cX4_isLawful 5 = .ok (.aload_n 0, 1) := by decide +kernel
theorem dX4_isLawful_6 : decode cX4_isLawful 6 = .ok (.aload_n 0, 1) := by decide +kernel
theorem dX4_isLawful_7 : decode cX4_isLawful 7 = .ok (.getfield 111, 3) := by decide +kernel
theorem dX4_isLawful_10 : decode cX4_isLawful 10 = .ok (.invokevirtual 121, 3) := by decide +kernel
theorem dX4_isLawful_13 : decode cX4_isLawful 13 = .ok (.ireturn, 1) := by decide +kernel
theorem dX4_isLawfulByOrders_0 : decode cX4_isLawfulByOrders 0 = .ok (.aload_n 0, 1) := by decide +kernel
theorem dX4_isLawfulByOrders_1 : decode cX4_isLawfulByOrders 1 = .ok (.aload_n 0, 1) := by decide +kernel
theorem dX4_isLawfulByOrders_2 : decode cX4_isLawfulByOrders 2 = .ok (.getfield 95, 3) := by decide +kernel
theorem dX4_isLawfulByOrders_5 : decode cX4_isLawfulByOrders 5 = .ok (.aload_n 0, 1) := by decide +kernel
theorem dX4_isLawfulByOrders_6 : decode cX4_isLawfulByOrders 6 = .ok (.getfield 111, 3) := by decide +kernel
theorem dX4_isLawfulByOrders_9 : decode cX4_isLawfulByOrders 9 = .ok (.invokestatic 98, 3) := by decide +kernel
theorem dX4_isLawfulByOrders_12 : decode cX4_isLawfulByOrders 12 = .ok (.iadd, 1) := by decide +kernel
theorem dX4_isLawfulByOrders_13 : decode cX4_isLawfulByOrders 13 = .ok (.bipush 8, 2) := by decide +kernel
theorem dX4_isLawfulByOrders_15 : decode cX4_isLawfulByOrders 15 = .ok (.if_icmp .gt 7, 3) := by decide +kernel
theorem dX4_isLawfulByOrders_18 : decode cX4_isLawfulByOrders 18 = .ok (.iconst 1, 1) := by decide +kernel
theorem dX4_isLawfulByOrders_19 : decode cX4_isLawfulByOrders 19 = .ok (.goto 4, 3) := by decide +kernel
theorem dX4_isLawfulByOrders_22 : decode cX4_isLawfulByOrders 22 = .ok (.iconst 0, 1) := by decide +kernel
theorem dX4_isLawfulByOrders_23 : decode cX4_isLawfulByOrders 23 = .ok (.iconst 1, 1) := by decide +kernel
theorem dX4_isLawfulByOrders_24 : decode cX4_isLawfulByOrders 24 = .ok (.iconst 1, 1) := by decide +kernel
theorem dX4_isLawfulByOrders_25 : decode cX4_isLawfulByOrders 25 = .ok (.invokevirtual 77, 3) := by decide +kernel
theorem dX4_isLawfulByOrders_28 : decode cX4_isLawfulByOrders 28 = .ok (.ifCond .eq 18, 3) := by decide +kernel
theorem dX4_isLawfulByOrders_31 : decode cX4_isLawfulByOrders 31 = .ok (.aload_n 0, 1) := by decide +kernel
theorem dX4_isLawfulByOrders_32 : decode cX4_isLawfulByOrders 32 = .ok (.aload_n 0, 1) := by decide +kernel
theorem dX4_isLawfulByOrders_33 : decode cX4_isLawfulByOrders 33 = .ok (.getfield 111, 3) := by decide +kernel
theorem dX4_isLawfulByOrders_36 : decode cX4_isLawfulByOrders 36 = .ok (.invokevirtual 121, 3) := by decide +kernel
theorem dX4_isLawfulByOrders_39 : decode cX4_isLawfulByOrders 39 = .ok (.ifCond .eq 7, 3) := by decide +kernel
theorem dX4_isLawfulByOrders_42 : decode cX4_isLawfulByOrders 42 = .ok (.iconst 1, 1) := by decide +kernel
theorem dX4_isLawfulByOrders_43 : decode cX4_isLawfulByOrders 43 = .ok (.goto 4, 3) := by decide +kernel
theorem dX4_isLawfulByOrders_46 : decode cX4_isLawfulByOrders 46 = .ok (.iconst 0, 1) := by decide +kernel
theorem dX4_isLawfulByOrders_47 : decode cX4_isLawfulByOrders 47 = .ok (.ireturn, 1) := by decide +kernel
theorem dX4_firstStep_0 : decode cX4_firstStep 0 = .ok (.iload_n 1, 1) := by decide +kernel
theorem dX4_firstStep_1 : decode cX4_firstStep 1 = .ok (.aload_n 0, 1) := by decide +kernel
theorem dX4_firstStep_2 : decode cX4_firstStep 2 = .ok (.getfield 16, 3) := by decide +kernel
theorem dX4_firstStep_5 : decode cX4_firstStep 5 = .ok (.iconst 0, 1) := by decide +kernel
theorem dX4_firstStep_6 : decode cX4_firstStep 6 = .ok (.iaload, 1) := by decide +kernel
theorem dX4_firstStep_7 : decode cX4_firstStep 7 = .ok (.if_icmp .ge 24, 3) := by decide +kernel
theorem dX4_firstStep_10 : decode cX4_firstStep 10 = .ok (.aload_n 0, 1) := by decide +kernel
theorem dX4_firstStep_11 : decode cX4_firstStep 11 = .ok (.getfield 61, 3) := by decide +kernel
theorem dX4_firstStep_14 : decode cX4_firstStep 14 = .ok (.aload_n 0, 1) := by decide +kernel
theorem dX4_firstStep_15 : decode cX4_firstStep 15 = .ok (.iload_n 1, 1) := by decide +kernel
theorem dX4_firstStep_16 : decode cX4_firstStep 16 = .ok (.iconst 1, 1) := by decide +kernel
theorem dX4_firstStep_17 : decode cX4_firstStep 17 = .ok (.iadd, 1) := by decide +kernel
theorem dX4_firstStep_18 : decode cX4_firstStep 18 = .ok (.iload_n 2, 1) := by decide +kernel
theorem dX4_firstStep_19 : decode cX4_firstStep 19 = .ok (.iload_n 3, 1) := by decide +kernel
theorem dX4_firstStep_20 : decode cX4_firstStep 20 = .ok (.iload 4, 2) := by decide +kernel
theorem dX4_firstStep_22 : decode cX4_firstStep 22 = .ok (.invokevirtual 142, 3) := by decide +kernel
theorem dX4_firstStep_25 : decode cX4_firstStep 25 = .ok (.baload, 1) := by decide +kernel
theorem dX4_firstStep_26 : decode cX4_firstStep 26 = .ok (.ifCond .eq 5, 3) := by decide +kernel
theorem dX4_firstStep_29 : decode cX4_firstStep 29 = .ok (.iconst 0, 1) := by decide +kernel
theorem dX4_firstStep_30 : decode cX4_firstStep 30 = .ok (.ireturn, 1) := by decide +kernel
theorem dX4_firstStep_31 : decode cX4_firstStep 31 = .ok (.iload_n 2, 1) := by decide +kernel
theorem dX4_firstStep_32 : decode cX4_firstStep 32 = .ok (.aload_n 0, 1) := by decide +kernel
theorem dX4_firstStep_33 : decode cX4_firstStep 33 = .ok (.getfield 16, 3) := by decide +kernel
theorem dX4_firstStep_36 : decode cX4_firstStep 36 = .ok (.iconst 1, 1) := by decide +kernel
theorem dX4_firstStep_37 : decode cX4_firstStep 37 = .ok (.iaload, 1) := by decide +kernel
theorem dX4_firstStep_38 : decode cX4_firstStep 38 = .ok (.if_icmp .ge 24, 3) := by decide +kernel
theorem dX4_firstStep_41 : decode cX4_firstStep 41 = .ok (.aload_n 0, 1) := by decide +kernel
theorem dX4_firstStep_42 : decode cX4_firstStep 42 = .ok (.getfield 61, 3) := by decide +kernel
theorem dX4_firstStep_45 : decode cX4_firstStep 45 = .ok (.aload_n 0, 1) := by decide +kernel
theorem dX4_firstStep_46 : decode cX4_firstStep 46 = .ok (.iload_n 1, 1) := by decide +kernel
theorem dX4_firstStep_47 : decode cX4_firstStep 47 = .ok (.iload_n 2, 1) := by decide +kernel
theorem dX4_firstStep_48 : decode cX4_firstStep 48 = .ok (.iconst 1, 1) := by decide +kernel
theorem dX4_firstStep_49 : decode cX4_firstStep 49 = .ok (.iadd, 1) := by decide +kernel
theorem dX4_firstStep_50 : decode cX4_firstStep 50 = .ok (.iload_n 3, 1) := by decide +kernel
theorem dX4_firstStep_51 : decode cX4_firstStep 51 = .ok (.iload 4, 2) := by decide +kernel
theorem dX4_firstStep_53 : decode cX4_firstStep 53 = .ok (.invokevirtual 142, 3) := by decide +kernel
theorem dX4_firstStep_56 : decode cX4_firstStep 56 = .ok (.baload, 1) := by decide +kernel
theorem dX4_firstStep_57 : decode cX4_firstStep 57 = .ok (.ifCond .eq 5, 3) := by decide +kernel
theorem dX4_firstStep_60 : decode cX4_firstStep 60 = .ok (.iconst 1, 1) := by decide +kernel
theorem dX4_firstStep_61 : decode cX4_firstStep 61 = .ok (.ireturn, 1) := by decide +kernel
theorem dX4_firstStep_62 : decode cX4_firstStep 62 = .ok (.iload_n 3, 1) := by decide +kernel
theorem dX4_firstStep_63 : decode cX4_firstStep 63 = .ok (.aload_n 0, 1) := by decide +kernel
theorem dX4_firstStep_64 : decode cX4_firstStep 64 = .ok (.getfield 16, 3) := by decide +kernel
theorem dX4_firstStep_67 : decode cX4_firstStep 67 = .ok (.iconst 2, 1) := by decide +kernel
theorem dX4_firstStep_68 : decode cX4_firstStep 68 = .ok (.iaload, 1) := by decide +kernel
theorem dX4_firstStep_69 : decode cX4_firstStep 69 = .ok (.if_icmp .ge 24, 3) := by decide +kernel
theorem dX4_firstStep_72 : decode cX4_firstStep 72 = .ok (.aload_n 0, 1) := by decide +kernel
theorem dX4_firstStep_73 : decode cX4_firstStep 73 = .ok (.getfield 61, 3) := by decide +kernel
theorem dX4_firstStep_76 : decode cX4_firstStep 76 = .ok (.aload_n 0, 1) := by decide +kernel
theorem dX4_firstStep_77 : decode cX4_firstStep 77 = .ok (.iload_n 1, 1) := by decide +kernel
theorem dX4_firstStep_78 : decode cX4_firstStep 78 = .ok (.iload_n 2, 1) := by decide +kernel
theorem dX4_firstStep_79 : decode cX4_firstStep 79 = .ok (.iload_n 3, 1) := by decide +kernel
theorem dX4_firstStep_80 : decode cX4_firstStep 80 = .ok (.iconst 1, 1) := by decide +kernel
theorem dX4_firstStep_81 : decode cX4_firstStep 81 = .ok (.iadd, 1) := by decide +kernel
theorem dX4_firstStep_82 : decode cX4_firstStep 82 = .ok (.iload 4, 2) := by decide +kernel
theorem dX4_firstStep_84 : decode cX4_firstStep 84 = .ok (.invokevirtual 142, 3) := by decide +kernel
theorem dX4_firstStep_87 : decode cX4_firstStep 87 = .ok (.baload, 1) := by decide +kernel
theorem dX4_firstStep_88 : decode cX4_firstStep 88 = .ok (.ifCond .eq 5, 3) := by decide +kernel
theorem dX4_firstStep_91 : decode cX4_firstStep 91 = .ok (.iconst 2, 1) := by decide +kernel
theorem dX4_firstStep_92 : decode cX4_firstStep 92 = .ok (.ireturn, 1) := by decide +kernel
theorem dX4_firstStep_93 : decode cX4_firstStep 93 = .ok (.iconst (-1), 1) := by decide +kernel
theorem dX4_firstStep_94 : decode cX4_firstStep 94 = .ok (.istore 5, 2) := by decide +kernel
theorem dX4_firstStep_96 : decode cX4_firstStep 96 = .ok (.bipush 7, 2) := by decide +kernel
theorem dX4_firstStep_98 : decode cX4_firstStep 98 = .ok (.istore 6, 2) := by decide +kernel
theorem dX4_firstStep_100 : decode cX4_firstStep 100 = .ok (.iload 6, 2) := by decide +kernel
theorem dX4_firstStep_102 : decode cX4_firstStep 102 = .ok (.ifCond .lt 81, 3) := by decide +kernel
theorem dX4_firstStep_105 : decode cX4_firstStep 105 = .ok (.aload_n 0, 1) := by decide +kernel
theorem dX4_firstStep_106 : decode cX4_firstStep 106 = .ok (.getfield 111, 3) := by decide +kernel
theorem dX4_firstStep_109 : decode cX4_firstStep 109 = .ok (.iload 6, 2) := by decide +kernel
theorem dX4_firstStep_111 : decode cX4_firstStep 111 = .ok (.invokestatic 107, 3) := by decide +kernel
theorem dX4_firstStep_114 : decode cX4_firstStep 114 = .ok (.ifCond .eq 21, 3) := by decide +kernel
theorem dX4_firstStep_117 : decode cX4_firstStep 117 = .ok (.aload_n 0, 1) := by decide +kernel
theorem dX4_firstStep_118 : decode cX4_firstStep 118 = .ok (.iload 6, 2) := by decide +kernel
theorem dX4_firstStep_120 : decode cX4_firstStep 120 = .ok (.iload_n 1, 1) := by decide +kernel
theorem dX4_firstStep_121 : decode cX4_firstStep 121 = .ok (.iload_n 2, 1) := by decide +kernel
theorem dX4_firstStep_122 : decode cX4_firstStep 122 = .ok (.iload_n 3, 1) := by decide +kernel
theorem dX4_firstStep_123 : decode cX4_firstStep 123 = .ok (.iload 4, 2) := by decide +kernel
theorem dX4_firstStep_125 : decode cX4_firstStep 125 = .ok (.invokevirtual 114, 3) := by decide +kernel
theorem dX4_firstStep_128 : decode cX4_firstStep 128 = .ok (.ifCond .eq 7, 3) := by decide +kernel
theorem dX4_firstStep_131 : decode cX4_firstStep 131 = .ok (.iconst 1, 1) := by decide +kernel
theorem dX4_firstStep_132 : decode cX4_firstStep 132 = .ok (.goto 4, 3) := by decide +kernel
theorem dX4_firstStep_135 : decode cX4_firstStep 135 = .ok (.iconst 0, 1) := by decide +kernel
theorem dX4_firstStep_136 : decode cX4_firstStep 136 = .ok (.istore 7, 2) := by decide +kernel
theorem dX4_firstStep_138 : decode cX4_firstStep 138 = .ok (.iload 7, 2) := by decide +kernel
theorem dX4_firstStep_140 : decode cX4_firstStep 140 = .ok (.ifCond .eq 33, 3) := by decide +kernel
theorem dX4_firstStep_143 : decode cX4_firstStep 143 = .ok (.aload_n 0, 1) := by decide +kernel
theorem dX4_firstStep_144 : decode cX4_firstStep 144 = .ok (.getfield 61, 3) := by decide +kernel
theorem dX4_firstStep_147 : decode cX4_firstStep 147 = .ok (.aload_n 0, 1) := by decide +kernel
theorem dX4_firstStep_148 : decode cX4_firstStep 148 = .ok (.iload_n 1, 1) := by decide +kernel
theorem dX4_firstStep_149 : decode cX4_firstStep 149 = .ok (.iload_n 2, 1) := by decide +kernel
theorem dX4_firstStep_150 : decode cX4_firstStep 150 = .ok (.iload_n 3, 1) := by decide +kernel
theorem dX4_firstStep_151 : decode cX4_firstStep 151 = .ok (.iload 4, 2) := by decide +kernel
theorem dX4_firstStep_153 : decode cX4_firstStep 153 = .ok (.iconst 1, 1) := by decide +kernel
theorem dX4_firstStep_154 : decode cX4_firstStep 154 = .ok (.iload 6, 2) := by decide +kernel
theorem dX4_firstStep_156 : decode cX4_firstStep 156 = .ok (.ishl, 1) := by decide +kernel
theorem dX4_firstStep_157 : decode cX4_firstStep 157 = .ok (.ior, 1) := by decide +kernel
theorem dX4_firstStep_158 : decode cX4_firstStep 158 = .ok (.invokevirtual 142, 3) := by decide +kernel
theorem dX4_firstStep_161 : decode cX4_firstStep 161 = .ok (.baload, 1) := by decide +kernel
theorem dX4_firstStep_162 : decode cX4_firstStep 162 = .ok (.ifCond .eq 11, 3) := by decide +kernel
theorem dX4_firstStep_165 : decode cX4_firstStep 165 = .ok (.bipush 10, 2) := by decide +kernel
theorem dX4_firstStep_167 : decode cX4_firstStep 167 = .ok (.iload 6, 2) := by decide +kernel
theorem dX4_firstStep_169 : decode cX4_firstStep 169 = .ok (.iadd, 1) := by decide +kernel
theorem dX4_firstStep_170 : decode cX4_firstStep 170 = .ok (.goto 5, 3) := by decide +kernel
theorem dX4_firstStep_173 : decode cX4_firstStep 173 = .ok (.iload 5, 2) := by decide +kernel
theorem dX4_firstStep_175 : decode cX4_firstStep 175 = .ok (.istore 5, 2) := by decide +kernel
theorem dX4_firstStep_177 : decode cX4_firstStep 177 = .ok (.iinc 6 (-1), 3) := by decide +kernel
theorem dX4_firstStep_180 : decode cX4_firstStep 180 = .ok (.goto (-80), 3) := by decide +kernel
theorem dX4_firstStep_183 : decode cX4_firstStep 183 = .ok (.iload 5, 2) := by decide +kernel
theorem dX4_firstStep_185 : decode cX4_firstStep 185 = .ok (.ireturn, 1) := by decide +kernel
theorem dX4_stepAt_0 : decode cX4_stepAt 0 = .ok (.aload_n 0, 1) := by decide +kernel
theorem dX4_stepAt_1 : decode cX4_stepAt 1 = .ok (.iload_n 1, 1) := by decide +kernel
theorem dX4_stepAt_2 : decode cX4_stepAt 2 = .ok (.ifCond .lt 7, 3) := by decide +kernel
theorem dX4_stepAt_5 : decode cX4_stepAt 5 = .ok (.iconst 1, 1) := by decide +kernel
theorem dX4_stepAt_6 : decode cX4_stepAt 6 = .ok (.goto 4, 3) := by decide +kernel
theorem dX4_stepAt_9 : decode cX4_stepAt 9 = .ok (.iconst 0, 1) := by decide +kernel
theorem dX4_stepAt_10 : decode cX4_stepAt 10 = .ok (.aload_n 0, 1) := by decide +kernel
theorem dX4_stepAt_11 : decode cX4_stepAt 11 = .ok (.aload_n 0, 1) := by decide +kernel
theorem dX4_stepAt_12 : decode cX4_stepAt 12 = .ok (.getfield 111, 3) := by decide +kernel
theorem dX4_stepAt_15 : decode cX4_stepAt 15 = .ok (.invokevirtual 121, 3) := by decide +kernel
theorem dX4_stepAt_18 : decode cX4_stepAt 18 = .ok (.iconst 1, 1) := by decide +kernel
theorem dX4_stepAt_19 : decode cX4_stepAt 19 = .ok (.invokevirtual 77, 3) := by decide +kernel
theorem dX4_stepAt_22 : decode cX4_stepAt 22 = .ok (.ifCond .eq 19, 3) := by decide +kernel
theorem dX4_stepAt_25 : decode cX4_stepAt 25 = .ok (.iload_n 1, 1) := by decide +kernel
theorem dX4_stepAt_26 : decode cX4_stepAt 26 = .ok (.aload_n 0, 1) := by decide +kernel
theorem dX4_stepAt_27 : decode cX4_stepAt 27 = .ok (.getfield 95, 3) := by decide +kernel
theorem dX4_stepAt_30 : decode cX4_stepAt 30 = .ok (.aload_n 0, 1) := by decide +kernel
theorem dX4_stepAt_31 : decode cX4_stepAt 31 = .ok (.getfield 111, 3) := by decide +kernel
theorem dX4_stepAt_34 : decode cX4_stepAt 34 = .ok (.invokestatic 98, 3) := by decide +kernel
theorem dX4_stepAt_37 : decode cX4_stepAt 37 = .ok (.iadd, 1) := by decide +kernel
theorem dX4_stepAt_38 : decode cX4_stepAt 38 = .ok (.if_icmp .lt 16, 3) := by decide +kernel
theorem dX4_stepAt_41 : decode cX4_stepAt 41 = .ok (.aload_n 0, 1) := by decide +kernel
theorem dX4_stepAt_42 : decode cX4_stepAt 42 = .ok (.getfield 65, 3) := by decide +kernel
theorem dX4_stepAt_45 : decode cX4_stepAt 45 = .ok (.ifCond .ne 7, 3) := by decide +kernel
theorem dX4_stepAt_48 : decode cX4_stepAt 48 = .ok (.iconst (-1), 1) := by decide +kernel
theorem dX4_stepAt_49 : decode cX4_stepAt 49 = .ok (.goto 4, 3) := by decide +kernel
theorem dX4_stepAt_52 : decode cX4_stepAt 52 = .ok (.iconst 0, 1) := by decide +kernel
theorem dX4_stepAt_53 : decode cX4_stepAt 53 = .ok (.ireturn, 1) := by decide +kernel
theorem dX4_stepAt_54 : decode cX4_stepAt 54 = .ok (.iconst 0, 1) := by decide +kernel
theorem dX4_stepAt_55 : decode cX4_stepAt 55 = .ok (.istore_n 2, 1) := by decide +kernel
theorem dX4_stepAt_56 : decode cX4_stepAt 56 = .ok (.iconst 0, 1) := by decide +kernel
theorem dX4_stepAt_57 : decode cX4_stepAt 57 = .ok (.istore_n 3, 1) := by decide +kernel
theorem dX4_stepAt_58 : decode cX4_stepAt 58 = .ok (.iconst 0, 1) := by decide +kernel
theorem dX4_stepAt_59 : decode cX4_stepAt 59 = .ok (.istore 4, 2) := by decide +kernel
theorem dX4_stepAt_61 : decode cX4_stepAt 61 = .ok (.iconst 0, 1) := by decide +kernel
theorem dX4_stepAt_62 : decode cX4_stepAt 62 = .ok (.istore 5, 2) := by decide +kernel
theorem dX4_stepAt_64 : decode cX4_stepAt 64 = .ok (.aload_n 0, 1) := by decide +kernel
theorem dX4_stepAt_65 : decode cX4_stepAt 65 = .ok (.iload_n 2, 1) := by decide +kernel
theorem dX4_stepAt_66 : decode cX4_stepAt 66 = .ok (.iload_n 3, 1) := by decide +kernel
theorem dX4_stepAt_67 : decode cX4_stepAt 67 = .ok (.iload 4, 2) := by decide +kernel
theorem dX4_stepAt_69 : decode cX4_stepAt 69 = .ok (.iload 5, 2) := by decide +kernel
theorem dX4_stepAt_71 : decode cX4_stepAt 71 = .ok (.invokevirtual 149, 3) := by decide +kernel
theorem dX4_stepAt_74 : decode cX4_stepAt 74 = .ok (.istore 6, 2) := by decide +kernel
theorem dX4_stepAt_76 : decode cX4_stepAt 76 = .ok (.iconst 0, 1) := by decide +kernel
theorem dX4_stepAt_77 : decode cX4_stepAt 77 = .ok (.istore 7, 2) := by decide +kernel
theorem dX4_stepAt_79 : decode cX4_stepAt 79 = .ok (.iload 7, 2) := by decide +kernel
theorem dX4_stepAt_81 : decode cX4_stepAt 81 = .ok (.iload_n 1, 1) := by decide +kernel
theorem dX4_stepAt_82 : decode cX4_stepAt 82 = .ok (.if_icmp .ge 87, 3) := by decide +kernel
theorem dX4_stepAt_85 : decode cX4_stepAt 85 = .ok (.iload_n 2, 1) := by decide +kernel
theorem dX4_stepAt_86 : decode cX4_stepAt 86 = .ok (.iload 6, 2) := by decide +kernel
theorem dX4_stepAt_88 : decode cX4_stepAt 88 = .ok (.ifCond .ne 7, 3) := by decide +kernel
theorem dX4_stepAt_91 : decode cX4_stepAt 91 = .ok (.iconst 1, 1) := by decide +kernel
theorem dX4_stepAt_92 : decode cX4_stepAt 92 = .ok (.goto 4, 3) := by decide +kernel
theorem dX4_stepAt_95 : decode cX4_stepAt 95 = .ok (.iconst 0, 1) := by decide +kernel
theorem dX4_stepAt_96 : decode cX4_stepAt 96 = .ok (.iadd, 1) := by decide +kernel
theorem dX4_stepAt_97 : decode cX4_stepAt 97 = .ok (.istore_n 2, 1) := by decide +kernel
theorem dX4_stepAt_98 : decode cX4_stepAt 98 = .ok (.iload_n 3, 1) := by decide +kernel
theorem dX4_stepAt_99 : decode cX4_stepAt 99 = .ok (.iload 6, 2) := by decide +kernel
theorem dX4_stepAt_101 : decode cX4_stepAt 101 = .ok (.iconst 1, 1) := by decide +kernel
theorem dX4_stepAt_102 : decode cX4_stepAt 102 = .ok (.if_icmp .ne 7, 3) := by decide +kernel
theorem dX4_stepAt_105 : decode cX4_stepAt 105 = .ok (.iconst 1, 1) := by decide +kernel
theorem dX4_stepAt_106 : decode cX4_stepAt 106 = .ok (.goto 4, 3) := by decide +kernel
theorem dX4_stepAt_109 : decode cX4_stepAt 109 = .ok (.iconst 0, 1) := by decide +kernel
theorem dX4_stepAt_110 : decode cX4_stepAt 110 = .ok (.iadd, 1) := by decide +kernel
theorem dX4_stepAt_111 : decode cX4_stepAt 111 = .ok (.istore_n 3, 1) := by decide +kernel
theorem dX4_stepAt_112 : decode cX4_stepAt 112 = .ok (.iload 4, 2) := by decide +kernel
theorem dX4_stepAt_114 : decode cX4_stepAt 114 = .ok (.iload 6, 2) := by decide +kernel
theorem dX4_stepAt_116 : decode cX4_stepAt 116 = .ok (.iconst 2, 1) := by decide +kernel
theorem dX4_stepAt_117 : decode cX4_stepAt 117 = .ok (.if_icmp .ne 7, 3) := by decide +kernel
theorem dX4_stepAt_120 : decode cX4_stepAt 120 = .ok (.iconst 1, 1) := by decide +kernel
theorem dX4_stepAt_121 : decode cX4_stepAt 121 = .ok (.goto 4, 3) := by decide +kernel
theorem dX4_stepAt_124 : decode cX4_stepAt 124 = .ok (.iconst 0, 1) := by decide +kernel
theorem dX4_stepAt_125 : decode cX4_stepAt 125 = .ok (.iadd, 1) := by decide +kernel
theorem dX4_stepAt_126 : decode cX4_stepAt 126 = .ok (.istore 4, 2) := by decide +kernel
theorem dX4_stepAt_128 : decode cX4_stepAt 128 = .ok (.iload 5, 2) := by decide +kernel
theorem dX4_stepAt_130 : decode cX4_stepAt 130 = .ok (.iload 6, 2) := by decide +kernel
theorem dX4_stepAt_132 : decode cX4_stepAt 132 = .ok (.bipush 10, 2) := by decide +kernel
theorem dX4_stepAt_134 : decode cX4_stepAt 134 = .ok (.if_icmp .lt 13, 3) := by decide +kernel
theorem dX4_stepAt_137 : decode cX4_stepAt 137 = .ok (.iconst 1, 1) := by decide +kernel
theorem dX4_stepAt_138 : decode cX4_stepAt 138 = .ok (.iload 6, 2) := by decide +kernel
theorem dX4_stepAt_140 : decode cX4_stepAt 140 = .ok (.bipush 10, 2) := by decide +kernel
theorem dX4_stepAt_142 : decode cX4_stepAt 142 = .ok (.isub, 1) := by decide +kernel
theorem dX4_stepAt_143 : decode cX4_stepAt 143 = .ok (.ishl, 1) := by decide +kernel
theorem dX4_stepAt_144 : decode cX4_stepAt 144 = .ok (.goto 4, 3) := by decide +kernel
theorem dX4_stepAt_147 : decode cX4_stepAt 147 = .ok (.iconst 0, 1) := by decide +kernel
theorem dX4_stepAt_148 : decode cX4_stepAt 148 = .ok (.ior, 1) := by decide +kernel
theorem dX4_stepAt_149 : decode cX4_stepAt 149 = .ok (.istore 5, 2) := by decide +kernel
theorem dX4_stepAt_151 : decode cX4_stepAt 151 = .ok (.aload_n 0, 1) := by decide +kernel
theorem dX4_stepAt_152 : decode cX4_stepAt 152 = .ok (.iload_n 2, 1) := by decide +kernel
theorem dX4_stepAt_153 : decode cX4_stepAt 153 = .ok (.iload_n 3, 1) := by decide +kernel
theorem dX4_stepAt_154 : decode cX4_stepAt 154 = .ok (.iload 4, 2) := by decide +kernel
theorem dX4_stepAt_156 : decode cX4_stepAt 156 = .ok (.iload 5, 2) := by decide +kernel
theorem dX4_stepAt_158 : decode cX4_stepAt 158 = .ok (.invokevirtual 149, 3) := by decide +kernel
theorem dX4_stepAt_161 : decode cX4_stepAt 161 = .ok (.istore 6, 2) := by decide +kernel
theorem dX4_stepAt_163 : decode cX4_stepAt 163 = .ok (.iinc 7 1, 3) := by decide +kernel
theorem dX4_stepAt_166 : decode cX4_stepAt 166 = .ok (.goto (-87), 3) := by decide +kernel
theorem dX4_stepAt_169 : decode cX4_stepAt 169 = .ok (.iload 6, 2) := by decide +kernel
theorem dX4_stepAt_171 : decode cX4_stepAt 171 = .ok (.ireturn, 1) := by decide +kernel
