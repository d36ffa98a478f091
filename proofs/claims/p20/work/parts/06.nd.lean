theorem dX11_sign_0 : decode cX11_sign 0 = .ok (.iload_n 1, 1) := by decide +kernel
theorem dX11_sign_1 : decode cX11_sign 1 = .ok (.aload_n 0, 1) := by decide +kernel
theorem dX11_sign_2 : decode cX11_sign 2 = .ok (.getfield 1, 3) := by decide +kernel
theorem dX11_sign_5 : decode cX11_sign 5 = .ok (.if_icmp .ge 16, 3) := by decide +kernel
theorem dX11_sign_8 : decode cX11_sign 8 = .ok (.aload_n 0, 1) := by decide +kernel
theorem dX11_sign_9 : decode cX11_sign 9 = .ok (.getfield 7, 3) := by decide +kernel
theorem dX11_sign_12 : decode cX11_sign 12 = .ok (.iload_n 1, 1) := by decide +kernel
theorem dX11_sign_13 : decode cX11_sign 13 = .ok (.baload, 1) := by decide +kernel
theorem dX11_sign_14 : decode cX11_sign 14 = .ok (.sipush 255, 3) := by decide +kernel
theorem dX11_sign_17 : decode cX11_sign 17 = .ok (.iand, 1) := by decide +kernel
theorem dX11_sign_18 : decode cX11_sign 18 = .ok (.goto 4, 3) := by decide +kernel
theorem dX11_sign_21 : decode cX11_sign 21 = .ok (.iconst 0, 1) := by decide +kernel
theorem dX11_sign_22 : decode cX11_sign 22 = .ok (.ireturn, 1) := by decide +kernel
theorem dX11_isLetter_0 : decode cX11_isLetter 0 = .ok (.iload_n 0, 1) := by decide +kernel
theorem dX11_isLetter_1 : decode cX11_isLetter 1 = .ok (.bipush 97, 2) := by decide +kernel
theorem dX11_isLetter_3 : decode cX11_isLetter 3 = .ok (.if_icmp .lt 13, 3) := by decide +kernel
theorem dX11_isLetter_6 : decode cX11_isLetter 6 = .ok (.iload_n 0, 1) := by decide +kernel
theorem dX11_isLetter_7 : decode cX11_isLetter 7 = .ok (.bipush 122, 2) := by decide +kernel
theorem dX11_isLetter_9 : decode cX11_isLetter 9 = .ok (.if_icmp .gt 7, 3) := by decide +kernel
theorem dX11_isLetter_12 : decode cX11_isLetter 12 = .ok (.iconst 1, 1) := by decide +kernel
theorem dX11_isLetter_13 : decode cX11_isLetter 13 = .ok (.goto 4, 3) := by decide +kernel
theorem dX11_isLetter_16 : decode cX11_isLetter 16 = .ok (.iconst 0, 1) := by decide +kernel
theorem dX11_isLetter_17 : decode cX11_isLetter 17 = .ok (.ireturn, 1) := by decide +kernel
theorem dX11_isDigit_0 : decode cX11_isDigit 0 = .ok (.iload_n 0, 1) := by decide +kernel
theorem dX11_isDigit_1 : decode cX11_isDigit 1 = .ok (.bipush 48, 2) := by decide +kernel
theorem dX11_isDigit_3 : decode cX11_isDigit 3 = .ok (.if_icmp .lt 13, 3) := by decide +kernel
theorem dX11_isDigit_6 : decode cX11_isDigit 6 = .ok (.iload_n 0, 1) := by decide +kernel
theorem dX11_isDigit_7 : decode cX11_isDigit 7 = .ok (.bipush 57, 2) := by decide +kernel
theorem dX11_isDigit_9 : decode cX11_isDigit 9 = .ok (.if_icmp .gt 7, 3) := by decide +kernel
theorem dX11_isDigit_12 : decode cX11_isDigit 12 = .ok (.iconst 1, 1) := by decide +kernel
theorem dX11_isDigit_13 : decode cX11_isDigit 13 = .ok (.goto 4, 3) := by decide +kernel
theorem dX11_isDigit_16 : decode cX11_isDigit 16 = .ok (.iconst 0, 1) := by decide +kernel
theorem dX11_isDigit_17 : decode cX11_isDigit 17 = .ok (.ireturn, 1) := by decide +kernel
theorem dX11_fails_0 : decode cX11_fails 0 = .ok (.aload_n 0, 1) := by decide +kernel
theorem dX11_fails_1 : decode cX11_fails 1 = .ok (.getfield 11, 3) := by decide +kernel
theorem dX11_fails_4 : decode cX11_fails 4 = .ok (.ifCond .le 4, 3) := by decide +kernel
theorem dX11_fails_7 : decode cX11_fails 7 = .ok (.return_, 1) := by decide +kernel
theorem dX11_fails_8 : decode cX11_fails 8 = .ok (.aload_n 0, 1) := by decide +kernel
theorem dX11_fails_9 : decode cX11_fails 9 = .ok (.iload_n 1, 1) := by decide +kernel
theorem dX11_fails_10 : decode cX11_fails 10 = .ok (.putfield 11, 3) := by decide +kernel
theorem dX11_fails_13 : decode cX11_fails 13 = .ok (.aload_n 0, 1) := by decide +kernel
theorem dX11_fails_14 : decode cX11_fails 14 = .ok (.iload_n 2, 1) := by decide +kernel
theorem dX11_fails_15 : decode cX11_fails 15 = .ok (.putfield 14, 3) := by decide +kernel
theorem dX11_fails_18 : decode cX11_fails 18 = .ok (.return_, 1) := by decide +kernel
theorem dX11_isGood_0 : decode cX11_isGood 0 = .ok (.aload_n 0, 1) := by decide +kernel
theorem dX11_isGood_1 : decode cX11_isGood 1 = .ok (.getfield 11, 3) := by decide +kernel
theorem dX11_isGood_4 : decode cX11_isGood 4 = .ok (.ifCond .ne 7, 3) := by decide +kernel
theorem dX11_isGood_7 : decode cX11_isGood 7 = .ok (.iconst 1, 1) := by decide +kernel
theorem dX11_isGood_8 : decode cX11_isGood 8 = .ok (.goto 4, 3) := by decide +kernel
theorem dX11_isGood_11 : decode cX11_isGood 11 = .ok (.iconst 0, 1) := by decide +kernel
theorem dX11_isGood_12 : decode cX11_isGood 12 = .ok (.ireturn, 1) := by decide +kernel
theorem dX11_next_0 : decode cX11_next 0 = .ok (.aload_n 0, 1) := by decide +kernel
theorem dX11_next_1 : decode cX11_next 1 = .ok (.aload_n 0, 1) := by decide +kernel
theorem dX11_next_2 : decode cX11_next 2 = .ok (.getfield 17, 3) := by decide +kernel
theorem dX11_next_5 : decode cX11_next 5 = .ok (.putfield 20, 3) := by decide +kernel
theorem dX11_next_8 : decode cX11_next 8 = .ok (.aload_n 0, 1) := by decide +kernel
theorem dX11_next_9 : decode cX11_next 9 = .ok (.getfield 20, 3) := by decide +kernel
theorem dX11_next_12 : decode cX11_next 12 = .ok (.aload_n 0, 1) := by decide +kernel
theorem dX11_next_13 : decode cX11_next 13 = .ok (.getfield 1, 3) := by decide +kernel
theorem dX11_next_16 : decode cX11_next 16 = .ok (.if_icmp .ge 42, 3) := by decide +kernel
theorem dX11_next_19 : decode cX11_next 19 = .ok (.aload_n 0, 1) := by decide +kernel
theorem dX11_next_20 : decode cX11_next 20 = .ok (.aload_n 0, 1) := by decide +kernel
theorem dX11_next_21 : decode cX11_next 21 = .ok (.getfield 20, 3) := by decide +kernel
theorem dX11_next_24 : decode cX11_next 24 = .ok (.invokevirtual 23, 3) := by decide +kernel
theorem dX11_next_27 : decode cX11_next 27 = .ok (.bipush 32, 2) := by decide +kernel
theorem dX11_next_29 : decode cX11_next 29 = .ok (.if_icmp .eq 16, 3) := by decide +kernel
theorem dX11_next_32 : decode cX11_next 32 = .ok (.aload_n 0, 1) := by decide +kernel
theorem dX11_next_33 : decode cX11_next 33 = .ok (.aload_n 0, 1) := by decide +kernel
theorem dX11_next_34 : decode cX11_next 34 = .ok (.getfield 20, 3) := by decide +kernel
theorem dX11_next_37 : decode cX11_next 37 = .ok (.invokevirtual 23, 3) := by decide +kernel
theorem dX11_next_40 : decode cX11_next 40 = .ok (.bipush 10, 2) := by decide +kernel
theorem dX11_next_42 : decode cX11_next 42 = .ok (.if_icmp .ne 16, 3) := by decide +kernel
theorem dX11_next_45 : decode cX11_next 45 = .ok (.aload_n 0, 1) := by decide +kernel
theorem dX11_next_46 : decode cX11_next 46 = .ok (.dup, 1) := by decide +kernel
theorem dX11_next_47 : decode cX11_next 47 = .ok (.getfield 20, 3) := by decide +kernel
theorem dX11_next_50 : decode cX11_next 50 = .ok (.iconst 1, 1) := by decide +kernel
theorem dX11_next_51 : decode cX11_next 51 = .ok (.iadd, 1) := by decide +kernel
theorem dX11_next_52 : decode cX11_next 52 = .ok (.putfield 20, 3) := by decide +kernel
theorem dX11_next_55 : decode cX11_next 55 = .ok (.goto (-47), 3) := by decide +kernel
theorem dX11_next_58 : decode cX11_next 58 = .ok (.aload_n 0, 1) := by decide +kernel
theorem dX11_next_59 : decode cX11_next 59 = .ok (.aload_n 0, 1) := by decide +kernel
theorem dX11_next_60 : decode cX11_next 60 = .ok (.getfield 20, 3) := by decide +kernel
theorem dX11_next_63 : decode cX11_next 63 = .ok (.invokevirtual 23, 3) := by decide +kernel
theorem dX11_next_66 : decode cX11_next 66 = .ok (.istore_n 1, 1) := by decide +kernel
theorem dX11_next_67 : decode cX11_next 67 = .ok (.aload_n 0, 1) := by decide +kernel
theorem dX11_next_68 : decode cX11_next 68 = .ok (.aload_n 0, 1) := by decide +kernel
theorem dX11_next_69 : decode cX11_next 69 = .ok (.getfield 20, 3) := by decide +kernel
theorem dX11_next_72 : decode cX11_next 72 = .ok (.iconst 1, 1) := by decide +kernel
theorem dX11_next_73 : decode cX11_next 73 = .ok (.iadd, 1) := by decide +kernel
theorem dX11_next_74 : decode cX11_next 74 = .ok (.putfield 17, 3) := by decide +kernel
theorem dX11_next_77 : decode cX11_next 77 = .ok (.aload_n 0, 1) := by decide +kernel
theorem dX11_next_78 : decode cX11_next 78 = .ok (.getfield 20, 3) := by decide +kernel
theorem dX11_next_81 : decode cX11_next 81 = .ok (.aload_n 0, 1) := by decide +kernel
theorem dX11_next_82 : decode cX11_next 82 = .ok (.getfield 1, 3) := by decide +kernel
theorem dX11_next_85 : decode cX11_next 85 = .ok (.if_icmp .lt 27, 3) := by decide +kernel
theorem dX11_next_88 : decode cX11_next 88 = .ok (.aload_n 0, 1) := by decide +kernel
theorem dX11_next_89 : decode cX11_next 89 = .ok (.iconst 0, 1) := by decide +kernel
theorem dX11_next_90 : decode cX11_next 90 = .ok (.putfield 27, 3) := by decide +kernel
theorem dX11_next_93 : decode cX11_next 93 = .ok (.aload_n 0, 1) := by decide +kernel
theorem dX11_next_94 : decode cX11_next 94 = .ok (.aload_n 0, 1) := by decide +kernel
theorem dX11_next_95 : decode cX11_next 95 = .ok (.getfield 1, 3) := by decide +kernel
theorem dX11_next_98 : decode cX11_next 98 = .ok (.putfield 20, 3) := by decide +kernel
theorem dX11_next_101 : decode cX11_next 101 = .ok (.aload_n 0, 1) := by decide +kernel
theorem dX11_next_102 : decode cX11_next 102 = .ok (.aload_n 0, 1) := by decide +kernel
theorem dX11_next_103 : decode cX11_next 103 = .ok (.getfield 1, 3) := by decide +kernel
theorem dX11_next_106 : decode cX11_next 106 = .ok (.putfield 17, 3) := by decide +kernel
theorem dX11_next_109 : decode cX11_next 109 = .ok (.goto 178, 3) := by decide +kernel
theorem dX11_next_112 : decode cX11_next 112 = .ok (.iload_n 1, 1) := by decide +kernel
theorem dX11_next_113 : decode cX11_next 113 = .ok (.invokestatic 30, 3) := by decide +kernel
theorem dX11_next_116 : decode cX11_next 116 = .ok (.ifCond .eq 109, 3) := by decide +kernel
theorem dX11_next_119 : decode cX11_next 119 = .ok (.aload_n 0, 1) := by decide +kernel
theorem dX11_next_120 : decode cX11_next 120 = .ok (.aload_n 0, 1) := by decide +kernel
theorem dX11_next_121 : decode cX11_next 121 = .ok (.getfield 17, 3) := by decide +kernel
theorem dX11_next_124 : decode cX11_next 124 = .ok (.invokevirtual 23, 3) := by decide +kernel
theorem dX11_next_127 : decode cX11_next 127 = .ok (.invokestatic 30, 3) := by decide +kernel
theorem dX11_next_130 : decode cX11_next 130 = .ok (.ifCond .eq 16, 3) := by decide +kernel
theorem dX11_next_133 : decode cX11_next 133 = .ok (.aload_n 0, 1) := by decide +kernel
theorem dX11_next_134 : decode cX11_next 134 = .ok (.dup, 1) := by decide +kernel
theorem dX11_next_135 : decode cX11_next 135 = .ok (.getfield 17, 3) := by decide +kernel
theorem dX11_next_138 : decode cX11_next 138 = .ok (.iconst 1, 1) := by decide +kernel
theorem dX11_next_139 : decode cX11_next 139 = .ok (.iadd, 1) := by decide +kernel
theorem dX11_next_140 : decode cX11_next 140 = .ok (.putfield 17, 3) := by decide +kernel
theorem dX11_next_143 : decode cX11_next 143 = .ok (.goto (-24), 3) := by decide +kernel
theorem dX11_next_146 : decode cX11_next 146 = .ok (.aload_n 0, 1) := by decide +kernel
theorem dX11_next_147 : decode cX11_next 147 = .ok (.lconst 0, 1) := by decide +kernel
theorem dX11_next_148 : decode cX11_next 148 = .ok (.putfield 34, 3) := by decide +kernel
theorem dX11_next_151 : decode cX11_next 151 = .ok (.aload_n 0, 1) := by decide +kernel
theorem dX11_next_152 : decode cX11_next 152 = .ok (.getfield 20, 3) := by decide +kernel
theorem dX11_next_155 : decode cX11_next 155 = .ok (.istore_n 2, 1) := by decide +kernel
theorem dX11_next_156 : decode cX11_next 156 = .ok (.iload_n 2, 1) := by decide +kernel
theorem dX11_next_157 : decode cX11_next 157 = .ok (.aload_n 0, 1) := by decide +kernel
theorem dX11_next_158 : decode cX11_next 158 = .ok (.getfield 17, 3) := by decide +kernel
theorem dX11_next_161 : decode cX11_next 161 = .ok (.if_icmp .ge 38, 3) := by decide +kernel
theorem dX11_next_164 : decode cX11_next 164 = .ok (.iload_n 2, 1) := by decide +kernel
theorem dX11_next_165 : decode cX11_next 165 = .ok (.aload_n 0, 1) := by decide +kernel
theorem dX11_next_166 : decode cX11_next 166 = .ok (.getfield 20, 3) := by decide +kernel
theorem dX11_next_169 : decode cX11_next 169 = .ok (.bipush 8, 2) := by decide +kernel
theorem dX11_next_171 : decode cX11_next 171 = .ok (.iadd, 1) := by decide +kernel
theorem dX11_next_172 : decode cX11_next 172 = .ok (.if_icmp .ge 27, 3) := by decide +kernel
theorem dX11_next_175 : decode cX11_next 175 = .ok (.aload_n 0, 1) := by decide +kernel
theorem dX11_next_176 : decode cX11_next 176 = .ok (.aload_n 0, 1) := by decide +kernel
theorem dX11_next_177 : decode cX11_next 177 = .ok (.getfield 34, 3) := by decide +kernel
theorem dX11_next_180 : decode cX11_next 180 = .ok (.bipush 8, 2) := by decide +kernel
theorem dX11_next_182 : decode cX11_next 182 = .ok (.lshl, 1) := by decide +kernel
theorem dX11_next_183 : decode cX11_next 183 = .ok (.aload_n 0, 1) := by decide +kernel
theorem dX11_next_184 : decode cX11_next 184 = .ok (.iload_n 2, 1) := by decide +kernel
theorem dX11_next_185 : decode cX11_next 185 = .ok (.invokevirtual 23, 3) := by decide +kernel
theorem dX11_next_188 : decode cX11_next 188 = .ok (.i2l, 1) := by decide +kernel
theorem dX11_next_189 : decode cX11_next 189 = .ok (.lor, 1) := by decide +kernel
theorem dX11_next_190 : decode cX11_next 190 = .ok (.putfield 34, 3) := by decide +kernel
theorem dX11_next_193 : decode cX11_next 193 = .ok (.iinc 2 1, 3) := by decide +kernel
theorem dX11_next_196 : decode cX11_next 196 = .ok (.goto (-40), 3) := by decide +kernel
theorem dX11_next_199 : decode cX11_next 199 = .ok (.aload_n 0, 1) := by decide +kernel
theorem dX11_next_200 : decode cX11_next 200 = .ok (.aload_n 0, 1) := by decide +kernel
theorem dX11_next_201 : decode cX11_next 201 = .ok (.getfield 17, 3) := by decide +kernel
theorem dX11_next_204 : decode cX11_next 204 = .ok (.aload_n 0, 1) := by decide +kernel
theorem dX11_next_205 : decode cX11_next 205 = .ok (.getfield 20, 3) := by decide +kernel
theorem dX11_next_208 : decode cX11_next 208 = .ok (.isub, 1) := by decide +kernel
theorem dX11_next_209 : decode cX11_next 209 = .ok (.bipush 8, 2) := by decide +kernel
theorem dX11_next_211 : decode cX11_next 211 = .ok (.if_icmp .le 7, 3) := by decide +kernel
theorem dX11_next_214 : decode cX11_next 214 = .ok (.iconst 1, 1) := by decide +kernel
theorem dX11_next_215 : decode cX11_next 215 = .ok (.goto 4, 3) := by decide +kernel
theorem dX11_next_218 : decode cX11_next 218 = .ok (.iconst 2, 1) := by decide +kernel
theorem dX11_next_219 : decode cX11_next 219 = .ok (.putfield 27, 3) := by decide +kernel
theorem dX11_next_222 : decode cX11_next 222 = .ok (.goto 65, 3) := by decide +kernel
theorem dX11_next_225 : decode cX11_next 225 = .ok (.iload_n 1, 1) := by decide +kernel
theorem dX11_next_226 : decode cX11_next 226 = .ok (.invokestatic 38, 3) := by decide +kernel
theorem dX11_next_229 : decode cX11_next 229 = .ok (.ifCond .ne 25, 3) := by decide +kernel
theorem dX11_next_232 : decode cX11_next 232 = .ok (.iload_n 1, 1) := by decide +kernel
theorem dX11_next_233 : decode cX11_next 233 = .ok (.bipush 45, 2) := by decide +kernel
theorem dX11_next_235 : decode cX11_next 235 = .ok (.if_icmp .ne 37, 3) := by decide +kernel
theorem dX11_next_238 : decode cX11_next 238 = .ok (.aload_n 0, 1) := by decide +kernel
theorem dX11_next_239 : decode cX11_next 239 = .ok (.aload_n 0, 1) := by decide +kernel
theorem dX11_next_240 : decode cX11_next 240 = .ok (.getfield 20, 3) := by decide +kernel
theorem dX11_next_243 : decode cX11_next 243 = .ok (.iconst 1, 1) := by decide +kernel
theorem dX11_next_244 : decode cX11_next 244 = .ok (.iadd, 1) := by decide +kernel
theorem dX11_next_245 : decode cX11_next 245 = .ok (.invokevirtual 23, 3) := by decide +kernel
theorem dX11_next_248 : decode cX11_next 248 = .ok (.invokestatic 38, 3) := by decide +kernel
theorem dX11_next_251 : decode cX11_next 251 = .ok (.ifCond .eq 21, 3) := by decide +kernel
theorem dX11_next_254 : decode cX11_next 254 = .ok (.aload_n 0, 1) := by decide +kernel
theorem dX11_next_255 : decode cX11_next 255 = .ok (.iload_n 1, 1) := by decide +kernel
theorem dX11_next_256 : decode cX11_next 256 = .ok (.bipush 45, 2) := by decide +kernel
theorem dX11_next_258 : decode cX11_next 258 = .ok (.if_icmp .ne 7, 3) := by decide +kernel
theorem dX11_next_261 : decode cX11_next 261 = .ok (.iconst 1, 1) := by decide +kernel
theorem dX11_next_262 : decode cX11_next 262 = .ok (.goto 4, 3) := by decide +kernel
theorem dX11_next_265 : decode cX11_next 265 = .ok (.iconst 0, 1) := by decide +kernel
theorem dX11_next_266 : decode cX11_next 266 = .ok (.invokevirtual 41, 3) := by decide +kernel
theorem dX11_next_269 : decode cX11_next 269 = .ok (.goto 18, 3) := by decide +kernel
theorem dX11_next_272 : decode cX11_next 272 = .ok (.aload_n 0, 1) := by decide +kernel
theorem dX11_next_273 : decode cX11_next 273 = .ok (.iload_n 1, 1) := by decide +kernel
theorem dX11_next_274 : decode cX11_next 274 = .ok (.bipush 59, 2) := by decide +kernel
theorem dX11_next_276 : decode cX11_next 276 = .ok (.if_icmp .ne 7, 3) := by decide +kernel
theorem dX11_next_279 : decode cX11_next 279 = .ok (.iconst 4, 1) := by decide +kernel
theorem dX11_next_280 : decode cX11_next 280 = .ok (.goto 4, 3) := by decide +kernel
theorem dX11_next_283 : decode cX11_next 283 = .ok (.iconst 1, 1) := by decide +kernel
theorem dX11_next_284 : decode cX11_next 284 = .ok (.putfield 27, 3) := by decide +kernel
theorem dX11_next_287 : decode cX11_next 287 = .ok (.return_, 1) := by decide +kernel
theorem dX11_readNumber_0 : decode cX11_readNumber 0 = .ok (.iload_n 1, 1) := by decide +kernel
theorem dX11_readNumber_1 : decode cX11_readNumber 1 = .ok (.ifCond .eq 12, 3) := by decide +kernel
theorem dX11_readNumber_4 : decode cX11_readNumber 4 = .ok (.aload_n 0, 1) := by decide +kernel
theorem dX11_readNumber_5 : decode cX11_readNumber 5 = .ok (.getfield 20, 3) := by decide +kernel
theorem dX11_readNumber_8 : decode cX11_readNumber 8 = .ok (.iconst 1, 1) := by decide +kernel
theorem dX11_readNumber_9 : decode cX11_readNumber 9 = .ok (.iadd, 1) := by decide +kernel
theorem dX11_readNumber_10 : decode cX11_readNumber 10 = .ok (.goto 7, 3) := by decide +kernel
theorem dX11_readNumber_13 : decode cX11_readNumber 13 = .ok (.aload_n 0, 1) := by decide +kernel
theorem dX11_readNumber_14 : decode cX11_readNumber 14 = .ok (.getfield 20, 3) := by decide +kernel
theorem dX11_readNumber_17 : decode cX11_readNumber 17 = .ok (.istore_n 2, 1) := by decide +kernel
theorem dX11_readNumber_18 : decode cX11_readNumber 18 = .ok (.aload_n 0, 1) := by decide +kernel
theorem dX11_readNumber_19 : decode cX11_readNumber 19 = .ok (.iconst 0, 1) := by decide +kernel
theorem dX11_readNumber_20 : decode cX11_readNumber 20 = .ok (.putfield 45, 3) := by decide +kernel
theorem dX11_readNumber_23 : decode cX11_readNumber 23 = .ok (.aload_n 0, 1) := by decide +kernel
theorem dX11_readNumber_24 : decode cX11_readNumber 24 = .ok (.iload_n 2, 1) := by decide +kernel
theorem dX11_readNumber_25 : decode cX11_readNumber 25 = .ok (.putfield 17, 3) := by decide +kernel
theorem dX11_readNumber_28 : decode cX11_readNumber 28 = .ok (.aload_n 0, 1) := by decide +kernel
theorem dX11_readNumber_29 : decode cX11_readNumber 29 = .ok (.aload_n 0, 1) := by decide +kernel
theorem dX11_readNumber_30 : decode cX11_readNumber 30 = .ok (.getfield 17, 3) := by decide +kernel
theorem dX11_readNumber_33 : decode cX11_readNumber 33 = .ok (.invokevirtual 23, 3) := by decide +kernel
theorem dX11_readNumber_36 : decode cX11_readNumber 36 = .ok (.invokestatic 38, 3) := by decide +kernel
theorem dX11_readNumber_39 : decode cX11_readNumber 39 = .ok (.ifCond .eq 49, 3) := by decide +kernel
theorem dX11_readNumber_42 : decode cX11_readNumber 42 = .ok (.aload_n 0, 1) := by decide +kernel
theorem dX11_readNumber_43 : decode cX11_readNumber 43 = .ok (.getfield 17, 3) := by decide +kernel
theorem dX11_readNumber_46 : decode cX11_readNumber 46 = .ok (.iload_n 2, 1) := by decide +kernel
theorem dX11_readNumber_47 : decode cX11_readNumber 47 = .ok (.isub, 1) := by decide +kernel
theorem dX11_readNumber_48 : decode cX11_readNumber 48 = .ok (.iconst 3, 1) := by decide +kernel
theorem dX11_readNumber_49 : decode cX11_readNumber 49 = .ok (.if_icmp .ge 26, 3) := by decide +kernel
theorem dX11_readNumber_52 : decode cX11_readNumber 52 = .ok (.aload_n 0, 1) := by decide +kernel
theorem dX11_readNumber_53 : decode cX11_readNumber 53 = .ok (.bipush 10, 2) := by decide +kernel
theorem dX11_readNumber_55 : decode cX11_readNumber 55 = .ok (.aload_n 0, 1) := by decide +kernel
theorem dX11_readNumber_56 : decode cX11_readNumber 56 = .ok (.getfield 45, 3) := by decide +kernel
theorem dX11_readNumber_59 : decode cX11_readNumber 59 = .ok (.imul, 1) := by decide +kernel
theorem dX11_readNumber_60 : decode cX11_readNumber 60 = .ok (.aload_n 0, 1) := by decide +kernel
theorem dX11_readNumber_61 : decode cX11_readNumber 61 = .ok (.aload_n 0, 1) := by decide +kernel
theorem dX11_readNumber_62 : decode cX11_readNumber 62 = .ok (.getfield 17, 3) := by decide +kernel
theorem dX11_readNumber_65 : decode cX11_readNumber 65 = .ok (.invokevirtual 23, 3) := by decide +kernel
theorem dX11_readNumber_68 : decode cX11_readNumber 68 = .ok (.iadd, 1) := by decide +kernel
theorem dX11_readNumber_69 : decode cX11_readNumber 69 = .ok (.bipush 48, 2) := by decide +kernel
theorem dX11_readNumber_71 : decode cX11_readNumber 71 = .ok (.isub, 1) := by decide +kernel
theorem dX11_readNumber_72 : decode cX11_readNumber 72 = .ok (.putfield 45, 3) := by decide +kernel
theorem dX11_readNumber_75 : decode cX11_readNumber 75 = .ok (.aload_n 0, 1) := by decide +kernel
theorem dX11_readNumber_76 : decode cX11_readNumber 76 = .ok (.dup, 1) := by decide +kernel
theorem dX11_readNumber_77 : decode cX11_readNumber 77 = .ok (.getfield 17, 3) := by decide +kernel
theorem dX11_readNumber_80 : decode cX11_readNumber 80 = .ok (.iconst 1, 1) := by decide +kernel
theorem dX11_readNumber_81 : decode cX11_readNumber 81 = .ok (.iadd, 1) := by decide +kernel
theorem dX11_readNumber_82 : decode cX11_readNumber 82 = .ok (.putfield 17, 3) := by decide +kernel
theorem dX11_readNumber_85 : decode cX11_readNumber 85 = .ok (.goto (-57), 3) := by decide +kernel
theorem dX11_readNumber_88 : decode cX11_readNumber 88 = .ok (.iload_n 1, 1) := by decide +kernel
theorem dX11_readNumber_89 : decode cX11_readNumber 89 = .ok (.ifCond .eq 12, 3) := by decide +kernel
theorem dX11_readNumber_92 : decode cX11_readNumber 92 = .ok (.aload_n 0, 1) := by decide +kernel
theorem dX11_readNumber_93 : decode cX11_readNumber 93 = .ok (.aload_n 0, 1) := by decide +kernel
theorem dX11_readNumber_94 : decode cX11_readNumber 94 = .ok (.getfield 45, 3) := by decide +kernel
theorem dX11_readNumber_97 : decode cX11_readNumber 97 = .ok (.ineg, 1) := by decide +kernel
theorem dX11_readNumber_98 : decode cX11_readNumber 98 = .ok (.putfield 45, 3) := by decide +kernel
theorem dX11_readNumber_101 : decode cX11_readNumber 101 = .ok (.aload_n 0, 1) := by decide +kernel
theorem dX11_readNumber_102 : decode cX11_readNumber 102 = .ok (.aload_n 0, 1) := by decide +kernel
theorem dX11_readNumber_103 : decode cX11_readNumber 103 = .ok (.getfield 17, 3) := by decide +kernel
theorem dX11_readNumber_106 : decode cX11_readNumber 106 = .ok (.iload_n 2, 1) := by decide +kernel
theorem dX11_readNumber_107 : decode cX11_readNumber 107 = .ok (.isub, 1) := by decide +kernel
theorem dX11_readNumber_108 : decode cX11_readNumber 108 = .ok (.iconst 3, 1) := by decide +kernel
theorem dX11_readNumber_109 : decode cX11_readNumber 109 = .ok (.if_icmp .gt 17, 3) := by decide +kernel
theorem dX11_readNumber_112 : decode cX11_readNumber 112 = .ok (.aload_n 0, 1) := by decide +kernel
theorem dX11_readNumber_113 : decode cX11_readNumber 113 = .ok (.aload_n 0, 1) := by decide +kernel
theorem dX11_readNumber_114 : decode cX11_readNumber 114 = .ok (.getfield 17, 3) := by decide +kernel
theorem dX11_readNumber_117 : decode cX11_readNumber 117 = .ok (.invokevirtual 23, 3) := by decide +kernel
theorem dX11_readNumber_120 : decode cX11_readNumber 120 = .ok (.invokestatic 30, 3) := by decide +kernel
theorem dX11_readNumber_123 : decode cX11_readNumber 123 = .ok (.ifCond .eq 7, 3) := by decide +kernel
theorem dX11_readNumber_126 : decode cX11_readNumber 126 = .ok (.iconst 1, 1) := by decide +kernel
theorem dX11_readNumber_127 : decode cX11_readNumber 127 = .ok (.goto 4, 3) := by decide +kernel
theorem dX11_readNumber_130 : decode cX11_readNumber 130 = .ok (.iconst 3, 1) := by decide +kernel
theorem dX11_readNumber_131 : decode cX11_readNumber 131 = .ok (.putfield 27, 3) := by decide +kernel
theorem dX11_readNumber_134 : decode cX11_readNumber 134 = .ok (.return_, 1) := by decide +kernel
theorem dX11_isWord_0 : decode cX11_isWord 0 = .ok (.aload_n 0, 1) := by decide +kernel
theorem dX11_isWord_1 : decode cX11_isWord 1 = .ok (.getfield 27, 3) := by decide +kernel
theorem dX11_isWord_4 : decode cX11_isWord 4 = .ok (.iconst 2, 1) := by decide +kernel
theorem dX11_isWord_5 : decode cX11_isWord 5 = .ok (.if_icmp .ne 16, 3) := by decide +kernel
theorem dX11_isWord_8 : decode cX11_isWord 8 = .ok (.aload_n 0, 1) := by decide +kernel
theorem dX11_isWord_9 : decode cX11_isWord 9 = .ok (.getfield 34, 3) := by decide +kernel
theorem dX11_isWord_12 : decode cX11_isWord 12 = .ok (.lload_n 1, 1) := by decide +kernel
theorem dX11_isWord_13 : decode cX11_isWord 13 = .ok (.lcmp, 1) := by decide +kernel
theorem dX11_isWord_14 : decode cX11_isWord 14 = .ok (.ifCond .ne 7, 3) := by decide +kernel
theorem dX11_isWord_17 : decode cX11_isWord 17 = .ok (.iconst 1, 1) := by decide +kernel
theorem dX11_isWord_18 : decode cX11_isWord 18 = .ok (.goto 4, 3) := by decide +kernel
theorem dX11_isWord_21 : decode cX11_isWord 21 = .ok (.iconst 0, 1) := by decide +kernel
theorem dX11_isWord_22 : decode cX11_isWord 22 = .ok (.ireturn, 1) := by decide +kernel
theorem dX11_wrong_0 : decode cX11_wrong 0 = .ok (.aload_n 0, 1) := by decide +kernel
theorem dX11_wrong_1 : decode cX11_wrong 1 = .ok (.aload_n 0, 1) := by decide +kernel
theorem dX11_wrong_2 : decode cX11_wrong 2 = .ok (.getfield 27, 3) := by decide +kernel
theorem dX11_wrong_5 : decode cX11_wrong 5 = .ok (.iconst 1, 1) := by decide +kernel
theorem dX11_wrong_6 : decode cX11_wrong 6 = .ok (.if_icmp .ne 7, 3) := by decide +kernel
theorem dX11_wrong_9 : decode cX11_wrong 9 = .ok (.iconst 1, 1) := by decide +kernel
theorem dX11_wrong_10 : decode cX11_wrong 10 = .ok (.goto 4, 3) := by decide +kernel
theorem dX11_wrong_13 : decode cX11_wrong 13 = .ok (.iconst 2, 1) := by decide +kernel
theorem dX11_wrong_14 : decode cX11_wrong 14 = .ok (.aload_n 0, 1) := by decide +kernel
theorem dX11_wrong_15 : decode cX11_wrong 15 = .ok (.getfield 20, 3) := by decide +kernel
theorem dX11_wrong_18 : decode cX11_wrong 18 = .ok (.invokevirtual 48, 3) := by decide +kernel
theorem dX11_wrong_21 : decode cX11_wrong 21 = .ok (.return_, 1) := by decide +kernel
theorem dX11_init_0 : decode cX11_init 0 = .ok (.aload_n 0, 1) := by decide +kernel
theorem dX11_init_1 : decode cX11_init 1 = .ok (.invokespecial 52, 3) := by decide +kernel
theorem dX11_init_4 : decode cX11_init 4 = .ok (.aload_n 0, 1) := by decide +kernel
theorem dX11_init_5 : decode cX11_init 5 = .ok (.sipush 1020, 3) := by decide +kernel
theorem dX11_init_8 : decode cX11_init 8 = .ok (.newarray .byte, 2) := by decide +kernel
theorem dX11_init_10 : decode cX11_init 10 = .ok (.putfield 58, 3) := by decide +kernel
theorem dX11_init_13 : decode cX11_init 13 = .ok (.aload_n 0, 1) := by decide +kernel
theorem dX11_init_14 : decode cX11_init 14 = .ok (.sipush 1000, 3) := by decide +kernel
theorem dX11_init_17 : decode cX11_init 17 = .ok (.newarray .byte, 2) := by decide +kernel
theorem dX11_init_19 : decode cX11_init 19 = .ok (.putfield 7, 3) := by decide +kernel
theorem dX11_init_22 : decode cX11_init 22 = .ok (.aload_n 0, 1) := by decide +kernel
theorem dX11_init_23 : decode cX11_init 23 = .ok (.iconst (-1), 1) := by decide +kernel
theorem dX11_init_24 : decode cX11_init 24 = .ok (.putfield 14, 3) := by decide +kernel
theorem dX11_init_27 : decode cX11_init 27 = .ok (.aload_n 0, 1) := by decide +kernel
theorem dX11_init_28 : decode cX11_init 28 = .ok (.iconst 2, 1) := by decide +kernel
theorem dX11_init_29 : decode cX11_init 29 = .ok (.newarray .int, 2) := by decide +kernel
theorem dX11_init_31 : decode cX11_init 31 = .ok (.putfield 61, 3) := by decide +kernel
theorem dX11_init_34 : decode cX11_init 34 = .ok (.aload_n 0, 1) := by decide +kernel
theorem dX11_init_35 : decode cX11_init 35 = .ok (.sipush 144, 3) := by decide +kernel
theorem dX11_init_38 : decode cX11_init 38 = .ok (.newarray .int, 2) := by decide +kernel
theorem dX11_init_40 : decode cX11_init 40 = .ok (.putfield 65, 3) := by decide +kernel
theorem dX11_init_43 : decode cX11_init 43 = .ok (.aload_n 0, 1) := by decide +kernel
theorem dX11_init_44 : decode cX11_init 44 = .ok (.sipush 144, 3) := by decide +kernel
theorem dX11_init_47 : decode cX11_init 47 = .ok (.newarray .int, 2) := by decide +kernel
theorem dX11_init_49 : decode cX11_init 49 = .ok (.putfield 68, 3) := by decide +kernel
theorem dX11_init_52 : decode cX11_init 52 = .ok (.aload_n 0, 1) := by decide +kernel
theorem dX11_init_53 : decode cX11_init 53 = .ok (.sipush 576, 3) := by decide +kernel
theorem dX11_init_56 : decode cX11_init 56 = .ok (.newarray .int, 2) := by decide +kernel
theorem dX11_init_58 : decode cX11_init 58 = .ok (.putfield 71, 3) := by decide +kernel
theorem dX11_init_61 : decode cX11_init 61 = .ok (.aload_n 0, 1) := by decide +kernel
theorem dX11_init_62 : decode cX11_init 62 = .ok (.sipush 576, 3) := by decide +kernel
theorem dX11_init_65 : decode cX11_init 65 = .ok (.newarray .int, 2) := by decide +kernel
theorem dX11_init_67 : decode cX11_init 67 = .ok (.putfield 74, 3) := by decide +kernel
theorem dX11_init_70 : decode cX11_init 70 = .ok (.aload_n 0, 1) := by decide +kernel
theorem dX11_init_71 : decode cX11_init 71 = .ok (.bipush 8, 2) := by decide +kernel
theorem dX11_init_73 : decode cX11_init 73 = .ok (.newarray .int, 2) := by decide +kernel
theorem dX11_init_75 : decode cX11_init 75 = .ok (.putfield 77, 3) := by decide +kernel
theorem dX11_init_78 : decode cX11_init 78 = .ok (.aload_n 0, 1) := by decide +kernel
theorem dX11_init_79 : decode cX11_init 79 = .ok (.bipush 84, 2) := by decide +kernel
theorem dX11_init_81 : decode cX11_init 81 = .ok (.newarray .int, 2) := by decide +kernel
theorem dX11_init_83 : decode cX11_init 83 = .ok (.putfield 80, 3) := by decide +kernel
theorem dX11_init_86 : decode cX11_init 86 = .ok (.aload_n 0, 1) := by decide +kernel
theorem dX11_init_87 : decode cX11_init 87 = .ok (.sipush 128, 3) := by decide +kernel
theorem dX11_init_90 : decode cX11_init 90 = .ok (.newarray .boolean, 2) := by decide +kernel
theorem dX11_init_92 : decode cX11_init 92 = .ok (.putfield 83, 3) := by decide +kernel
theorem dX11_init_95 : decode cX11_init 95 = .ok (.aload_n 0, 1) := by decide +kernel
theorem dX11_init_96 : decode cX11_init 96 = .ok (.bipush 8, 2) := by decide +kernel
theorem dX11_init_98 : decode cX11_init 98 = .ok (.newarray .boolean, 2) := by decide +kernel
theorem dX11_init_100 : decode cX11_init 100 = .ok (.putfield 87, 3) := by decide +kernel
theorem dX11_init_103 : decode cX11_init 103 = .ok (.aload_n 0, 1) := by decide +kernel
theorem dX11_init_104 : decode cX11_init 104 = .ok (.bipush 40, 2) := by decide +kernel
theorem dX11_init_106 : decode cX11_init 106 = .ok (.newarray .int, 2) := by decide +kernel
theorem dX11_init_108 : decode cX11_init 108 = .ok (.putfield 90, 3) := by decide +kernel
theorem dX11_init_111 : decode cX11_init 111 = .ok (.aload_n 0, 1) := by decide +kernel
theorem dX11_init_112 : decode cX11_init 112 = .ok (.bipush 40, 2) := by decide +kernel
theorem dX11_init_114 : decode cX11_init 114 = .ok (.newarray .int, 2) := by decide +kernel
theorem dX11_init_116 : decode cX11_init 116 = .ok (.putfield 93, 3) := by decide +kernel
theorem dX11_init_119 : decode cX11_init 119 = .ok (.aload_n 0, 1) := by decide +kernel
theorem dX11_init_120 : decode cX11_init 120 = .ok (.bipush 40, 2) := by decide +kernel
theorem dX11_init_122 : decode cX11_init 122 = .ok (.newarray .int, 2) := by decide +kernel
theorem dX11_init_124 : decode cX11_init 124 = .ok (.putfield 96, 3) := by decide +kernel
theorem dX11_init_127 : decode cX11_init 127 = .ok (.aload_n 0, 1) := by decide +kernel
theorem dX11_init_128 : decode cX11_init 128 = .ok (.bipush 40, 2) := by decide +kernel
theorem dX11_init_130 : decode cX11_init 130 = .ok (.newarray .int, 2) := by decide +kernel
theorem dX11_init_132 : decode cX11_init 132 = .ok (.putfield 99, 3) := by decide +kernel
theorem dX11_init_135 : decode cX11_init 135 = .ok (.aload_n 0, 1) := by decide +kernel
theorem dX11_init_136 : decode cX11_init 136 = .ok (.bipush 40, 2) := by decide +kernel
theorem dX11_init_138 : decode cX11_init 138 = .ok (.newarray .int, 2) := by decide +kernel
theorem dX11_init_140 : decode cX11_init 140 = .ok (.putfield 102, 3) := by decide +kernel
theorem dX11_init_143 : decode cX11_init 143 = .ok (.aload_n 0, 1) := by decide +kernel
theorem dX11_init_144 : decode cX11_init 144 = .ok (.bipush 60, 2) := by decide +kernel
theorem dX11_init_146 : decode cX11_init 146 = .ok (.newarray .int, 2) := by decide +kernel
theorem dX11_init_148 : decode cX11_init 148 = .ok (.putfield 105, 3) := by decide +kernel
theorem dX11_init_151 : decode cX11_init 151 = .ok (.aload_n 0, 1) := by decide +kernel
theorem dX11_init_152 : decode cX11_init 152 = .ok (.bipush 60, 2) := by decide +kernel
theorem dX11_init_154 : decode cX11_init 154 = .ok (.newarray .int, 2) := by decide +kernel
theorem dX11_init_156 : decode cX11_init 156 = .ok (.putfield 108, 3) := by decide +kernel
theorem dX11_init_159 : decode cX11_init 159 = .ok (.aload_n 0, 1) := by decide +kernel
theorem dX11_init_160 : decode cX11_init 160 = .ok (.bipush 60, 2) := by decide +kernel
theorem dX11_init_162 : decode cX11_init 162 = .ok (.newarray .int, 2) := by decide +kernel
theorem dX11_init_164 : decode cX11_init 164 = .ok (.putfield 111, 3) := by decide +kernel
theorem dX11_init_167 : decode cX11_init 167 = .ok (.aload_n 0, 1) := by decide +kernel
theorem dX11_init_168 : decode cX11_init 168 = .ok (.bipush 60, 2) := by decide +kernel
theorem dX11_init_170 : decode cX11_init 170 = .ok (.newarray .int, 2) := by decide +kernel
theorem dX11_init_172 : decode cX11_init 172 = .ok (.putfield 114, 3) := by decide +kernel
theorem dX11_init_175 : decode cX11_init 175 = .ok (.aload_n 0, 1) := by decide +kernel
theorem dX11_init_176 : decode cX11_init 176 = .ok (.bipush 60, 2) := by decide +kernel
theorem dX11_init_178 : decode cX11_init 178 = .ok (.newarray .int, 2) := by decide +kernel
theorem dX11_init_180 : decode cX11_init 180 = .ok (.putfield 117, 3) := by decide +kernel
theorem dX11_init_183 : decode cX11_init 183 = .ok (.aload_n 0, 1) := by decide +kernel
theorem dX11_init_184 : decode cX11_init 184 = .ok (.bipush 60, 2) := by decide +kernel
theorem dX11_init_186 : decode cX11_init 186 = .ok (.newarray .int, 2) := by decide +kernel
theorem dX11_init_188 : decode cX11_init 188 = .ok (.putfield 120, 3) := by decide +kernel
theorem dX11_init_191 : decode cX11_init 191 = .ok (.aload_n 0, 1) := by decide +kernel
theorem dX11_init_192 : decode cX11_init 192 = .ok (.bipush 60, 2) := by decide +kernel
theorem dX11_init_194 : decode cX11_init 194 = .ok (.newarray .int, 2) := by decide +kernel
theorem dX11_init_196 : decode cX11_init 196 = .ok (.putfield 123, 3) := by decide +kernel
theorem dX11_init_199 : decode cX11_init 199 = .ok (.aload_n 0, 1) := by decide +kernel
theorem dX11_init_200 : decode cX11_init 200 = .ok (.bipush 60, 2) := by decide +kernel
theorem dX11_init_202 : decode cX11_init 202 = .ok (.newarray .boolean, 2) := by decide +kernel
theorem dX11_init_204 : decode cX11_init 204 = .ok (.putfield 126, 3) := by decide +kernel
theorem dX11_init_207 : decode cX11_init 207 = .ok (.aload_n 0, 1) := by decide +kernel
theorem dX11_init_208 : decode cX11_init 208 = .ok (.bipush 64, 2) := by decide +kernel
theorem dX11_init_210 : decode cX11_init 210 = .ok (.newarray .long, 2) := by decide +kernel
theorem dX11_init_212 : decode cX11_init 212 = .ok (.putfield 129, 3) := by decide +kernel
theorem dX11_init_215 : decode cX11_init 215 = .ok (.aload_n 0, 1) := by decide +kernel
theorem dX11_init_216 : decode cX11_init 216 = .ok (.sipush 2665, 3) := by decide +kernel
theorem dX11_init_219 : decode cX11_init 219 = .ok (.newarray .long, 2) := by decide +kernel
theorem dX11_init_221 : decode cX11_init 221 = .ok (.putfield 133, 3) := by decide +kernel
theorem dX11_init_224 : decode cX11_init 224 = .ok (.aload_n 0, 1) := by decide +kernel
theorem dX11_init_225 : decode cX11_init 225 = .ok (.sipush 2665, 3) := by decide +kernel
theorem dX11_init_228 : decode cX11_init 228 = .ok (.newarray .int, 2) := by decide +kernel
theorem dX11_init_230 : decode cX11_init 230 = .ok (.putfield 136, 3) := by decide +kernel
theorem dX11_init_233 : decode cX11_init 233 = .ok (.aload_n 0, 1) := by decide +kernel
theorem dX11_init_234 : decode cX11_init 234 = .ok (.iconst 0, 1) := by decide +kernel
theorem dX11_init_235 : decode cX11_init 235 = .ok (.invokevirtual 139, 3) := by decide +kernel
theorem dX11_init_238 : decode cX11_init 238 = .ok (.aload_n 0, 1) := by decide +kernel
theorem dX11_init_239 : decode cX11_init 239 = .ok (.iconst 1, 1) := by decide +kernel
theorem dX11_init_240 : decode cX11_init 240 = .ok (.invokevirtual 139, 3) := by decide +kernel
theorem dX11_init_243 : decode cX11_init 243 = .ok (.return_, 1) := by decide +kernel
theorem dX11_clear_0 : decode cX11_clear 0 = .ok (.aload_n 0, 1) := by decide +kernel
theorem dX11_clear_1 : decode cX11_clear 1 = .ok (.getfield 61, 3) := by decide +kernel
theorem dX11_clear_4 : decode cX11_clear 4 = .ok (.iload_n 1, 1) := by decide +kernel
theorem dX11_clear_5 : decode cX11_clear 5 = .ok (.iconst 0, 1) := by decide +kernel
theorem dX11_clear_6 : decode cX11_clear 6 = .ok (.iastore, 1) := by decide +kernel
theorem dX11_clear_7 : decode cX11_clear 7 = .ok (.iconst 0, 1) := by decide +kernel
theorem dX11_clear_8 : decode cX11_clear 8 = .ok (.istore_n 2, 1) := by decide +kernel
theorem dX11_clear_9 : decode cX11_clear 9 = .ok (.iload_n 2, 1) := by decide +kernel
theorem dX11_clear_10 : decode cX11_clear 10 = .ok (.bipush 72, 2) := by decide +kernel
theorem dX11_clear_12 : decode cX11_clear 12 = .ok (.if_icmp .ge 22, 3) := by decide +kernel
theorem dX11_clear_15 : decode cX11_clear 15 = .ok (.aload_n 0, 1) := by decide +kernel
theorem dX11_clear_16 : decode cX11_clear 16 = .ok (.getfield 65, 3) := by decide +kernel
theorem dX11_clear_19 : decode cX11_clear 19 = .ok (.bipush 72, 2) := by decide +kernel
theorem dX11_clear_21 : decode cX11_clear 21 = .ok (.iload_n 1, 1) := by decide +kernel
theorem dX11_clear_22 : decode cX11_clear 22 = .ok (.imul, 1) := by decide +kernel
theorem dX11_clear_23 : decode cX11_clear 23 = .ok (.iload_n 2, 1) := by decide +kernel
theorem dX11_clear_24 : decode cX11_clear 24 = .ok (.iadd, 1) := by decide +kernel
theorem dX11_clear_25 : decode cX11_clear 25 = .ok (.bipush (-100), 2) := by decide +kernel
theorem dX11_clear_27 : decode cX11_clear 27 = .ok (.iastore, 1) := by decide +kernel
theorem dX11_clear_28 : decode cX11_clear 28 = .ok (.iinc 2 1, 3) := by decide +kernel
theorem dX11_clear_31 : decode cX11_clear 31 = .ok (.goto (-22), 3) := by decide +kernel
theorem dX11_clear_34 : decode cX11_clear 34 = .ok (.iconst 0, 1) := by decide +kernel
theorem dX11_clear_35 : decode cX11_clear 35 = .ok (.istore_n 2, 1) := by decide +kernel
theorem dX11_clear_36 : decode cX11_clear 36 = .ok (.iload_n 2, 1) := by decide +kernel
theorem dX11_clear_37 : decode cX11_clear 37 = .ok (.sipush 288, 3) := by decide +kernel
theorem dX11_clear_40 : decode cX11_clear 40 = .ok (.if_icmp .ge 23, 3) := by decide +kernel
theorem dX11_clear_43 : decode cX11_clear 43 = .ok (.aload_n 0, 1) := by decide +kernel
theorem dX11_clear_44 : decode cX11_clear 44 = .ok (.getfield 71, 3) := by decide +kernel
theorem dX11_clear_47 : decode cX11_clear 47 = .ok (.sipush 288, 3) := by decide +kernel
theorem dX11_clear_50 : decode cX11_clear 50 = .ok (.iload_n 1, 1) := by decide +kernel
theorem dX11_clear_51 : decode cX11_clear 51 = .ok (.imul, 1) := by decide +kernel
theorem dX11_clear_52 : decode cX11_clear 52 = .ok (.iload_n 2, 1) := by decide +kernel
theorem dX11_clear_53 : decode cX11_clear 53 = .ok (.iadd, 1) := by decide +kernel
theorem dX11_clear_54 : decode cX11_clear 54 = .ok (.bipush (-100), 2) := by decide +kernel
theorem dX11_clear_56 : decode cX11_clear 56 = .ok (.iastore, 1) := by decide +kernel
theorem dX11_clear_57 : decode cX11_clear 57 = .ok (.iinc 2 1, 3) := by decide +kernel
theorem dX11_clear_60 : decode cX11_clear 60 = .ok (.goto (-24), 3) := by decide +kernel
theorem dX11_clear_63 : decode cX11_clear 63 = .ok (.iconst 0, 1) := by decide +kernel
theorem dX11_clear_64 : decode cX11_clear 64 = .ok (.istore_n 2, 1) := by decide +kernel
theorem dX11_clear_65 : decode cX11_clear 65 = .ok (.iload_n 2, 1) := by decide +kernel
theorem dX11_clear_66 : decode cX11_clear 66 = .ok (.iconst 4, 1) := by decide +kernel
theorem dX11_clear_67 : decode cX11_clear 67 = .ok (.if_icmp .ge 31, 3) := by decide +kernel
theorem dX11_clear_70 : decode cX11_clear 70 = .ok (.aload_n 0, 1) := by decide +kernel
theorem dX11_clear_71 : decode cX11_clear 71 = .ok (.getfield 77, 3) := by decide +kernel
theorem dX11_clear_74 : decode cX11_clear 74 = .ok (.iconst 4, 1) := by decide +kernel
theorem dX11_clear_75 : decode cX11_clear 75 = .ok (.iload_n 1, 1) := by decide +kernel
theorem dX11_clear_76 : decode cX11_clear 76 = .ok (.imul, 1) := by decide +kernel
theorem dX11_clear_77 : decode cX11_clear 77 = .ok (.iload_n 2, 1) := by decide +kernel
theorem dX11_clear_78 : decode cX11_clear 78 = .ok (.iadd, 1) := by decide +kernel
theorem dX11_clear_79 : decode cX11_clear 79 = .ok (.iconst 3, 1) := by decide +kernel
theorem dX11_clear_80 : decode cX11_clear 80 = .ok (.iastore, 1) := by decide +kernel
theorem dX11_clear_81 : decode cX11_clear 81 = .ok (.aload_n 0, 1) := by decide +kernel
theorem dX11_clear_82 : decode cX11_clear 82 = .ok (.getfield 87, 3) := by decide +kernel
theorem dX11_clear_85 : decode cX11_clear 85 = .ok (.iconst 4, 1) := by decide +kernel
theorem dX11_clear_86 : decode cX11_clear 86 = .ok (.iload_n 1, 1) := by decide +kernel
theorem dX11_clear_87 : decode cX11_clear 87 = .ok (.imul, 1) := by decide +kernel
theorem dX11_clear_88 : decode cX11_clear 88 = .ok (.iload_n 2, 1) := by decide +kernel
theorem dX11_clear_89 : decode cX11_clear 89 = .ok (.iadd, 1) := by decide +kernel
theorem dX11_clear_90 : decode cX11_clear 90 = .ok (.iconst 0, 1) := by decide +kernel
theorem dX11_clear_91 : decode cX11_clear 91 = .ok (.bastore, 1) := by decide +kernel
theorem dX11_clear_92 : decode cX11_clear 92 = .ok (.iinc 2 1, 3) := by decide +kernel
theorem dX11_clear_95 : decode cX11_clear 95 = .ok (.goto (-30), 3) := by decide +kernel
theorem dX11_clear_98 : decode cX11_clear 98 = .ok (.iconst 0, 1) := by decide +kernel
theorem dX11_clear_99 : decode cX11_clear 99 = .ok (.istore_n 2, 1) := by decide +kernel
theorem dX11_clear_100 : decode cX11_clear 100 = .ok (.iload_n 2, 1) := by decide +kernel
theorem dX11_clear_101 : decode cX11_clear 101 = .ok (.bipush 42, 2) := by decide +kernel
theorem dX11_clear_103 : decode cX11_clear 103 = .ok (.if_icmp .ge 22, 3) := by decide +kernel
theorem dX11_clear_106 : decode cX11_clear 106 = .ok (.aload_n 0, 1) := by decide +kernel
theorem dX11_clear_107 : decode cX11_clear 107 = .ok (.getfield 80, 3) := by decide +kernel
theorem dX11_clear_110 : decode cX11_clear 110 = .ok (.bipush 42, 2) := by decide +kernel
theorem dX11_clear_112 : decode cX11_clear 112 = .ok (.iload_n 1, 1) := by decide +kernel
theorem dX11_clear_113 : decode cX11_clear 113 = .ok (.imul, 1) := by decide +kernel
theorem dX11_clear_114 : decode cX11_clear 114 = .ok (.iload_n 2, 1) := by decide +kernel
theorem dX11_clear_115 : decode cX11_clear 115 = .ok (.iadd, 1) := by decide +kernel
theorem dX11_clear_116 : decode cX11_clear 116 = .ok (.bipush (-100), 2) := by decide +kernel
theorem dX11_clear_118 : decode cX11_clear 118 = .ok (.iastore, 1) := by decide +kernel
theorem dX11_clear_119 : decode cX11_clear 119 = .ok (.iinc 2 1, 3) := by decide +kernel
theorem dX11_clear_122 : decode cX11_clear 122 = .ok (.goto (-22), 3) := by decide +kernel
theorem dX11_clear_125 : decode cX11_clear 125 = .ok (.iconst 0, 1) := by decide +kernel
theorem dX11_clear_126 : decode cX11_clear 126 = .ok (.istore_n 2, 1) := by decide +kernel
theorem dX11_clear_127 : decode cX11_clear 127 = .ok (.iload_n 2, 1) := by decide +kernel
theorem dX11_clear_128 : decode cX11_clear 128 = .ok (.bipush 64, 2) := by decide +kernel
theorem dX11_clear_130 : decode cX11_clear 130 = .ok (.if_icmp .ge 21, 3) := by decide +kernel
theorem dX11_clear_133 : decode cX11_clear 133 = .ok (.aload_n 0, 1) := by decide +kernel
theorem dX11_clear_134 : decode cX11_clear 134 = .ok (.getfield 83, 3) := by decide +kernel
theorem dX11_clear_137 : decode cX11_clear 137 = .ok (.bipush 64, 2) := by decide +kernel
theorem dX11_clear_139 : decode cX11_clear 139 = .ok (.iload_n 1, 1) := by decide +kernel
theorem dX11_clear_140 : decode cX11_clear 140 = .ok (.imul, 1) := by decide +kernel
theorem dX11_clear_141 : decode cX11_clear 141 = .ok (.iload_n 2, 1) := by decide +kernel
theorem dX11_clear_142 : decode cX11_clear 142 = .ok (.iadd, 1) := by decide +kernel
theorem dX11_clear_143 : decode cX11_clear 143 = .ok (.iconst 0, 1) := by decide +kernel
theorem dX11_clear_144 : decode cX11_clear 144 = .ok (.bastore, 1) := by decide +kernel
theorem dX11_clear_145 : decode cX11_clear 145 = .ok (.iinc 2 1, 3) := by decide +kernel
theorem dX11_clear_148 : decode cX11_clear 148 = .ok (.goto (-21), 3) := by decide +kernel
theorem dX11_clear_151 : decode cX11_clear 151 = .ok (.return_, 1) := by decide +kernel
theorem dX11_sea_0 : decode cX11_sea 0 = .ok (.aload_n 0, 1) := by decide +kernel
theorem dX11_sea_1 : decode cX11_sea 1 = .ok (.iconst 0, 1) := by decide +kernel
theorem dX11_sea_2 : decode cX11_sea 2 = .ok (.putfield 11, 3) := by decide +kernel
theorem dX11_sea_5 : decode cX11_sea 5 = .ok (.aload_n 0, 1) := by decide +kernel
theorem dX11_sea_6 : decode cX11_sea 6 = .ok (.iconst (-1), 1) := by decide +kernel
theorem dX11_sea_7 : decode cX11_sea 7 = .ok (.putfield 14, 3) := by decide +kernel
theorem dX11_sea_10 : decode cX11_sea 10 = .ok (.aload_n 0, 1) := by decide +kernel
theorem dX11_sea_11 : decode cX11_sea 11 = .ok (.aload_n 0, 1) := by decide +kernel
theorem dX11_sea_12 : decode cX11_sea 12 = .ok (.getfield 143, 3) := by decide +kernel
theorem dX11_sea_15 : decode cX11_sea 15 = .ok (.putfield 1, 3) := by decide +kernel
theorem dX11_sea_18 : decode cX11_sea 18 = .ok (.iconst 0, 1) := by decide +kernel
theorem dX11_sea_19 : decode cX11_sea 19 = .ok (.istore_n 1, 1) := by decide +kernel
theorem dX11_sea_20 : decode cX11_sea 20 = .ok (.iload_n 1, 1) := by decide +kernel
theorem dX11_sea_21 : decode cX11_sea 21 = .ok (.aload_n 0, 1) := by decide +kernel
theorem dX11_sea_22 : decode cX11_sea 22 = .ok (.getfield 1, 3) := by decide +kernel
theorem dX11_sea_25 : decode cX11_sea 25 = .ok (.if_icmp .ge 21, 3) := by decide +kernel
theorem dX11_sea_28 : decode cX11_sea 28 = .ok (.aload_n 0, 1) := by decide +kernel
theorem dX11_sea_29 : decode cX11_sea 29 = .ok (.getfield 7, 3) := by decide +kernel
theorem dX11_sea_32 : decode cX11_sea 32 = .ok (.iload_n 1, 1) := by decide +kernel
theorem dX11_sea_33 : decode cX11_sea 33 = .ok (.aload_n 0, 1) := by decide +kernel
theorem dX11_sea_34 : decode cX11_sea 34 = .ok (.getfield 58, 3) := by decide +kernel
theorem dX11_sea_37 : decode cX11_sea 37 = .ok (.iload_n 1, 1) := by decide +kernel
theorem dX11_sea_38 : decode cX11_sea 38 = .ok (.baload, 1) := by decide +kernel
theorem dX11_sea_39 : decode cX11_sea 39 = .ok (.bastore, 1) := by decide +kernel
theorem dX11_sea_40 : decode cX11_sea 40 = .ok (.iinc 1 1, 3) := by decide +kernel
theorem dX11_sea_43 : decode cX11_sea 43 = .ok (.goto (-23), 3) := by decide +kernel
theorem dX11_sea_46 : decode cX11_sea 46 = .ok (.aload_n 0, 1) := by decide +kernel
theorem dX11_sea_47 : decode cX11_sea 47 = .ok (.iconst 0, 1) := by decide +kernel
theorem dX11_sea_48 : decode cX11_sea 48 = .ok (.putfield 143, 3) := by decide +kernel
theorem dX11_sea_51 : decode cX11_sea 51 = .ok (.aload_n 0, 1) := by decide +kernel
theorem dX11_sea_52 : decode cX11_sea 52 = .ok (.iconst 0, 1) := by decide +kernel
theorem dX11_sea_53 : decode cX11_sea 53 = .ok (.putfield 17, 3) := by decide +kernel
theorem dX11_sea_56 : decode cX11_sea 56 = .ok (.aload_n 0, 1) := by decide +kernel
theorem dX11_sea_57 : decode cX11_sea 57 = .ok (.iconst 1, 1) := by decide +kernel
theorem dX11_sea_58 : decode cX11_sea 58 = .ok (.aload_n 0, 1) := by decide +kernel
theorem dX11_sea_59 : decode cX11_sea 59 = .ok (.getfield 146, 3) := by decide +kernel
theorem dX11_sea_62 : decode cX11_sea 62 = .ok (.isub, 1) := by decide +kernel
theorem dX11_sea_63 : decode cX11_sea 63 = .ok (.putfield 149, 3) := by decide +kernel
theorem dX11_sea_66 : decode cX11_sea 66 = .ok (.aload_n 0, 1) := by decide +kernel
theorem dX11_sea_67 : decode cX11_sea 67 = .ok (.aload_n 0, 1) := by decide +kernel
theorem dX11_sea_68 : decode cX11_sea 68 = .ok (.getfield 149, 3) := by decide +kernel
theorem dX11_sea_71 : decode cX11_sea 71 = .ok (.invokevirtual 139, 3) := by decide +kernel
theorem dX11_sea_74 : decode cX11_sea 74 = .ok (.aload_n 0, 1) := by decide +kernel
theorem dX11_sea_75 : decode cX11_sea 75 = .ok (.invokevirtual 152, 3) := by decide +kernel
theorem dX11_sea_78 : decode cX11_sea 78 = .ok (.aload_n 0, 1) := by decide +kernel
theorem dX11_sea_79 : decode cX11_sea 79 = .ok (.invokevirtual 155, 3) := by decide +kernel
theorem dX11_sea_82 : decode cX11_sea 82 = .ok (.ifCond .eq 17, 3) := by decide +kernel
theorem dX11_sea_85 : decode cX11_sea 85 = .ok (.aload_n 0, 1) := by decide +kernel
theorem dX11_sea_86 : decode cX11_sea 86 = .ok (.getfield 27, 3) := by decide +kernel
theorem dX11_sea_89 : decode cX11_sea 89 = .ok (.ifCond .eq 10, 3) := by decide +kernel
theorem dX11_sea_92 : decode cX11_sea 92 = .ok (.aload_n 0, 1) := by decide +kernel
theorem dX11_sea_93 : decode cX11_sea 93 = .ok (.invokevirtual 159, 3) := by decide +kernel
theorem dX11_sea_96 : decode cX11_sea 96 = .ok (.goto (-18), 3) := by decide +kernel
theorem dX11_sea_99 : decode cX11_sea 99 = .ok (.aload_n 0, 1) := by decide +kernel
theorem dX11_sea_100 : decode cX11_sea 100 = .ok (.invokevirtual 155, 3) := by decide +kernel
theorem dX11_sea_103 : decode cX11_sea 103 = .ok (.ifCond .ne 5, 3) := by decide +kernel
theorem dX11_sea_106 : decode cX11_sea 106 = .ok (.iconst (-1), 1) := by decide +kernel
theorem dX11_sea_107 : decode cX11_sea 107 = .ok (.ireturn, 1) := by decide +kernel
theorem dX11_sea_108 : decode cX11_sea 108 = .ok (.aload_n 0, 1) := by decide +kernel
theorem dX11_sea_109 : decode cX11_sea 109 = .ok (.aload_n 0, 1) := by decide +kernel
theorem dX11_sea_110 : decode cX11_sea 110 = .ok (.getfield 149, 3) := by decide +kernel
theorem dX11_sea_113 : decode cX11_sea 113 = .ok (.putfield 146, 3) := by decide +kernel
theorem dX11_sea_116 : decode cX11_sea 116 = .ok (.aload_n 0, 1) := by decide +kernel
theorem dX11_sea_117 : decode cX11_sea 117 = .ok (.getfield 61, 3) := by decide +kernel
theorem dX11_sea_120 : decode cX11_sea 120 = .ok (.aload_n 0, 1) := by decide +kernel
theorem dX11_sea_121 : decode cX11_sea 121 = .ok (.getfield 146, 3) := by decide +kernel
theorem dX11_sea_124 : decode cX11_sea 124 = .ok (.iaload, 1) := by decide +kernel
theorem dX11_sea_125 : decode cX11_sea 125 = .ok (.ireturn, 1) := by decide +kernel
theorem dX11_numeral_0 : decode cX11_numeral 0 = .ok (.aload_n 0, 1) := by decide +kernel
theorem dX11_numeral_1 : decode cX11_numeral 1 = .ok (.invokevirtual 155, 3) := by decide +kernel
theorem dX11_numeral_4 : decode cX11_numeral 4 = .ok (.ifCond .ne 5, 3) := by decide +kernel
theorem dX11_numeral_7 : decode cX11_numeral 7 = .ok (.iconst 0, 1) := by decide +kernel
theorem dX11_numeral_8 : decode cX11_numeral 8 = .ok (.ireturn, 1) := by decide +kernel
theorem dX11_numeral_9 : decode cX11_numeral 9 = .ok (.aload_n 0, 1) := by decide +kernel
theorem dX11_numeral_10 : decode cX11_numeral 10 = .ok (.aload_n 0, 1) := by decide +kernel
theorem dX11_numeral_11 : decode cX11_numeral 11 = .ok (.getfield 20, 3) := by decide +kernel
theorem dX11_numeral_14 : decode cX11_numeral 14 = .ok (.putfield 162, 3) := by decide +kernel
theorem dX11_numeral_17 : decode cX11_numeral 17 = .ok (.aload_n 0, 1) := by decide +kernel
theorem dX11_numeral_18 : decode cX11_numeral 18 = .ok (.getfield 27, 3) := by decide +kernel
theorem dX11_numeral_21 : decode cX11_numeral 21 = .ok (.iconst 3, 1) := by decide +kernel
theorem dX11_numeral_22 : decode cX11_numeral 22 = .ok (.if_icmp .eq 7, 3) := by decide +kernel
theorem dX11_numeral_25 : decode cX11_numeral 25 = .ok (.aload_n 0, 1) := by decide +kernel
theorem dX11_numeral_26 : decode cX11_numeral 26 = .ok (.invokevirtual 165, 3) := by decide +kernel
theorem dX11_numeral_29 : decode cX11_numeral 29 = .ok (.aload_n 0, 1) := by decide +kernel
theorem dX11_numeral_30 : decode cX11_numeral 30 = .ok (.invokevirtual 155, 3) := by decide +kernel
theorem dX11_numeral_33 : decode cX11_numeral 33 = .ok (.ifCond .eq 28, 3) := by decide +kernel
theorem dX11_numeral_36 : decode cX11_numeral 36 = .ok (.aload_n 0, 1) := by decide +kernel
theorem dX11_numeral_37 : decode cX11_numeral 37 = .ok (.getfield 45, 3) := by decide +kernel
theorem dX11_numeral_40 : decode cX11_numeral 40 = .ok (.iload_n 1, 1) := by decide +kernel
theorem dX11_numeral_41 : decode cX11_numeral 41 = .ok (.if_icmp .lt 11, 3) := by decide +kernel
theorem dX11_numeral_44 : decode cX11_numeral 44 = .ok (.aload_n 0, 1) := by decide +kernel
theorem dX11_numeral_45 : decode cX11_numeral 45 = .ok (.getfield 45, 3) := by decide +kernel
theorem dX11_numeral_48 : decode cX11_numeral 48 = .ok (.iload_n 2, 1) := by decide +kernel
theorem dX11_numeral_49 : decode cX11_numeral 49 = .ok (.if_icmp .le 12, 3) := by decide +kernel
theorem dX11_numeral_52 : decode cX11_numeral 52 = .ok (.aload_n 0, 1) := by decide +kernel
theorem dX11_numeral_53 : decode cX11_numeral 53 = .ok (.iconst 3, 1) := by decide +kernel
theorem dX11_numeral_54 : decode cX11_numeral 54 = .ok (.aload_n 0, 1) := by decide +kernel
theorem dX11_numeral_55 : decode cX11_numeral 55 = .ok (.getfield 20, 3) := by decide +kernel
theorem dX11_numeral_58 : decode cX11_numeral 58 = .ok (.invokevirtual 48, 3) := by decide +kernel
theorem dX11_numeral_61 : decode cX11_numeral 61 = .ok (.aload_n 0, 1) := by decide +kernel
theorem dX11_numeral_62 : decode cX11_numeral 62 = .ok (.getfield 45, 3) := by decide +kernel
theorem dX11_numeral_65 : decode cX11_numeral 65 = .ok (.istore_n 3, 1) := by decide +kernel
theorem dX11_numeral_66 : decode cX11_numeral 66 = .ok (.aload_n 0, 1) := by decide +kernel
theorem dX11_numeral_67 : decode cX11_numeral 67 = .ok (.invokevirtual 155, 3) := by decide +kernel
theorem dX11_numeral_70 : decode cX11_numeral 70 = .ok (.ifCond .eq 7, 3) := by decide +kernel
theorem dX11_numeral_73 : decode cX11_numeral 73 = .ok (.aload_n 0, 1) := by decide +kernel
theorem dX11_numeral_74 : decode cX11_numeral 74 = .ok (.invokevirtual 152, 3) := by decide +kernel
theorem dX11_numeral_77 : decode cX11_numeral 77 = .ok (.aload_n 0, 1) := by decide +kernel
theorem dX11_numeral_78 : decode cX11_numeral 78 = .ok (.invokevirtual 155, 3) := by decide +kernel
theorem dX11_numeral_81 : decode cX11_numeral 81 = .ok (.ifCond .eq 7, 3) := by decide +kernel
theorem dX11_numeral_84 : decode cX11_numeral 84 = .ok (.iload_n 3, 1) := by decide +kernel
theorem dX11_numeral_85 : decode cX11_numeral 85 = .ok (.goto 4, 3) := by decide +kernel
theorem dX11_numeral_88 : decode cX11_numeral 88 = .ok (.iconst 0, 1) := by decide +kernel
theorem dX11_numeral_89 : decode cX11_numeral 89 = .ok (.ireturn, 1) := by decide +kernel
theorem dX11_twice_0 : decode cX11_twice 0 = .ok (.aload_n 0, 1) := by decide +kernel
theorem dX11_twice_1 : decode cX11_twice 1 = .ok (.invokevirtual 155, 3) := by decide +kernel
theorem dX11_twice_4 : decode cX11_twice 4 = .ok (.ifCond .eq 16, 3) := by decide +kernel
theorem dX11_twice_7 : decode cX11_twice 7 = .ok (.iload_n 1, 1) := by decide +kernel
theorem dX11_twice_8 : decode cX11_twice 8 = .ok (.ifCond .eq 12, 3) := by decide +kernel
theorem dX11_twice_11 : decode cX11_twice 11 = .ok (.aload_n 0, 1) := by decide +kernel
theorem dX11_twice_12 : decode cX11_twice 12 = .ok (.iconst 4, 1) := by decide +kernel
theorem dX11_twice_13 : decode cX11_twice 13 = .ok (.aload_n 0, 1) := by decide +kernel
theorem dX11_twice_14 : decode cX11_twice 14 = .ok (.getfield 162, 3) := by decide +kernel
theorem dX11_twice_17 : decode cX11_twice 17 = .ok (.invokevirtual 48, 3) := by decide +kernel
theorem dX11_twice_20 : decode cX11_twice 20 = .ok (.return_, 1) := by decide +kernel
theorem dX11_readLine_0 : decode cX11_readLine 0 = .ok (.aload_n 0, 1) := by decide +kernel
theorem dX11_readLine_1 : decode cX11_readLine 1 = .ok (.ldc2_w 168, 3) := by decide +kernel
theorem dX11_readLine_4 : decode cX11_readLine 4 = .ok (.invokevirtual 170, 3) := by decide +kernel
theorem dX11_readLine_7 : decode cX11_readLine 7 = .ok (.ifCond .ne 43, 3) := by decide +kernel
theorem dX11_readLine_10 : decode cX11_readLine 10 = .ok (.aload_n 0, 1) := by decide +kernel
theorem dX11_readLine_11 : decode cX11_readLine 11 = .ok (.ldc2_w 174, 3) := by decide +kernel
theorem dX11_readLine_14 : decode cX11_readLine 14 = .ok (.invokevirtual 170, 3) := by decide +kernel
theorem dX11_readLine_17 : decode cX11_readLine 17 = .ok (.ifCond .ne 33, 3) := by decide +kernel
theorem dX11_readLine_20 : decode cX11_readLine 20 = .ok (.aload_n 0, 1) := by decide +kernel
theorem dX11_readLine_21 : decode cX11_readLine 21 = .ok (.ldc2_w 176, 3) := by decide +kernel
theorem dX11_readLine_24 : decode cX11_readLine 24 = .ok (.invokevirtual 170, 3) := by decide +kernel
theorem dX11_readLine_27 : decode cX11_readLine 27 = .ok (.ifCond .ne 23, 3) := by decide +kernel
theorem dX11_readLine_30 : decode cX11_readLine 30 = .ok (.aload_n 0, 1) := by decide +kernel
theorem dX11_readLine_31 : decode cX11_readLine 31 = .ok (.ldc2_w 178, 3) := by decide +kernel
theorem dX11_readLine_34 : decode cX11_readLine 34 = .ok (.invokevirtual 170, 3) := by decide +kernel
theorem dX11_readLine_37 : decode cX11_readLine 37 = .ok (.ifCond .ne 13, 3) := by decide +kernel
theorem dX11_readLine_40 : decode cX11_readLine 40 = .ok (.aload_n 0, 1) := by decide +kernel
theorem dX11_readLine_41 : decode cX11_readLine 41 = .ok (.ldc2_w 180, 3) := by decide +kernel
theorem dX11_readLine_44 : decode cX11_readLine 44 = .ok (.invokevirtual 170, 3) := by decide +kernel
theorem dX11_readLine_47 : decode cX11_readLine 47 = .ok (.ifCond .eq 7, 3) := by decide +kernel
theorem dX11_readLine_50 : decode cX11_readLine 50 = .ok (.iconst 1, 1) := by decide +kernel
theorem dX11_readLine_51 : decode cX11_readLine 51 = .ok (.goto 4, 3) := by decide +kernel
theorem dX11_readLine_54 : decode cX11_readLine 54 = .ok (.iconst 0, 1) := by decide +kernel
theorem dX11_readLine_55 : decode cX11_readLine 55 = .ok (.istore_n 1, 1) := by decide +kernel
theorem dX11_readLine_56 : decode cX11_readLine 56 = .ok (.iload_n 1, 1) := by decide +kernel
theorem dX11_readLine_57 : decode cX11_readLine 57 = .ok (.ifCond .eq 17, 3) := by decide +kernel
theorem dX11_readLine_60 : decode cX11_readLine 60 = .ok (.aload_n 0, 1) := by decide +kernel
theorem dX11_readLine_61 : decode cX11_readLine 61 = .ok (.getfield 61, 3) := by decide +kernel
theorem dX11_readLine_64 : decode cX11_readLine 64 = .ok (.aload_n 0, 1) := by decide +kernel
theorem dX11_readLine_65 : decode cX11_readLine 65 = .ok (.getfield 149, 3) := by decide +kernel
theorem dX11_readLine_68 : decode cX11_readLine 68 = .ok (.iaload, 1) := by decide +kernel
theorem dX11_readLine_69 : decode cX11_readLine 69 = .ok (.bipush 60, 2) := by decide +kernel
theorem dX11_readLine_71 : decode cX11_readLine 71 = .ok (.if_icmp .ne 7, 3) := by decide +kernel
theorem dX11_readLine_74 : decode cX11_readLine 74 = .ok (.aload_n 0, 1) := by decide +kernel
theorem dX11_readLine_75 : decode cX11_readLine 75 = .ok (.invokevirtual 165, 3) := by decide +kernel
theorem dX11_readLine_78 : decode cX11_readLine 78 = .ok (.aload_n 0, 1) := by decide +kernel
theorem dX11_readLine_79 : decode cX11_readLine 79 = .ok (.invokevirtual 155, 3) := by decide +kernel
theorem dX11_readLine_82 : decode cX11_readLine 82 = .ok (.ifCond .ne 4, 3) := by decide +kernel
theorem dX11_readLine_85 : decode cX11_readLine 85 = .ok (.return_, 1) := by decide +kernel
theorem dX11_readLine_86 : decode cX11_readLine 86 = .ok (.aload_n 0, 1) := by decide +kernel
theorem dX11_readLine_87 : decode cX11_readLine 87 = .ok (.getfield 34, 3) := by decide +kernel
theorem dX11_readLine_90 : decode cX11_readLine 90 = .ok (.lstore_n 2, 1) := by decide +kernel
theorem dX11_readLine_91 : decode cX11_readLine 91 = .ok (.aload_n 0, 1) := by decide +kernel
theorem dX11_readLine_92 : decode cX11_readLine 92 = .ok (.invokevirtual 152, 3) := by decide +kernel
theorem dX11_readLine_95 : decode cX11_readLine 95 = .ok (.lload_n 2, 1) := by decide +kernel
theorem dX11_readLine_96 : decode cX11_readLine 96 = .ok (.ldc2_w 168, 3) := by decide +kernel
theorem dX11_readLine_99 : decode cX11_readLine 99 = .ok (.lcmp, 1) := by decide +kernel
theorem dX11_readLine_100 : decode cX11_readLine 100 = .ok (.ifCond .ne 10, 3) := by decide +kernel
theorem dX11_readLine_103 : decode cX11_readLine 103 = .ok (.aload_n 0, 1) := by decide +kernel
theorem dX11_readLine_104 : decode cX11_readLine 104 = .ok (.invokevirtual 182, 3) := by decide +kernel
theorem dX11_readLine_107 : decode cX11_readLine 107 = .ok (.goto 52, 3) := by decide +kernel
theorem dX11_readLine_110 : decode cX11_readLine 110 = .ok (.lload_n 2, 1) := by decide +kernel
theorem dX11_readLine_111 : decode cX11_readLine 111 = .ok (.ldc2_w 174, 3) := by decide +kernel
theorem dX11_readLine_114 : decode cX11_readLine 114 = .ok (.lcmp, 1) := by decide +kernel
theorem dX11_readLine_115 : decode cX11_readLine 115 = .ok (.ifCond .ne 10, 3) := by decide +kernel
theorem dX11_readLine_118 : decode cX11_readLine 118 = .ok (.aload_n 0, 1) := by decide +kernel
theorem dX11_readLine_119 : decode cX11_readLine 119 = .ok (.invokevirtual 185, 3) := by decide +kernel
theorem dX11_readLine_122 : decode cX11_readLine 122 = .ok (.goto 37, 3) := by decide +kernel
theorem dX11_readLine_125 : decode cX11_readLine 125 = .ok (.lload_n 2, 1) := by decide +kernel
theorem dX11_readLine_126 : decode cX11_readLine 126 = .ok (.ldc2_w 176, 3) := by decide +kernel
theorem dX11_readLine_129 : decode cX11_readLine 129 = .ok (.lcmp, 1) := by decide +kernel
theorem dX11_readLine_130 : decode cX11_readLine 130 = .ok (.ifCond .ne 10, 3) := by decide +kernel
theorem dX11_readLine_133 : decode cX11_readLine 133 = .ok (.aload_n 0, 1) := by decide +kernel
theorem dX11_readLine_134 : decode cX11_readLine 134 = .ok (.invokevirtual 188, 3) := by decide +kernel
theorem dX11_readLine_137 : decode cX11_readLine 137 = .ok (.goto 22, 3) := by decide +kernel
theorem dX11_readLine_140 : decode cX11_readLine 140 = .ok (.lload_n 2, 1) := by decide +kernel
theorem dX11_readLine_141 : decode cX11_readLine 141 = .ok (.ldc2_w 178, 3) := by decide +kernel
theorem dX11_readLine_144 : decode cX11_readLine 144 = .ok (.lcmp, 1) := by decide +kernel
theorem dX11_readLine_145 : decode cX11_readLine 145 = .ok (.ifCond .ne 10, 3) := by decide +kernel
theorem dX11_readLine_148 : decode cX11_readLine 148 = .ok (.aload_n 0, 1) := by decide +kernel
theorem dX11_readLine_149 : decode cX11_readLine 149 = .ok (.invokevirtual 191, 3) := by decide +kernel
theorem dX11_readLine_152 : decode cX11_readLine 152 = .ok (.goto 7, 3) := by decide +kernel
theorem dX11_readLine_155 : decode cX11_readLine 155 = .ok (.aload_n 0, 1) := by decide +kernel
theorem dX11_readLine_156 : decode cX11_readLine 156 = .ok (.invokevirtual 194, 3) := by decide +kernel
theorem dX11_readLine_159 : decode cX11_readLine 159 = .ok (.aload_n 0, 1) := by decide +kernel
theorem dX11_readLine_160 : decode cX11_readLine 160 = .ok (.invokevirtual 155, 3) := by decide +kernel
theorem dX11_readLine_163 : decode cX11_readLine 163 = .ok (.ifCond .eq 15, 3) := by decide +kernel
theorem dX11_readLine_166 : decode cX11_readLine 166 = .ok (.aload_n 0, 1) := by decide +kernel
theorem dX11_readLine_167 : decode cX11_readLine 167 = .ok (.getfield 27, 3) := by decide +kernel
theorem dX11_readLine_170 : decode cX11_readLine 170 = .ok (.iconst 4, 1) := by decide +kernel
theorem dX11_readLine_171 : decode cX11_readLine 171 = .ok (.if_icmp .eq 7, 3) := by decide +kernel
theorem dX11_readLine_174 : decode cX11_readLine 174 = .ok (.aload_n 0, 1) := by decide +kernel
theorem dX11_readLine_175 : decode cX11_readLine 175 = .ok (.invokevirtual 165, 3) := by decide +kernel
theorem dX11_readLine_178 : decode cX11_readLine 178 = .ok (.aload_n 0, 1) := by decide +kernel
theorem dX11_readLine_179 : decode cX11_readLine 179 = .ok (.invokevirtual 155, 3) := by decide +kernel
theorem dX11_readLine_182 : decode cX11_readLine 182 = .ok (.ifCond .eq 7, 3) := by decide +kernel
theorem dX11_readLine_185 : decode cX11_readLine 185 = .ok (.aload_n 0, 1) := by decide +kernel
theorem dX11_readLine_186 : decode cX11_readLine 186 = .ok (.invokevirtual 152, 3) := by decide +kernel
theorem dX11_readLine_189 : decode cX11_readLine 189 = .ok (.aload_n 0, 1) := by decide +kernel
theorem dX11_readLine_190 : decode cX11_readLine 190 = .ok (.getfield 61, 3) := by decide +kernel
theorem dX11_readLine_193 : decode cX11_readLine 193 = .ok (.aload_n 0, 1) := by decide +kernel
theorem dX11_readLine_194 : decode cX11_readLine 194 = .ok (.getfield 149, 3) := by decide +kernel
theorem dX11_readLine_197 : decode cX11_readLine 197 = .ok (.dup2, 1) := by decide +kernel
theorem dX11_readLine_198 : decode cX11_readLine 198 = .ok (.iaload, 1) := by decide +kernel
theorem dX11_readLine_199 : decode cX11_readLine 199 = .ok (.iconst 1, 1) := by decide +kernel
theorem dX11_readLine_200 : decode cX11_readLine 200 = .ok (.iadd, 1) := by decide +kernel
theorem dX11_readLine_201 : decode cX11_readLine 201 = .ok (.iastore, 1) := by decide +kernel
theorem dX11_readLine_202 : decode cX11_readLine 202 = .ok (.return_, 1) := by decide +kernel
theorem dX11_readWind_0 : decode cX11_readWind 0 = .ok (.bipush 72, 2) := by decide +kernel
theorem dX11_readWind_2 : decode cX11_readWind 2 = .ok (.aload_n 0, 1) := by decide +kernel
theorem dX11_readWind_3 : decode cX11_readWind 3 = .ok (.getfield 149, 3) := by decide +kernel
theorem dX11_readWind_6 : decode cX11_readWind 6 = .ok (.imul, 1) := by decide +kernel
theorem dX11_readWind_7 : decode cX11_readWind 7 = .ok (.aload_n 0, 1) := by decide +kernel
theorem dX11_readWind_8 : decode cX11_readWind 8 = .ok (.iconst 0, 1) := by decide +kernel
theorem dX11_readWind_9 : decode cX11_readWind 9 = .ok (.bipush 71, 2) := by decide +kernel
theorem dX11_readWind_11 : decode cX11_readWind 11 = .ok (.invokevirtual 197, 3) := by decide +kernel
theorem dX11_readWind_14 : decode cX11_readWind 14 = .ok (.iadd, 1) := by decide +kernel
theorem dX11_readWind_15 : decode cX11_readWind 15 = .ok (.istore_n 1, 1) := by decide +kernel
theorem dX11_readWind_16 : decode cX11_readWind 16 = .ok (.aload_n 0, 1) := by decide +kernel
theorem dX11_readWind_17 : decode cX11_readWind 17 = .ok (.aload_n 0, 1) := by decide +kernel
theorem dX11_readWind_18 : decode cX11_readWind 18 = .ok (.getfield 65, 3) := by decide +kernel
theorem dX11_readWind_21 : decode cX11_readWind 21 = .ok (.iload_n 1, 1) := by decide +kernel
theorem dX11_readWind_22 : decode cX11_readWind 22 = .ok (.iaload, 1) := by decide +kernel
theorem dX11_readWind_23 : decode cX11_readWind 23 = .ok (.bipush (-100), 2) := by decide +kernel
theorem dX11_readWind_25 : decode cX11_readWind 25 = .ok (.if_icmp .eq 7, 3) := by decide +kernel
theorem dX11_readWind_28 : decode cX11_readWind 28 = .ok (.iconst 1, 1) := by decide +kernel
theorem dX11_readWind_29 : decode cX11_readWind 29 = .ok (.goto 4, 3) := by decide +kernel
theorem dX11_readWind_32 : decode cX11_readWind 32 = .ok (.iconst 0, 1) := by decide +kernel
theorem dX11_readWind_33 : decode cX11_readWind 33 = .ok (.invokevirtual 201, 3) := by decide +kernel
theorem dX11_readWind_36 : decode cX11_readWind 36 = .ok (.aload_n 0, 1) := by decide +kernel
theorem dX11_readWind_37 : decode cX11_readWind 37 = .ok (.bipush (-30), 2) := by decide +kernel
theorem dX11_readWind_39 : decode cX11_readWind 39 = .ok (.bipush 30, 2) := by decide +kernel
theorem dX11_readWind_41 : decode cX11_readWind 41 = .ok (.invokevirtual 197, 3) := by decide +kernel
theorem dX11_readWind_44 : decode cX11_readWind 44 = .ok (.istore_n 2, 1) := by decide +kernel
theorem dX11_readWind_45 : decode cX11_readWind 45 = .ok (.aload_n 0, 1) := by decide +kernel
theorem dX11_readWind_46 : decode cX11_readWind 46 = .ok (.bipush (-30), 2) := by decide +kernel
theorem dX11_readWind_48 : decode cX11_readWind 48 = .ok (.bipush 30, 2) := by decide +kernel
theorem dX11_readWind_50 : decode cX11_readWind 50 = .ok (.invokevirtual 197, 3) := by decide +kernel
theorem dX11_readWind_53 : decode cX11_readWind 53 = .ok (.istore_n 3, 1) := by decide +kernel
theorem dX11_readWind_54 : decode cX11_readWind 54 = .ok (.aload_n 0, 1) := by decide +kernel
theorem dX11_readWind_55 : decode cX11_readWind 55 = .ok (.getfield 65, 3) := by decide +kernel
theorem dX11_readWind_58 : decode cX11_readWind 58 = .ok (.iload_n 1, 1) := by decide +kernel
theorem dX11_readWind_59 : decode cX11_readWind 59 = .ok (.iload_n 2, 1) := by decide +kernel
theorem dX11_readWind_60 : decode cX11_readWind 60 = .ok (.iastore, 1) := by decide +kernel
theorem dX11_readWind_61 : decode cX11_readWind 61 = .ok (.aload_n 0, 1) := by decide +kernel
theorem dX11_readWind_62 : decode cX11_readWind 62 = .ok (.getfield 68, 3) := by decide +kernel
theorem dX11_readWind_65 : decode cX11_readWind 65 = .ok (.iload_n 1, 1) := by decide +kernel
theorem dX11_readWind_66 : decode cX11_readWind 66 = .ok (.iload_n 3, 1) := by decide +kernel
theorem dX11_readWind_67 : decode cX11_readWind 67 = .ok (.iastore, 1) := by decide +kernel
theorem dX11_readWind_68 : decode cX11_readWind 68 = .ok (.return_, 1) := by decide +kernel
theorem dX11_readStream_0 : decode cX11_readStream 0 = .ok (.aload_n 0, 1) := by decide +kernel
theorem dX11_readStream_1 : decode cX11_readStream 1 = .ok (.iconst 0, 1) := by decide +kernel
theorem dX11_readStream_2 : decode cX11_readStream 2 = .ok (.iconst 3, 1) := by decide +kernel
theorem dX11_readStream_3 : decode cX11_readStream 3 = .ok (.invokevirtual 197, 3) := by decide +kernel
theorem dX11_readStream_6 : decode cX11_readStream 6 = .ok (.istore_n 1, 1) := by decide +kernel
theorem dX11_readStream_7 : decode cX11_readStream 7 = .ok (.bipush 72, 2) := by decide +kernel
theorem dX11_readStream_9 : decode cX11_readStream 9 = .ok (.iconst 4, 1) := by decide +kernel
theorem dX11_readStream_10 : decode cX11_readStream 10 = .ok (.aload_n 0, 1) := by decide +kernel
theorem dX11_readStream_11 : decode cX11_readStream 11 = .ok (.getfield 149, 3) := by decide +kernel
theorem dX11_readStream_14 : decode cX11_readStream 14 = .ok (.imul, 1) := by decide +kernel
theorem dX11_readStream_15 : decode cX11_readStream 15 = .ok (.iload_n 1, 1) := by decide +kernel
theorem dX11_readStream_16 : decode cX11_readStream 16 = .ok (.iadd, 1) := by decide +kernel
theorem dX11_readStream_17 : decode cX11_readStream 17 = .ok (.imul, 1) := by decide +kernel
theorem dX11_readStream_18 : decode cX11_readStream 18 = .ok (.aload_n 0, 1) := by decide +kernel
theorem dX11_readStream_19 : decode cX11_readStream 19 = .ok (.iconst 0, 1) := by decide +kernel
theorem dX11_readStream_20 : decode cX11_readStream 20 = .ok (.bipush 71, 2) := by decide +kernel
theorem dX11_readStream_22 : decode cX11_readStream 22 = .ok (.invokevirtual 197, 3) := by decide +kernel
theorem dX11_readStream_25 : decode cX11_readStream 25 = .ok (.iadd, 1) := by decide +kernel
theorem dX11_readStream_26 : decode cX11_readStream 26 = .ok (.istore_n 2, 1) := by decide +kernel
theorem dX11_readStream_27 : decode cX11_readStream 27 = .ok (.aload_n 0, 1) := by decide +kernel
theorem dX11_readStream_28 : decode cX11_readStream 28 = .ok (.aload_n 0, 1) := by decide +kernel
theorem dX11_readStream_29 : decode cX11_readStream 29 = .ok (.getfield 71, 3) := by decide +kernel
theorem dX11_readStream_32 : decode cX11_readStream 32 = .ok (.iload_n 2, 1) := by decide +kernel
theorem dX11_readStream_33 : decode cX11_readStream 33 = .ok (.iaload, 1) := by decide +kernel
theorem dX11_readStream_34 : decode cX11_readStream 34 = .ok (.bipush (-100), 2) := by decide +kernel
theorem dX11_readStream_36 : decode cX11_readStream 36 = .ok (.if_icmp .eq 7, 3) := by decide +kernel
theorem dX11_readStream_39 : decode cX11_readStream 39 = .ok (.iconst 1, 1) := by decide +kernel
theorem dX11_readStream_40 : decode cX11_readStream 40 = .ok (.goto 4, 3) := by decide +kernel
theorem dX11_readStream_43 : decode cX11_readStream 43 = .ok (.iconst 0, 1) := by decide +kernel
theorem dX11_readStream_44 : decode cX11_readStream 44 = .ok (.invokevirtual 201, 3) := by decide +kernel
theorem dX11_readStream_47 : decode cX11_readStream 47 = .ok (.aload_n 0, 1) := by decide +kernel
theorem dX11_readStream_48 : decode cX11_readStream 48 = .ok (.bipush (-30), 2) := by decide +kernel
theorem dX11_readStream_50 : decode cX11_readStream 50 = .ok (.bipush 30, 2) := by decide +kernel
theorem dX11_readStream_52 : decode cX11_readStream 52 = .ok (.invokevirtual 197, 3) := by decide +kernel
theorem dX11_readStream_55 : decode cX11_readStream 55 = .ok (.istore_n 3, 1) := by decide +kernel
theorem dX11_readStream_56 : decode cX11_readStream 56 = .ok (.aload_n 0, 1) := by decide +kernel
theorem dX11_readStream_57 : decode cX11_readStream 57 = .ok (.bipush (-30), 2) := by decide +kernel
theorem dX11_readStream_59 : decode cX11_readStream 59 = .ok (.bipush 30, 2) := by decide +kernel
theorem dX11_readStream_61 : decode cX11_readStream 61 = .ok (.invokevirtual 197, 3) := by decide +kernel
theorem dX11_readStream_64 : decode cX11_readStream 64 = .ok (.istore 4, 2) := by decide +kernel
theorem dX11_readStream_66 : decode cX11_readStream 66 = .ok (.aload_n 0, 1) := by decide +kernel
theorem dX11_readStream_67 : decode cX11_readStream 67 = .ok (.getfield 71, 3) := by decide +kernel
theorem dX11_readStream_70 : decode cX11_readStream 70 = .ok (.iload_n 2, 1) := by decide +kernel
theorem dX11_readStream_71 : decode cX11_readStream 71 = .ok (.iload_n 3, 1) := by decide +kernel
theorem dX11_readStream_72 : decode cX11_readStream 72 = .ok (.iastore, 1) := by decide +kernel
theorem dX11_readStream_73 : decode cX11_readStream 73 = .ok (.aload_n 0, 1) := by decide +kernel
theorem dX11_readStream_74 : decode cX11_readStream 74 = .ok (.getfield 74, 3) := by decide +kernel
theorem dX11_readStream_77 : decode cX11_readStream 77 = .ok (.iload_n 2, 1) := by decide +kernel
theorem dX11_readStream_78 : decode cX11_readStream 78 = .ok (.iload 4, 2) := by decide +kernel
theorem dX11_readStream_80 : decode cX11_readStream 80 = .ok (.iastore, 1) := by decide +kernel
theorem dX11_readStream_81 : decode cX11_readStream 81 = .ok (.return_, 1) := by decide +kernel
theorem dX11_readLee_0 : decode cX11_readLee 0 = .ok (.iconst 4, 1) := by decide +kernel
theorem dX11_readLee_1 : decode cX11_readLee 1 = .ok (.aload_n 0, 1) := by decide +kernel
theorem dX11_readLee_2 : decode cX11_readLee 2 = .ok (.getfield 149, 3) := by decide +kernel
theorem dX11_readLee_5 : decode cX11_readLee 5 = .ok (.imul, 1) := by decide +kernel
theorem dX11_readLee_6 : decode cX11_readLee 6 = .ok (.aload_n 0, 1) := by decide +kernel
theorem dX11_readLee_7 : decode cX11_readLee 7 = .ok (.iconst 0, 1) := by decide +kernel
theorem dX11_readLee_8 : decode cX11_readLee 8 = .ok (.iconst 3, 1) := by decide +kernel
theorem dX11_readLee_9 : decode cX11_readLee 9 = .ok (.invokevirtual 197, 3) := by decide +kernel
theorem dX11_readLee_12 : decode cX11_readLee 12 = .ok (.iadd, 1) := by decide +kernel
theorem dX11_readLee_13 : decode cX11_readLee 13 = .ok (.istore_n 1, 1) := by decide +kernel
theorem dX11_readLee_14 : decode cX11_readLee 14 = .ok (.aload_n 0, 1) := by decide +kernel
theorem dX11_readLee_15 : decode cX11_readLee 15 = .ok (.aload_n 0, 1) := by decide +kernel
theorem dX11_readLee_16 : decode cX11_readLee 16 = .ok (.getfield 87, 3) := by decide +kernel
theorem dX11_readLee_19 : decode cX11_readLee 19 = .ok (.iload_n 1, 1) := by decide +kernel
theorem dX11_readLee_20 : decode cX11_readLee 20 = .ok (.baload, 1) := by decide +kernel
theorem dX11_readLee_21 : decode cX11_readLee 21 = .ok (.invokevirtual 201, 3) := by decide +kernel
theorem dX11_readLee_24 : decode cX11_readLee 24 = .ok (.aload_n 0, 1) := by decide +kernel
theorem dX11_readLee_25 : decode cX11_readLee 25 = .ok (.getfield 77, 3) := by decide +kernel
theorem dX11_readLee_28 : decode cX11_readLee 28 = .ok (.iload_n 1, 1) := by decide +kernel
theorem dX11_readLee_29 : decode cX11_readLee 29 = .ok (.aload_n 0, 1) := by decide +kernel
theorem dX11_readLee_30 : decode cX11_readLee 30 = .ok (.iconst 0, 1) := by decide +kernel
theorem dX11_readLee_31 : decode cX11_readLee 31 = .ok (.bipush 100, 2) := by decide +kernel
theorem dX11_readLee_33 : decode cX11_readLee 33 = .ok (.invokevirtual 197, 3) := by decide +kernel
theorem dX11_readLee_36 : decode cX11_readLee 36 = .ok (.iastore, 1) := by decide +kernel
theorem dX11_readLee_37 : decode cX11_readLee 37 = .ok (.aload_n 0, 1) := by decide +kernel
theorem dX11_readLee_38 : decode cX11_readLee 38 = .ok (.getfield 87, 3) := by decide +kernel
theorem dX11_readLee_41 : decode cX11_readLee 41 = .ok (.iload_n 1, 1) := by decide +kernel
theorem dX11_readLee_42 : decode cX11_readLee 42 = .ok (.iconst 1, 1) := by decide +kernel
theorem dX11_readLee_43 : decode cX11_readLee 43 = .ok (.bastore, 1) := by decide +kernel
theorem dX11_readLee_44 : decode cX11_readLee 44 = .ok (.return_, 1) := by decide +kernel
theorem dX11_readLand_0 : decode cX11_readLand 0 = .ok (.aload_n 0, 1) := by decide +kernel
theorem dX11_readLand_1 : decode cX11_readLand 1 = .ok (.iconst 0, 1) := by decide +kernel
theorem dX11_readLand_2 : decode cX11_readLand 2 = .ok (.bipush 7, 2) := by decide +kernel
theorem dX11_readLand_4 : decode cX11_readLand 4 = .ok (.invokevirtual 197, 3) := by decide +kernel
theorem dX11_readLand_7 : decode cX11_readLand 7 = .ok (.istore_n 1, 1) := by decide +kernel
theorem dX11_readLand_8 : decode cX11_readLand 8 = .ok (.bipush 64, 2) := by decide +kernel
theorem dX11_readLand_10 : decode cX11_readLand 10 = .ok (.aload_n 0, 1) := by decide +kernel
theorem dX11_readLand_11 : decode cX11_readLand 11 = .ok (.getfield 149, 3) := by decide +kernel
theorem dX11_readLand_14 : decode cX11_readLand 14 = .ok (.imul, 1) := by decide +kernel
theorem dX11_readLand_15 : decode cX11_readLand 15 = .ok (.iload_n 1, 1) := by decide +kernel
theorem dX11_readLand_16 : decode cX11_readLand 16 = .ok (.iadd, 1) := by decide +kernel
theorem dX11_readLand_17 : decode cX11_readLand 17 = .ok (.bipush 8, 2) := by decide +kernel
theorem dX11_readLand_19 : decode cX11_readLand 19 = .ok (.aload_n 0, 1) := by decide +kernel
theorem dX11_readLand_20 : decode cX11_readLand 20 = .ok (.iconst 0, 1) := by decide +kernel
theorem dX11_readLand_21 : decode cX11_readLand 21 = .ok (.bipush 7, 2) := by decide +kernel
theorem dX11_readLand_23 : decode cX11_readLand 23 = .ok (.invokevirtual 197, 3) := by decide +kernel
theorem dX11_readLand_26 : decode cX11_readLand 26 = .ok (.imul, 1) := by decide +kernel
theorem dX11_readLand_27 : decode cX11_readLand 27 = .ok (.iadd, 1) := by decide +kernel
theorem dX11_readLand_28 : decode cX11_readLand 28 = .ok (.istore_n 2, 1) := by decide +kernel
theorem dX11_readLand_29 : decode cX11_readLand 29 = .ok (.aload_n 0, 1) := by decide +kernel
theorem dX11_readLand_30 : decode cX11_readLand 30 = .ok (.aload_n 0, 1) := by decide +kernel
theorem dX11_readLand_31 : decode cX11_readLand 31 = .ok (.getfield 83, 3) := by decide +kernel
theorem dX11_readLand_34 : decode cX11_readLand 34 = .ok (.iload_n 2, 1) := by decide +kernel
theorem dX11_readLand_35 : decode cX11_readLand 35 = .ok (.baload, 1) := by decide +kernel
theorem dX11_readLand_36 : decode cX11_readLand 36 = .ok (.invokevirtual 201, 3) := by decide +kernel
theorem dX11_readLand_39 : decode cX11_readLand 39 = .ok (.aload_n 0, 1) := by decide +kernel
theorem dX11_readLand_40 : decode cX11_readLand 40 = .ok (.getfield 83, 3) := by decide +kernel
theorem dX11_readLand_43 : decode cX11_readLand 43 = .ok (.iload_n 2, 1) := by decide +kernel
theorem dX11_readLand_44 : decode cX11_readLand 44 = .ok (.iconst 1, 1) := by decide +kernel
theorem dX11_readLand_45 : decode cX11_readLand 45 = .ok (.bastore, 1) := by decide +kernel
theorem dX11_readLand_46 : decode cX11_readLand 46 = .ok (.return_, 1) := by decide +kernel
theorem dX11_readMiss_0 : decode cX11_readMiss 0 = .ok (.bipush 42, 2) := by decide +kernel
theorem dX11_readMiss_2 : decode cX11_readMiss 2 = .ok (.aload_n 0, 1) := by decide +kernel
theorem dX11_readMiss_3 : decode cX11_readMiss 3 = .ok (.getfield 149, 3) := by decide +kernel
theorem dX11_readMiss_6 : decode cX11_readMiss 6 = .ok (.imul, 1) := by decide +kernel
theorem dX11_readMiss_7 : decode cX11_readMiss 7 = .ok (.bipush 21, 2) := by decide +kernel
theorem dX11_readMiss_9 : decode cX11_readMiss 9 = .ok (.aload_n 0, 1) := by decide +kernel
theorem dX11_readMiss_10 : decode cX11_readMiss 10 = .ok (.iconst 0, 1) := by decide +kernel
theorem dX11_readMiss_11 : decode cX11_readMiss 11 = .ok (.iconst 1, 1) := by decide +kernel
theorem dX11_readMiss_12 : decode cX11_readMiss 12 = .ok (.invokevirtual 197, 3) := by decide +kernel
theorem dX11_readMiss_15 : decode cX11_readMiss 15 = .ok (.imul, 1) := by decide +kernel
theorem dX11_readMiss_16 : decode cX11_readMiss 16 = .ok (.iadd, 1) := by decide +kernel
theorem dX11_readMiss_17 : decode cX11_readMiss 17 = .ok (.istore_n 1, 1) := by decide +kernel
theorem dX11_readMiss_18 : decode cX11_readMiss 18 = .ok (.aload_n 0, 1) := by decide +kernel
theorem dX11_readMiss_19 : decode cX11_readMiss 19 = .ok (.iconst 1, 1) := by decide +kernel
theorem dX11_readMiss_20 : decode cX11_readMiss 20 = .ok (.bipush 20, 2) := by decide +kernel
theorem dX11_readMiss_22 : decode cX11_readMiss 22 = .ok (.invokevirtual 197, 3) := by decide +kernel
theorem dX11_readMiss_25 : decode cX11_readMiss 25 = .ok (.istore_n 2, 1) := by decide +kernel
theorem dX11_readMiss_26 : decode cX11_readMiss 26 = .ok (.aload_n 0, 1) := by decide +kernel
theorem dX11_readMiss_27 : decode cX11_readMiss 27 = .ok (.aload_n 0, 1) := by decide +kernel
theorem dX11_readMiss_28 : decode cX11_readMiss 28 = .ok (.getfield 80, 3) := by decide +kernel
theorem dX11_readMiss_31 : decode cX11_readMiss 31 = .ok (.iload_n 1, 1) := by decide +kernel
theorem dX11_readMiss_32 : decode cX11_readMiss 32 = .ok (.iload_n 2, 1) := by decide +kernel
theorem dX11_readMiss_33 : decode cX11_readMiss 33 = .ok (.iadd, 1) := by decide +kernel
theorem dX11_readMiss_34 : decode cX11_readMiss 34 = .ok (.iaload, 1) := by decide +kernel
theorem dX11_readMiss_35 : decode cX11_readMiss 35 = .ok (.bipush (-100), 2) := by decide +kernel
theorem dX11_readMiss_37 : decode cX11_readMiss 37 = .ok (.if_icmp .eq 7, 3) := by decide +kernel
theorem dX11_readMiss_40 : decode cX11_readMiss 40 = .ok (.iconst 1, 1) := by decide +kernel
theorem dX11_readMiss_41 : decode cX11_readMiss 41 = .ok (.goto 4, 3) := by decide +kernel
theorem dX11_readMiss_44 : decode cX11_readMiss 44 = .ok (.iconst 0, 1) := by decide +kernel
theorem dX11_readMiss_45 : decode cX11_readMiss 45 = .ok (.invokevirtual 201, 3) := by decide +kernel
theorem dX11_readMiss_48 : decode cX11_readMiss 48 = .ok (.aload_n 0, 1) := by decide +kernel
theorem dX11_readMiss_49 : decode cX11_readMiss 49 = .ok (.iconst 0, 1) := by decide +kernel
theorem dX11_readMiss_50 : decode cX11_readMiss 50 = .ok (.bipush 100, 2) := by decide +kernel
theorem dX11_readMiss_52 : decode cX11_readMiss 52 = .ok (.invokevirtual 197, 3) := by decide +kernel
theorem dX11_readMiss_55 : decode cX11_readMiss 55 = .ok (.istore_n 3, 1) := by decide +kernel
theorem dX11_readMiss_56 : decode cX11_readMiss 56 = .ok (.aload_n 0, 1) := by decide +kernel
theorem dX11_readMiss_57 : decode cX11_readMiss 57 = .ok (.invokevirtual 155, 3) := by decide +kernel
theorem dX11_readMiss_60 : decode cX11_readMiss 60 = .ok (.ifCond .ne 4, 3) := by decide +kernel
theorem dX11_readMiss_63 : decode cX11_readMiss 63 = .ok (.return_, 1) := by decide +kernel
theorem dX11_readMiss_64 : decode cX11_readMiss 64 = .ok (.bipush 100, 2) := by decide +kernel
theorem dX11_readMiss_66 : decode cX11_readMiss 66 = .ok (.istore 4, 2) := by decide +kernel
theorem dX11_readMiss_68 : decode cX11_readMiss 68 = .ok (.iconst 1, 1) := by decide +kernel
theorem dX11_readMiss_69 : decode cX11_readMiss 69 = .ok (.istore 5, 2) := by decide +kernel
theorem dX11_readMiss_71 : decode cX11_readMiss 71 = .ok (.iload 5, 2) := by decide +kernel
theorem dX11_readMiss_73 : decode cX11_readMiss 73 = .ok (.iload_n 2, 1) := by decide +kernel
theorem dX11_readMiss_74 : decode cX11_readMiss 74 = .ok (.if_icmp .ge 39, 3) := by decide +kernel
theorem dX11_readMiss_77 : decode cX11_readMiss 77 = .ok (.aload_n 0, 1) := by decide +kernel
theorem dX11_readMiss_78 : decode cX11_readMiss 78 = .ok (.getfield 80, 3) := by decide +kernel
theorem dX11_readMiss_81 : decode cX11_readMiss 81 = .ok (.iload_n 1, 1) := by decide +kernel
theorem dX11_readMiss_82 : decode cX11_readMiss 82 = .ok (.iload 5, 2) := by decide +kernel
theorem dX11_readMiss_84 : decode cX11_readMiss 84 = .ok (.iadd, 1) := by decide +kernel
theorem dX11_readMiss_85 : decode cX11_readMiss 85 = .ok (.iaload, 1) := by decide +kernel
theorem dX11_readMiss_86 : decode cX11_readMiss 86 = .ok (.bipush (-100), 2) := by decide +kernel
theorem dX11_readMiss_88 : decode cX11_readMiss 88 = .ok (.if_icmp .ne 8, 3) := by decide +kernel
theorem dX11_readMiss_91 : decode cX11_readMiss 91 = .ok (.iload 4, 2) := by decide +kernel
theorem dX11_readMiss_93 : decode cX11_readMiss 93 = .ok (.goto 12, 3) := by decide +kernel
theorem dX11_readMiss_96 : decode cX11_readMiss 96 = .ok (.aload_n 0, 1) := by decide +kernel
theorem dX11_readMiss_97 : decode cX11_readMiss 97 = .ok (.getfield 80, 3) := by decide +kernel
theorem dX11_readMiss_100 : decode cX11_readMiss 100 = .ok (.iload_n 1, 1) := by decide +kernel
theorem dX11_readMiss_101 : decode cX11_readMiss 101 = .ok (.iload 5, 2) := by decide +kernel
theorem dX11_readMiss_103 : decode cX11_readMiss 103 = .ok (.iadd, 1) := by decide +kernel
theorem dX11_readMiss_104 : decode cX11_readMiss 104 = .ok (.iaload, 1) := by decide +kernel
theorem dX11_readMiss_105 : decode cX11_readMiss 105 = .ok (.istore 4, 2) := by decide +kernel
theorem dX11_readMiss_107 : decode cX11_readMiss 107 = .ok (.iinc 5 1, 3) := by decide +kernel
theorem dX11_readMiss_110 : decode cX11_readMiss 110 = .ok (.goto (-39), 3) := by decide +kernel
theorem dX11_readMiss_113 : decode cX11_readMiss 113 = .ok (.iconst 0, 1) := by decide +kernel
theorem dX11_readMiss_114 : decode cX11_readMiss 114 = .ok (.istore 5, 2) := by decide +kernel
theorem dX11_readMiss_116 : decode cX11_readMiss 116 = .ok (.bipush 20, 2) := by decide +kernel
theorem dX11_readMiss_118 : decode cX11_readMiss 118 = .ok (.istore 6, 2) := by decide +kernel
theorem dX11_readMiss_120 : decode cX11_readMiss 120 = .ok (.iload 6, 2) := by decide +kernel
theorem dX11_readMiss_122 : decode cX11_readMiss 122 = .ok (.iload_n 2, 1) := by decide +kernel
theorem dX11_readMiss_123 : decode cX11_readMiss 123 = .ok (.if_icmp .le 39, 3) := by decide +kernel
theorem dX11_readMiss_126 : decode cX11_readMiss 126 = .ok (.aload_n 0, 1) := by decide +kernel
theorem dX11_readMiss_127 : decode cX11_readMiss 127 = .ok (.getfield 80, 3) := by decide +kernel
theorem dX11_readMiss_130 : decode cX11_readMiss 130 = .ok (.iload_n 1, 1) := by decide +kernel
theorem dX11_readMiss_131 : decode cX11_readMiss 131 = .ok (.iload 6, 2) := by decide +kernel
theorem dX11_readMiss_133 : decode cX11_readMiss 133 = .ok (.iadd, 1) := by decide +kernel
theorem dX11_readMiss_134 : decode cX11_readMiss 134 = .ok (.iaload, 1) := by decide +kernel
theorem dX11_readMiss_135 : decode cX11_readMiss 135 = .ok (.bipush (-100), 2) := by decide +kernel
theorem dX11_readMiss_137 : decode cX11_readMiss 137 = .ok (.if_icmp .ne 8, 3) := by decide +kernel
theorem dX11_readMiss_140 : decode cX11_readMiss 140 = .ok (.iload 5, 2) := by decide +kernel
theorem dX11_readMiss_142 : decode cX11_readMiss 142 = .ok (.goto 12, 3) := by decide +kernel
theorem dX11_readMiss_145 : decode cX11_readMiss 145 = .ok (.aload_n 0, 1) := by decide +kernel
theorem dX11_readMiss_146 : decode cX11_readMiss 146 = .ok (.getfield 80, 3) := by decide +kernel
theorem dX11_readMiss_149 : decode cX11_readMiss 149 = .ok (.iload_n 1, 1) := by decide +kernel
theorem dX11_readMiss_150 : decode cX11_readMiss 150 = .ok (.iload 6, 2) := by decide +kernel
theorem dX11_readMiss_152 : decode cX11_readMiss 152 = .ok (.iadd, 1) := by decide +kernel
theorem dX11_readMiss_153 : decode cX11_readMiss 153 = .ok (.iaload, 1) := by decide +kernel
theorem dX11_readMiss_154 : decode cX11_readMiss 154 = .ok (.istore 5, 2) := by decide +kernel
theorem dX11_readMiss_156 : decode cX11_readMiss 156 = .ok (.iinc 6 (-1), 3) := by decide +kernel
theorem dX11_readMiss_159 : decode cX11_readMiss 159 = .ok (.goto (-39), 3) := by decide +kernel
theorem dX11_readMiss_162 : decode cX11_readMiss 162 = .ok (.iload_n 3, 1) := by decide +kernel
theorem dX11_readMiss_163 : decode cX11_readMiss 163 = .ok (.iload 4, 2) := by decide +kernel
theorem dX11_readMiss_165 : decode cX11_readMiss 165 = .ok (.if_icmp .gt 9, 3) := by decide +kernel
theorem dX11_readMiss_168 : decode cX11_readMiss 168 = .ok (.iload_n 3, 1) := by decide +kernel
theorem dX11_readMiss_169 : decode cX11_readMiss 169 = .ok (.iload 5, 2) := by decide +kernel
theorem dX11_readMiss_171 : decode cX11_readMiss 171 = .ok (.if_icmp .ge 12, 3) := by decide +kernel
theorem dX11_readMiss_174 : decode cX11_readMiss 174 = .ok (.aload_n 0, 1) := by decide +kernel
theorem dX11_readMiss_175 : decode cX11_readMiss 175 = .ok (.iconst 5, 1) := by decide +kernel
theorem dX11_readMiss_176 : decode cX11_readMiss 176 = .ok (.aload_n 0, 1) := by decide +kernel
theorem dX11_readMiss_177 : decode cX11_readMiss 177 = .ok (.getfield 162, 3) := by decide +kernel
theorem dX11_readMiss_180 : decode cX11_readMiss 180 = .ok (.invokevirtual 48, 3) := by decide +kernel
theorem dX11_readMiss_183 : decode cX11_readMiss 183 = .ok (.aload_n 0, 1) := by decide +kernel
theorem dX11_readMiss_184 : decode cX11_readMiss 184 = .ok (.getfield 80, 3) := by decide +kernel
theorem dX11_readMiss_187 : decode cX11_readMiss 187 = .ok (.iload_n 1, 1) := by decide +kernel
theorem dX11_readMiss_188 : decode cX11_readMiss 188 = .ok (.iload_n 2, 1) := by decide +kernel
theorem dX11_readMiss_189 : decode cX11_readMiss 189 = .ok (.iadd, 1) := by decide +kernel
theorem dX11_readMiss_190 : decode cX11_readMiss 190 = .ok (.iload_n 3, 1) := by decide +kernel
theorem dX11_readMiss_191 : decode cX11_readMiss 191 = .ok (.iastore, 1) := by decide +kernel
theorem dX11_readMiss_192 : decode cX11_readMiss 192 = .ok (.return_, 1) := by decide +kernel
theorem dX11_fault_0 : decode cX11_fault 0 = .ok (.iload_n 1, 1) := by decide +kernel
theorem dX11_fault_1 : decode cX11_fault 1 = .ok (.ifCond .ne 10, 3) := by decide +kernel
theorem dX11_fault_4 : decode cX11_fault 4 = .ok (.aload_n 0, 1) := by decide +kernel
theorem dX11_fault_5 : decode cX11_fault 5 = .ok (.getfield 11, 3) := by decide +kernel
theorem dX11_fault_8 : decode cX11_fault 8 = .ok (.goto 16, 3) := by decide +kernel
theorem dX11_fault_11 : decode cX11_fault 11 = .ok (.iload_n 1, 1) := by decide +kernel
theorem dX11_fault_12 : decode cX11_fault 12 = .ok (.iconst 1, 1) := by decide +kernel
theorem dX11_fault_13 : decode cX11_fault 13 = .ok (.if_icmp .ne 10, 3) := by decide +kernel
theorem dX11_fault_16 : decode cX11_fault 16 = .ok (.aload_n 0, 1) := by decide +kernel
theorem dX11_fault_17 : decode cX11_fault 17 = .ok (.getfield 14, 3) := by decide +kernel
theorem dX11_fault_20 : decode cX11_fault 20 = .ok (.goto 4, 3) := by decide +kernel
theorem dX11_fault_23 : decode cX11_fault 23 = .ok (.iconst (-1), 1) := by decide +kernel
theorem dX11_fault_24 : decode cX11_fault 24 = .ok (.ireturn, 1) := by decide +kernel
theorem dX11_isHour_0 : decode cX11_isHour 0 = .ok (.iload_n 0, 1) := by decide +kernel
theorem dX11_isHour_1 : decode cX11_isHour 1 = .ok (.ifCond .lt 13, 3) := by decide +kernel
theorem dX11_isHour_4 : decode cX11_isHour 4 = .ok (.iload_n 0, 1) := by decide +kernel
theorem dX11_isHour_5 : decode cX11_isHour 5 = .ok (.bipush 72, 2) := by decide +kernel
theorem dX11_isHour_7 : decode cX11_isHour 7 = .ok (.if_icmp .ge 7, 3) := by decide +kernel
theorem dX11_isHour_10 : decode cX11_isHour 10 = .ok (.iconst 1, 1) := by decide +kernel
theorem dX11_isHour_11 : decode cX11_isHour 11 = .ok (.goto 4, 3) := by decide +kernel
theorem dX11_isHour_14 : decode cX11_isHour 14 = .ok (.iconst 0, 1) := by decide +kernel
theorem dX11_isHour_15 : decode cX11_isHour 15 = .ok (.ireturn, 1) := by decide +kernel
theorem dX11_windOf_0 : decode cX11_windOf 0 = .ok (.iload_n 1, 1) := by decide +kernel
theorem dX11_windOf_1 : decode cX11_windOf 1 = .ok (.istore_n 3, 1) := by decide +kernel
theorem dX11_windOf_2 : decode cX11_windOf 2 = .ok (.iload_n 3, 1) := by decide +kernel
theorem dX11_windOf_3 : decode cX11_windOf 3 = .ok (.ifCond .lt 28, 3) := by decide +kernel
theorem dX11_windOf_6 : decode cX11_windOf 6 = .ok (.aload_n 0, 1) := by decide +kernel
theorem dX11_windOf_7 : decode cX11_windOf 7 = .ok (.getfield 65, 3) := by decide +kernel
theorem dX11_windOf_10 : decode cX11_windOf 10 = .ok (.bipush 72, 2) := by decide +kernel
theorem dX11_windOf_12 : decode cX11_windOf 12 = .ok (.aload_n 0, 1) := by decide +kernel
theorem dX11_windOf_13 : decode cX11_windOf 13 = .ok (.getfield 146, 3) := by decide +kernel
theorem dX11_windOf_16 : decode cX11_windOf 16 = .ok (.imul, 1) := by decide +kernel
theorem dX11_windOf_17 : decode cX11_windOf 17 = .ok (.iload_n 3, 1) := by decide +kernel
theorem dX11_windOf_18 : decode cX11_windOf 18 = .ok (.iadd, 1) := by decide +kernel
theorem dX11_windOf_19 : decode cX11_windOf 19 = .ok (.iaload, 1) := by decide +kernel
theorem dX11_windOf_20 : decode cX11_windOf 20 = .ok (.bipush (-100), 2) := by decide +kernel
theorem dX11_windOf_22 : decode cX11_windOf 22 = .ok (.if_icmp .ne 9, 3) := by decide +kernel
theorem dX11_windOf_25 : decode cX11_windOf 25 = .ok (.iinc 3 (-1), 3) := by decide +kernel
theorem dX11_windOf_28 : decode cX11_windOf 28 = .ok (.goto (-26), 3) := by decide +kernel
theorem dX11_windOf_31 : decode cX11_windOf 31 = .ok (.iload_n 3, 1) := by decide +kernel
theorem dX11_windOf_32 : decode cX11_windOf 32 = .ok (.ifCond .ge 7, 3) := by decide +kernel
theorem dX11_windOf_35 : decode cX11_windOf 35 = .ok (.iconst 0, 1) := by decide +kernel
theorem dX11_windOf_36 : decode cX11_windOf 36 = .ok (.goto 38, 3) := by decide +kernel
theorem dX11_windOf_39 : decode cX11_windOf 39 = .ok (.iload_n 2, 1) := by decide +kernel
theorem dX11_windOf_40 : decode cX11_windOf 40 = .ok (.ifCond .eq 20, 3) := by decide +kernel
theorem dX11_windOf_43 : decode cX11_windOf 43 = .ok (.aload_n 0, 1) := by decide +kernel
theorem dX11_windOf_44 : decode cX11_windOf 44 = .ok (.getfield 68, 3) := by decide +kernel
theorem dX11_windOf_47 : decode cX11_windOf 47 = .ok (.bipush 72, 2) := by decide +kernel
theorem dX11_windOf_49 : decode cX11_windOf 49 = .ok (.aload_n 0, 1) := by decide +kernel
theorem dX11_windOf_50 : decode cX11_windOf 50 = .ok (.getfield 146, 3) := by decide +kernel
theorem dX11_windOf_53 : decode cX11_windOf 53 = .ok (.imul, 1) := by decide +kernel
theorem dX11_windOf_54 : decode cX11_windOf 54 = .ok (.iload_n 3, 1) := by decide +kernel
theorem dX11_windOf_55 : decode cX11_windOf 55 = .ok (.iadd, 1) := by decide +kernel
theorem dX11_windOf_56 : decode cX11_windOf 56 = .ok (.iaload, 1) := by decide +kernel
theorem dX11_windOf_57 : decode cX11_windOf 57 = .ok (.goto 17, 3) := by decide +kernel
theorem dX11_windOf_60 : decode cX11_windOf 60 = .ok (.aload_n 0, 1) := by decide +kernel
theorem dX11_windOf_61 : decode cX11_windOf 61 = .ok (.getfield 65, 3) := by decide +kernel
theorem dX11_windOf_64 : decode cX11_windOf 64 = .ok (.bipush 72, 2) := by decide +kernel
theorem dX11_windOf_66 : decode cX11_windOf 66 = .ok (.aload_n 0, 1) := by decide +kernel
theorem dX11_windOf_67 : decode cX11_windOf 67 = .ok (.getfield 146, 3) := by decide +kernel
theorem dX11_windOf_70 : decode cX11_windOf 70 = .ok (.imul, 1) := by decide +kernel
theorem dX11_windOf_71 : decode cX11_windOf 71 = .ok (.iload_n 3, 1) := by decide +kernel
theorem dX11_windOf_72 : decode cX11_windOf 72 = .ok (.iadd, 1) := by decide +kernel
theorem dX11_windOf_73 : decode cX11_windOf 73 = .ok (.iaload, 1) := by decide +kernel
theorem dX11_windOf_74 : decode cX11_windOf 74 = .ok (.ireturn, 1) := by decide +kernel
theorem dX11_streamOf_0 : decode cX11_streamOf 0 = .ok (.bipush 72, 2) := by decide +kernel
theorem dX11_streamOf_2 : decode cX11_streamOf 2 = .ok (.iconst 4, 1) := by decide +kernel
theorem dX11_streamOf_3 : decode cX11_streamOf 3 = .ok (.aload_n 0, 1) := by decide +kernel
theorem dX11_streamOf_4 : decode cX11_streamOf 4 = .ok (.getfield 146, 3) := by decide +kernel
theorem dX11_streamOf_7 : decode cX11_streamOf 7 = .ok (.imul, 1) := by decide +kernel
theorem dX11_streamOf_8 : decode cX11_streamOf 8 = .ok (.iload_n 1, 1) := by decide +kernel
theorem dX11_streamOf_9 : decode cX11_streamOf 9 = .ok (.iadd, 1) := by decide +kernel
theorem dX11_streamOf_10 : decode cX11_streamOf 10 = .ok (.imul, 1) := by decide +kernel
theorem dX11_streamOf_11 : decode cX11_streamOf 11 = .ok (.istore 4, 2) := by decide +kernel
theorem dX11_streamOf_13 : decode cX11_streamOf 13 = .ok (.iload_n 2, 1) := by decide +kernel
theorem dX11_streamOf_14 : decode cX11_streamOf 14 = .ok (.istore 5, 2) := by decide +kernel
theorem dX11_streamOf_16 : decode cX11_streamOf 16 = .ok (.iload 5, 2) := by decide +kernel
theorem dX11_streamOf_18 : decode cX11_streamOf 18 = .ok (.ifCond .lt 24, 3) := by decide +kernel
theorem dX11_streamOf_21 : decode cX11_streamOf 21 = .ok (.aload_n 0, 1) := by decide +kernel
theorem dX11_streamOf_22 : decode cX11_streamOf 22 = .ok (.getfield 71, 3) := by decide +kernel
theorem dX11_streamOf_25 : decode cX11_streamOf 25 = .ok (.iload 4, 2) := by decide +kernel
theorem dX11_streamOf_27 : decode cX11_streamOf 27 = .ok (.iload 5, 2) := by decide +kernel
theorem dX11_streamOf_29 : decode cX11_streamOf 29 = .ok (.iadd, 1) := by decide +kernel
theorem dX11_streamOf_30 : decode cX11_streamOf 30 = .ok (.iaload, 1) := by decide +kernel
theorem dX11_streamOf_31 : decode cX11_streamOf 31 = .ok (.bipush (-100), 2) := by decide +kernel
theorem dX11_streamOf_33 : decode cX11_streamOf 33 = .ok (.if_icmp .ne 9, 3) := by decide +kernel
theorem dX11_streamOf_36 : decode cX11_streamOf 36 = .ok (.iinc 5 (-1), 3) := by decide +kernel
theorem dX11_streamOf_39 : decode cX11_streamOf 39 = .ok (.goto (-23), 3) := by decide +kernel
theorem dX11_streamOf_42 : decode cX11_streamOf 42 = .ok (.iload 5, 2) := by decide +kernel
theorem dX11_streamOf_44 : decode cX11_streamOf 44 = .ok (.ifCond .ge 7, 3) := by decide +kernel
theorem dX11_streamOf_47 : decode cX11_streamOf 47 = .ok (.iconst 0, 1) := by decide +kernel
theorem dX11_streamOf_48 : decode cX11_streamOf 48 = .ok (.goto 30, 3) := by decide +kernel
theorem dX11_streamOf_51 : decode cX11_streamOf 51 = .ok (.iload_n 3, 1) := by decide +kernel
theorem dX11_streamOf_52 : decode cX11_streamOf 52 = .ok (.ifCond .eq 16, 3) := by decide +kernel
theorem dX11_streamOf_55 : decode cX11_streamOf 55 = .ok (.aload_n 0, 1) := by decide +kernel
theorem dX11_streamOf_56 : decode cX11_streamOf 56 = .ok (.getfield 74, 3) := by decide +kernel
theorem dX11_streamOf_59 : decode cX11_streamOf 59 = .ok (.iload 4, 2) := by decide +kernel
theorem dX11_streamOf_61 : decode cX11_streamOf 61 = .ok (.iload 5, 2) := by decide +kernel
theorem dX11_streamOf_63 : decode cX11_streamOf 63 = .ok (.iadd, 1) := by decide +kernel
theorem dX11_streamOf_64 : decode cX11_streamOf 64 = .ok (.iaload, 1) := by decide +kernel
theorem dX11_streamOf_65 : decode cX11_streamOf 65 = .ok (.goto 13, 3) := by decide +kernel
theorem dX11_streamOf_68 : decode cX11_streamOf 68 = .ok (.aload_n 0, 1) := by decide +kernel
theorem dX11_streamOf_69 : decode cX11_streamOf 69 = .ok (.getfield 71, 3) := by decide +kernel
theorem dX11_streamOf_72 : decode cX11_streamOf 72 = .ok (.iload 4, 2) := by decide +kernel
theorem dX11_streamOf_74 : decode cX11_streamOf 74 = .ok (.iload 5, 2) := by decide +kernel
theorem dX11_streamOf_76 : decode cX11_streamOf 76 = .ok (.iadd, 1) := by decide +kernel
theorem dX11_streamOf_77 : decode cX11_streamOf 77 = .ok (.iaload, 1) := by decide +kernel
theorem dX11_streamOf_78 : decode cX11_streamOf 78 = .ok (.ireturn, 1) := by decide +kernel
theorem dX11_wind_0 : decode cX11_wind 0 = .ok (.iload_n 1, 1) := by decide +kernel
theorem dX11_wind_1 : decode cX11_wind 1 = .ok (.invokestatic 204, 3) := by decide +kernel
theorem dX11_wind_4 : decode cX11_wind 4 = .ok (.ifCond .eq 12, 3) := by decide +kernel
theorem dX11_wind_7 : decode cX11_wind 7 = .ok (.aload_n 0, 1) := by decide +kernel
theorem dX11_wind_8 : decode cX11_wind 8 = .ok (.iload_n 1, 1) := by decide +kernel
theorem dX11_wind_9 : decode cX11_wind 9 = .ok (.iload_n 2, 1) := by decide +kernel
theorem dX11_wind_10 : decode cX11_wind 10 = .ok (.invokevirtual 207, 3) := by decide +kernel
theorem dX11_wind_13 : decode cX11_wind 13 = .ok (.goto 5, 3) := by decide +kernel
theorem dX11_wind_16 : decode cX11_wind 16 = .ok (.bipush (-100), 2) := by decide +kernel
theorem dX11_wind_18 : decode cX11_wind 18 = .ok (.ireturn, 1) := by decide +kernel
theorem dX11_stream_0 : decode cX11_stream 0 = .ok (.iload_n 1, 1) := by decide +kernel
theorem dX11_stream_1 : decode cX11_stream 1 = .ok (.ifCond .lt 25, 3) := by decide +kernel
theorem dX11_stream_4 : decode cX11_stream 4 = .ok (.iload_n 1, 1) := by decide +kernel
theorem dX11_stream_5 : decode cX11_stream 5 = .ok (.iconst 4, 1) := by decide +kernel
theorem dX11_stream_6 : decode cX11_stream 6 = .ok (.if_icmp .ge 20, 3) := by decide +kernel
theorem dX11_stream_9 : decode cX11_stream 9 = .ok (.iload_n 2, 1) := by decide +kernel
theorem dX11_stream_10 : decode cX11_stream 10 = .ok (.invokestatic 204, 3) := by decide +kernel
theorem dX11_stream_13 : decode cX11_stream 13 = .ok (.ifCond .eq 13, 3) := by decide +kernel
theorem dX11_stream_16 : decode cX11_stream 16 = .ok (.aload_n 0, 1) := by decide +kernel
theorem dX11_stream_17 : decode cX11_stream 17 = .ok (.iload_n 1, 1) := by decide +kernel
theorem dX11_stream_18 : decode cX11_stream 18 = .ok (.iload_n 2, 1) := by decide +kernel
theorem dX11_stream_19 : decode cX11_stream 19 = .ok (.iload_n 3, 1) := by decide +kernel
theorem dX11_stream_20 : decode cX11_stream 20 = .ok (.invokevirtual 211, 3) := by decide +kernel
theorem dX11_stream_23 : decode cX11_stream 23 = .ok (.goto 5, 3) := by decide +kernel
theorem dX11_stream_26 : decode cX11_stream 26 = .ok (.bipush (-100), 2) := by decide +kernel
theorem dX11_stream_28 : decode cX11_stream 28 = .ok (.ireturn, 1) := by decide +kernel
theorem dX11_isSort_0 : decode cX11_isSort 0 = .ok (.iload_n 0, 1) := by decide +kernel
theorem dX11_isSort_1 : decode cX11_isSort 1 = .ok (.ifCond .lt 12, 3) := by decide +kernel
theorem dX11_isSort_4 : decode cX11_isSort 4 = .ok (.iload_n 0, 1) := by decide +kernel
theorem dX11_isSort_5 : decode cX11_isSort 5 = .ok (.iconst 2, 1) := by decide +kernel
theorem dX11_isSort_6 : decode cX11_isSort 6 = .ok (.if_icmp .ge 7, 3) := by decide +kernel
theorem dX11_isSort_9 : decode cX11_isSort 9 = .ok (.iconst 1, 1) := by decide +kernel
theorem dX11_isSort_10 : decode cX11_isSort 10 = .ok (.goto 4, 3) := by decide +kernel
theorem dX11_isSort_13 : decode cX11_isSort 13 = .ok (.iconst 0, 1) := by decide +kernel
theorem dX11_isSort_14 : decode cX11_isSort 14 = .ok (.ireturn, 1) := by decide +kernel
theorem dX11_missOf_0 : decode cX11_missOf 0 = .ok (.iload_n 2, 1) := by decide +kernel
theorem dX11_missOf_1 : decode cX11_missOf 1 = .ok (.istore_n 3, 1) := by decide +kernel
theorem dX11_missOf_2 : decode cX11_missOf 2 = .ok (.iload_n 3, 1) := by decide +kernel
theorem dX11_missOf_3 : decode cX11_missOf 3 = .ok (.ifCond .le 33, 3) := by decide +kernel
theorem dX11_missOf_6 : decode cX11_missOf 6 = .ok (.aload_n 0, 1) := by decide +kernel
theorem dX11_missOf_7 : decode cX11_missOf 7 = .ok (.getfield 80, 3) := by decide +kernel
theorem dX11_missOf_10 : decode cX11_missOf 10 = .ok (.bipush 42, 2) := by decide +kernel
theorem dX11_missOf_12 : decode cX11_missOf 12 = .ok (.aload_n 0, 1) := by decide +kernel
theorem dX11_missOf_13 : decode cX11_missOf 13 = .ok (.getfield 146, 3) := by decide +kernel
theorem dX11_missOf_16 : decode cX11_missOf 16 = .ok (.imul, 1) := by decide +kernel
theorem dX11_missOf_17 : decode cX11_missOf 17 = .ok (.bipush 21, 2) := by decide +kernel
theorem dX11_missOf_19 : decode cX11_missOf 19 = .ok (.iload_n 1, 1) := by decide +kernel
theorem dX11_missOf_20 : decode cX11_missOf 20 = .ok (.imul, 1) := by decide +kernel
theorem dX11_missOf_21 : decode cX11_missOf 21 = .ok (.iadd, 1) := by decide +kernel
theorem dX11_missOf_22 : decode cX11_missOf 22 = .ok (.iload_n 3, 1) := by decide +kernel
theorem dX11_missOf_23 : decode cX11_missOf 23 = .ok (.iadd, 1) := by decide +kernel
theorem dX11_missOf_24 : decode cX11_missOf 24 = .ok (.iaload, 1) := by decide +kernel
theorem dX11_missOf_25 : decode cX11_missOf 25 = .ok (.bipush (-100), 2) := by decide +kernel
theorem dX11_missOf_27 : decode cX11_missOf 27 = .ok (.if_icmp .ne 9, 3) := by decide +kernel
theorem dX11_missOf_30 : decode cX11_missOf 30 = .ok (.iinc 3 (-1), 3) := by decide +kernel
theorem dX11_missOf_33 : decode cX11_missOf 33 = .ok (.goto (-31), 3) := by decide +kernel
theorem dX11_missOf_36 : decode cX11_missOf 36 = .ok (.iload_n 3, 1) := by decide +kernel
theorem dX11_missOf_37 : decode cX11_missOf 37 = .ok (.ifCond .ne 8, 3) := by decide +kernel
theorem dX11_missOf_40 : decode cX11_missOf 40 = .ok (.bipush 100, 2) := by decide +kernel
theorem dX11_missOf_42 : decode cX11_missOf 42 = .ok (.goto 22, 3) := by decide +kernel
theorem dX11_missOf_45 : decode cX11_missOf 45 = .ok (.aload_n 0, 1) := by decide +kernel
theorem dX11_missOf_46 : decode cX11_missOf 46 = .ok (.getfield 80, 3) := by decide +kernel
theorem dX11_missOf_49 : decode cX11_missOf 49 = .ok (.bipush 42, 2) := by decide +kernel
theorem dX11_missOf_51 : decode cX11_missOf 51 = .ok (.aload_n 0, 1) := by decide +kernel
theorem dX11_missOf_52 : decode cX11_missOf 52 = .ok (.getfield 146, 3) := by decide +kernel
theorem dX11_missOf_55 : decode cX11_missOf 55 = .ok (.imul, 1) := by decide +kernel
theorem dX11_missOf_56 : decode cX11_missOf 56 = .ok (.bipush 21, 2) := by decide +kernel
theorem dX11_missOf_58 : decode cX11_missOf 58 = .ok (.iload_n 1, 1) := by decide +kernel
theorem dX11_missOf_59 : decode cX11_missOf 59 = .ok (.imul, 1) := by decide +kernel
theorem dX11_missOf_60 : decode cX11_missOf 60 = .ok (.iadd, 1) := by decide +kernel
theorem dX11_missOf_61 : decode cX11_missOf 61 = .ok (.iload_n 3, 1) := by decide +kernel
theorem dX11_missOf_62 : decode cX11_missOf 62 = .ok (.iadd, 1) := by decide +kernel
theorem dX11_missOf_63 : decode cX11_missOf 63 = .ok (.iaload, 1) := by decide +kernel
theorem dX11_missOf_64 : decode cX11_missOf 64 = .ok (.ireturn, 1) := by decide +kernel
theorem dX11_miss_0 : decode cX11_miss 0 = .ok (.iload_n 1, 1) := by decide +kernel
theorem dX11_miss_1 : decode cX11_miss 1 = .ok (.invokestatic 215, 3) := by decide +kernel
theorem dX11_miss_4 : decode cX11_miss 4 = .ok (.ifCond .eq 22, 3) := by decide +kernel
theorem dX11_miss_7 : decode cX11_miss 7 = .ok (.iload_n 2, 1) := by decide +kernel
theorem dX11_miss_8 : decode cX11_miss 8 = .ok (.ifCond .lt 18, 3) := by decide +kernel
theorem dX11_miss_11 : decode cX11_miss 11 = .ok (.iload_n 2, 1) := by decide +kernel
theorem dX11_miss_12 : decode cX11_miss 12 = .ok (.bipush 20, 2) := by decide +kernel
theorem dX11_miss_14 : decode cX11_miss 14 = .ok (.if_icmp .gt 12, 3) := by decide +kernel
theorem dX11_miss_17 : decode cX11_miss 17 = .ok (.aload_n 0, 1) := by decide +kernel
theorem dX11_miss_18 : decode cX11_miss 18 = .ok (.iload_n 1, 1) := by decide +kernel
theorem dX11_miss_19 : decode cX11_miss 19 = .ok (.iload_n 2, 1) := by decide +kernel
theorem dX11_miss_20 : decode cX11_miss 20 = .ok (.invokevirtual 218, 3) := by decide +kernel
theorem dX11_miss_23 : decode cX11_miss 23 = .ok (.goto 4, 3) := by decide +kernel
theorem dX11_miss_26 : decode cX11_miss 26 = .ok (.iconst (-1), 1) := by decide +kernel
theorem dX11_miss_27 : decode cX11_miss 27 = .ok (.ireturn, 1) := by decide +kernel
theorem dX11_land_0 : decode cX11_land 0 = .ok (.iload_n 1, 1) := by decide +kernel
theorem dX11_land_1 : decode cX11_land 1 = .ok (.ifCond .lt 9, 3) := by decide +kernel
theorem dX11_land_4 : decode cX11_land 4 = .ok (.iload_n 1, 1) := by decide +kernel
theorem dX11_land_5 : decode cX11_land 5 = .ok (.bipush 64, 2) := by decide +kernel
theorem dX11_land_7 : decode cX11_land 7 = .ok (.if_icmp .lt 7, 3) := by decide +kernel
theorem dX11_land_10 : decode cX11_land 10 = .ok (.iconst (-1), 1) := by decide +kernel
theorem dX11_land_11 : decode cX11_land 11 = .ok (.goto 25, 3) := by decide +kernel
theorem dX11_land_14 : decode cX11_land 14 = .ok (.aload_n 0, 1) := by decide +kernel
theorem dX11_land_15 : decode cX11_land 15 = .ok (.getfield 83, 3) := by decide +kernel
theorem dX11_land_18 : decode cX11_land 18 = .ok (.bipush 64, 2) := by decide +kernel
theorem dX11_land_20 : decode cX11_land 20 = .ok (.aload_n 0, 1) := by decide +kernel
theorem dX11_land_21 : decode cX11_land 21 = .ok (.getfield 146, 3) := by decide +kernel
theorem dX11_land_24 : decode cX11_land 24 = .ok (.imul, 1) := by decide +kernel
theorem dX11_land_25 : decode cX11_land 25 = .ok (.iload_n 1, 1) := by decide +kernel
theorem dX11_land_26 : decode cX11_land 26 = .ok (.iadd, 1) := by decide +kernel
theorem dX11_land_27 : decode cX11_land 27 = .ok (.baload, 1) := by decide +kernel
theorem dX11_land_28 : decode cX11_land 28 = .ok (.ifCond .eq 7, 3) := by decide +kernel
theorem dX11_land_31 : decode cX11_land 31 = .ok (.iconst 1, 1) := by decide +kernel
theorem dX11_land_32 : decode cX11_land 32 = .ok (.goto 4, 3) := by decide +kernel
theorem dX11_land_35 : decode cX11_land 35 = .ok (.iconst 0, 1) := by decide +kernel
theorem dX11_land_36 : decode cX11_land 36 = .ok (.ireturn, 1) := by decide +kernel
theorem dX11_isPoint_0 : decode cX11_isPoint 0 = .ok (.iload_n 0, 1) := by decide +kernel
theorem dX11_isPoint_1 : decode cX11_isPoint 1 = .ok (.ifCond .lt 13, 3) := by decide +kernel
theorem dX11_isPoint_4 : decode cX11_isPoint 4 = .ok (.iload_n 0, 1) := by decide +kernel
theorem dX11_isPoint_5 : decode cX11_isPoint 5 = .ok (.bipush 80, 2) := by decide +kernel
theorem dX11_isPoint_7 : decode cX11_isPoint 7 = .ok (.if_icmp .ge 7, 3) := by decide +kernel
theorem dX11_isPoint_10 : decode cX11_isPoint 10 = .ok (.iconst 1, 1) := by decide +kernel
theorem dX11_isPoint_11 : decode cX11_isPoint 11 = .ok (.goto 4, 3) := by decide +kernel
theorem dX11_isPoint_14 : decode cX11_isPoint 14 = .ok (.iconst 0, 1) := by decide +kernel
theorem dX11_isPoint_15 : decode cX11_isPoint 15 = .ok (.ireturn, 1) := by decide +kernel
theorem dX11_isMoment_0 : decode cX11_isMoment 0 = .ok (.iload_n 0, 1) := by decide +kernel
theorem dX11_isMoment_1 : decode cX11_isMoment 1 = .ok (.ifCond .lt 13, 3) := by decide +kernel
theorem dX11_isMoment_4 : decode cX11_isMoment 4 = .ok (.iload_n 0, 1) := by decide +kernel
theorem dX11_isMoment_5 : decode cX11_isMoment 5 = .ok (.bipush 72, 2) := by decide +kernel
theorem dX11_isMoment_7 : decode cX11_isMoment 7 = .ok (.if_icmp .gt 7, 3) := by decide +kernel
theorem dX11_isMoment_10 : decode cX11_isMoment 10 = .ok (.iconst 1, 1) := by decide +kernel
theorem dX11_isMoment_11 : decode cX11_isMoment 11 = .ok (.goto 4, 3) := by decide +kernel
theorem dX11_isMoment_14 : decode cX11_isMoment 14 = .ok (.iconst 0, 1) := by decide +kernel
theorem dX11_isMoment_15 : decode cX11_isMoment 15 = .ok (.ireturn, 1) := by decide +kernel
theorem dX11_tale_0 : decode cX11_tale 0 = .ok (.iload_n 1, 1) := by decide +kernel
theorem dX11_tale_1 : decode cX11_tale 1 = .ok (.ifCond .lt 53, 3) := by decide +kernel
theorem dX11_tale_4 : decode cX11_tale 4 = .ok (.iload_n 1, 1) := by decide +kernel
theorem dX11_tale_5 : decode cX11_tale 5 = .ok (.iconst 4, 1) := by decide +kernel
theorem dX11_tale_6 : decode cX11_tale 6 = .ok (.if_icmp .ge 48, 3) := by decide +kernel
theorem dX11_tale_9 : decode cX11_tale 9 = .ok (.iload_n 2, 1) := by decide +kernel
theorem dX11_tale_10 : decode cX11_tale 10 = .ok (.invokestatic 221, 3) := by decide +kernel
theorem dX11_tale_13 : decode cX11_tale 13 = .ok (.ifCond .eq 41, 3) := by decide +kernel
theorem dX11_tale_16 : decode cX11_tale 16 = .ok (.iload_n 3, 1) := by decide +kernel
theorem dX11_tale_17 : decode cX11_tale 17 = .ok (.invokestatic 221, 3) := by decide +kernel
theorem dX11_tale_20 : decode cX11_tale 20 = .ok (.ifCond .eq 34, 3) := by decide +kernel
theorem dX11_tale_23 : decode cX11_tale 23 = .ok (.iload 4, 2) := by decide +kernel
theorem dX11_tale_25 : decode cX11_tale 25 = .ok (.invokestatic 204, 3) := by decide +kernel
theorem dX11_tale_28 : decode cX11_tale 28 = .ok (.ifCond .eq 26, 3) := by decide +kernel
theorem dX11_tale_31 : decode cX11_tale 31 = .ok (.iload 5, 2) := by decide +kernel
theorem dX11_tale_33 : decode cX11_tale 33 = .ok (.iconst 1, 1) := by decide +kernel
theorem dX11_tale_34 : decode cX11_tale 34 = .ok (.if_icmp .lt 20, 3) := by decide +kernel
theorem dX11_tale_37 : decode cX11_tale 37 = .ok (.iload 5, 2) := by decide +kernel
theorem dX11_tale_39 : decode cX11_tale 39 = .ok (.sipush 1000, 3) := by decide +kernel
theorem dX11_tale_42 : decode cX11_tale 42 = .ok (.if_icmp .gt 12, 3) := by decide +kernel
theorem dX11_tale_45 : decode cX11_tale 45 = .ok (.aload_n 0, 1) := by decide +kernel
theorem dX11_tale_46 : decode cX11_tale 46 = .ok (.getfield 224, 3) := by decide +kernel
theorem dX11_tale_49 : decode cX11_tale 49 = .ok (.bipush 40, 2) := by decide +kernel
theorem dX11_tale_51 : decode cX11_tale 51 = .ok (.if_icmp .ne 5, 3) := by decide +kernel
theorem dX11_tale_54 : decode cX11_tale 54 = .ok (.iconst (-1), 1) := by decide +kernel
theorem dX11_tale_55 : decode cX11_tale 55 = .ok (.ireturn, 1) := by decide +kernel
theorem dX11_tale_56 : decode cX11_tale 56 = .ok (.aload_n 0, 1) := by decide +kernel
theorem dX11_tale_57 : decode cX11_tale 57 = .ok (.getfield 90, 3) := by decide +kernel
theorem dX11_tale_60 : decode cX11_tale 60 = .ok (.aload_n 0, 1) := by decide +kernel
theorem dX11_tale_61 : decode cX11_tale 61 = .ok (.getfield 224, 3) := by decide +kernel
theorem dX11_tale_64 : decode cX11_tale 64 = .ok (.iload_n 1, 1) := by decide +kernel
theorem dX11_tale_65 : decode cX11_tale 65 = .ok (.iastore, 1) := by decide +kernel
theorem dX11_tale_66 : decode cX11_tale 66 = .ok (.aload_n 0, 1) := by decide +kernel
theorem dX11_tale_67 : decode cX11_tale 67 = .ok (.getfield 93, 3) := by decide +kernel
theorem dX11_tale_70 : decode cX11_tale 70 = .ok (.aload_n 0, 1) := by decide +kernel
theorem dX11_tale_71 : decode cX11_tale 71 = .ok (.getfield 224, 3) := by decide +kernel
theorem dX11_tale_74 : decode cX11_tale 74 = .ok (.iload_n 2, 1) := by decide +kernel
theorem dX11_tale_75 : decode cX11_tale 75 = .ok (.iastore, 1) := by decide +kernel
theorem dX11_tale_76 : decode cX11_tale 76 = .ok (.aload_n 0, 1) := by decide +kernel
theorem dX11_tale_77 : decode cX11_tale 77 = .ok (.getfield 96, 3) := by decide +kernel
theorem dX11_tale_80 : decode cX11_tale 80 = .ok (.aload_n 0, 1) := by decide +kernel
theorem dX11_tale_81 : decode cX11_tale 81 = .ok (.getfield 224, 3) := by decide +kernel
theorem dX11_tale_84 : decode cX11_tale 84 = .ok (.iload_n 3, 1) := by decide +kernel
theorem dX11_tale_85 : decode cX11_tale 85 = .ok (.iastore, 1) := by decide +kernel
theorem dX11_tale_86 : decode cX11_tale 86 = .ok (.aload_n 0, 1) := by decide +kernel
theorem dX11_tale_87 : decode cX11_tale 87 = .ok (.getfield 99, 3) := by decide +kernel
theorem dX11_tale_90 : decode cX11_tale 90 = .ok (.aload_n 0, 1) := by decide +kernel
theorem dX11_tale_91 : decode cX11_tale 91 = .ok (.getfield 224, 3) := by decide +kernel
theorem dX11_tale_94 : decode cX11_tale 94 = .ok (.iload 4, 2) := by decide +kernel
theorem dX11_tale_96 : decode cX11_tale 96 = .ok (.iastore, 1) := by decide +kernel
theorem dX11_tale_97 : decode cX11_tale 97 = .ok (.aload_n 0, 1) := by decide +kernel
theorem dX11_tale_98 : decode cX11_tale 98 = .ok (.getfield 102, 3) := by decide +kernel
theorem dX11_tale_101 : decode cX11_tale 101 = .ok (.aload_n 0, 1) := by decide +kernel
theorem dX11_tale_102 : decode cX11_tale 102 = .ok (.getfield 224, 3) := by decide +kernel
theorem dX11_tale_105 : decode cX11_tale 105 = .ok (.iload 5, 2) := by decide +kernel
theorem dX11_tale_107 : decode cX11_tale 107 = .ok (.iastore, 1) := by decide +kernel
theorem dX11_tale_108 : decode cX11_tale 108 = .ok (.aload_n 0, 1) := by decide +kernel
theorem dX11_tale_109 : decode cX11_tale 109 = .ok (.dup, 1) := by decide +kernel
theorem dX11_tale_110 : decode cX11_tale 110 = .ok (.getfield 224, 3) := by decide +kernel
theorem dX11_tale_113 : decode cX11_tale 113 = .ok (.iconst 1, 1) := by decide +kernel
theorem dX11_tale_114 : decode cX11_tale 114 = .ok (.iadd, 1) := by decide +kernel
theorem dX11_tale_115 : decode cX11_tale 115 = .ok (.putfield 224, 3) := by decide +kernel
theorem dX11_tale_118 : decode cX11_tale 118 = .ok (.aload_n 0, 1) := by decide +kernel
theorem dX11_tale_119 : decode cX11_tale 119 = .ok (.getfield 224, 3) := by decide +kernel
theorem dX11_tale_122 : decode cX11_tale 122 = .ok (.iconst 1, 1) := by decide +kernel
theorem dX11_tale_123 : decode cX11_tale 123 = .ok (.isub, 1) := by decide +kernel
theorem dX11_tale_124 : decode cX11_tale 124 = .ok (.ireturn, 1) := by decide +kernel
theorem dX11_isOnLand_0 : decode cX11_isOnLand 0 = .ok (.aload_n 0, 1) := by decide +kernel
theorem dX11_isOnLand_1 : decode cX11_isOnLand 1 = .ok (.getfield 83, 3) := by decide +kernel
theorem dX11_isOnLand_4 : decode cX11_isOnLand 4 = .ok (.bipush 64, 2) := by decide +kernel
theorem dX11_isOnLand_6 : decode cX11_isOnLand 6 = .ok (.aload_n 0, 1) := by decide +kernel
theorem dX11_isOnLand_7 : decode cX11_isOnLand 7 = .ok (.getfield 146, 3) := by decide +kernel
theorem dX11_isOnLand_10 : decode cX11_isOnLand 10 = .ok (.imul, 1) := by decide +kernel
theorem dX11_isOnLand_11 : decode cX11_isOnLand 11 = .ok (.aload_n 0, 1) := by decide +kernel
theorem dX11_isOnLand_12 : decode cX11_isOnLand 12 = .ok (.invokevirtual 227, 3) := by decide +kernel
theorem dX11_isOnLand_15 : decode cX11_isOnLand 15 = .ok (.iadd, 1) := by decide +kernel
theorem dX11_isOnLand_16 : decode cX11_isOnLand 16 = .ok (.baload, 1) := by decide +kernel
theorem dX11_isOnLand_17 : decode cX11_isOnLand 17 = .ok (.ireturn, 1) := by decide +kernel
theorem dX11_cellHere_0 : decode cX11_cellHere 0 = .ok (.aload_n 0, 1) := by decide +kernel
theorem dX11_cellHere_1 : decode cX11_cellHere 1 = .ok (.getfield 231, 3) := by decide +kernel
theorem dX11_cellHere_4 : decode cX11_cellHere 4 = .ok (.bipush 10, 2) := by decide +kernel
theorem dX11_cellHere_6 : decode cX11_cellHere 6 = .ok (.idiv, 1) := by decide +kernel
theorem dX11_cellHere_7 : decode cX11_cellHere 7 = .ok (.bipush 8, 2) := by decide +kernel
theorem dX11_cellHere_9 : decode cX11_cellHere 9 = .ok (.imul, 1) := by decide +kernel
theorem dX11_cellHere_10 : decode cX11_cellHere 10 = .ok (.aload_n 0, 1) := by decide +kernel
theorem dX11_cellHere_11 : decode cX11_cellHere 11 = .ok (.getfield 234, 3) := by decide +kernel
theorem dX11_cellHere_14 : decode cX11_cellHere 14 = .ok (.bipush 10, 2) := by decide +kernel
theorem dX11_cellHere_16 : decode cX11_cellHere 16 = .ok (.idiv, 1) := by decide +kernel
theorem dX11_cellHere_17 : decode cX11_cellHere 17 = .ok (.iadd, 1) := by decide +kernel
theorem dX11_cellHere_18 : decode cX11_cellHere 18 = .ok (.ireturn, 1) := by decide +kernel
theorem dX11_drift_0 : decode cX11_drift 0 = .ok (.aload_n 0, 1) := by decide +kernel
theorem dX11_drift_1 : decode cX11_drift 1 = .ok (.aload_n 0, 1) := by decide +kernel
theorem dX11_drift_2 : decode cX11_drift 2 = .ok (.getfield 93, 3) := by decide +kernel
theorem dX11_drift_5 : decode cX11_drift 5 = .ok (.iload_n 1, 1) := by decide +kernel
theorem dX11_drift_6 : decode cX11_drift 6 = .ok (.iaload, 1) := by decide +kernel
theorem dX11_drift_7 : decode cX11_drift 7 = .ok (.putfield 234, 3) := by decide +kernel
theorem dX11_drift_10 : decode cX11_drift 10 = .ok (.aload_n 0, 1) := by decide +kernel
theorem dX11_drift_11 : decode cX11_drift 11 = .ok (.aload_n 0, 1) := by decide +kernel
theorem dX11_drift_12 : decode cX11_drift 12 = .ok (.getfield 96, 3) := by decide +kernel
theorem dX11_drift_15 : decode cX11_drift 15 = .ok (.iload_n 1, 1) := by decide +kernel
theorem dX11_drift_16 : decode cX11_drift 16 = .ok (.iaload, 1) := by decide +kernel
theorem dX11_drift_17 : decode cX11_drift 17 = .ok (.putfield 231, 3) := by decide +kernel
theorem dX11_drift_20 : decode cX11_drift 20 = .ok (.aload_n 0, 1) := by decide +kernel
theorem dX11_drift_21 : decode cX11_drift 21 = .ok (.iload_n 2, 1) := by decide +kernel
theorem dX11_drift_22 : decode cX11_drift 22 = .ok (.aload_n 0, 1) := by decide +kernel
theorem dX11_drift_23 : decode cX11_drift 23 = .ok (.getfield 99, 3) := by decide +kernel
theorem dX11_drift_26 : decode cX11_drift 26 = .ok (.iload_n 1, 1) := by decide +kernel
theorem dX11_drift_27 : decode cX11_drift 27 = .ok (.iaload, 1) := by decide +kernel
theorem dX11_drift_28 : decode cX11_drift 28 = .ok (.if_icmp .lt 14, 3) := by decide +kernel
theorem dX11_drift_31 : decode cX11_drift 31 = .ok (.aload_n 0, 1) := by decide +kernel
theorem dX11_drift_32 : decode cX11_drift 32 = .ok (.invokevirtual 237, 3) := by decide +kernel
theorem dX11_drift_35 : decode cX11_drift 35 = .ok (.ifCond .eq 7, 3) := by decide +kernel
theorem dX11_drift_38 : decode cX11_drift 38 = .ok (.iconst 1, 1) := by decide +kernel
theorem dX11_drift_39 : decode cX11_drift 39 = .ok (.goto 4, 3) := by decide +kernel
theorem dX11_drift_42 : decode cX11_drift 42 = .ok (.iconst 0, 1) := by decide +kernel
theorem dX11_drift_43 : decode cX11_drift 43 = .ok (.putfield 240, 3) := by decide +kernel
theorem dX11_drift_46 : decode cX11_drift 46 = .ok (.aload_n 0, 1) := by decide +kernel
theorem dX11_drift_47 : decode cX11_drift 47 = .ok (.getfield 77, 3) := by decide +kernel
theorem dX11_drift_50 : decode cX11_drift 50 = .ok (.iconst 4, 1) := by decide +kernel
theorem dX11_drift_51 : decode cX11_drift 51 = .ok (.aload_n 0, 1) := by decide +kernel
theorem dX11_drift_52 : decode cX11_drift 52 = .ok (.getfield 146, 3) := by decide +kernel
theorem dX11_drift_55 : decode cX11_drift 55 = .ok (.imul, 1) := by decide +kernel
theorem dX11_drift_56 : decode cX11_drift 56 = .ok (.aload_n 0, 1) := by decide +kernel
theorem dX11_drift_57 : decode cX11_drift 57 = .ok (.getfield 90, 3) := by decide +kernel
theorem dX11_drift_60 : decode cX11_drift 60 = .ok (.iload_n 1, 1) := by decide +kernel
theorem dX11_drift_61 : decode cX11_drift 61 = .ok (.iaload, 1) := by decide +kernel
theorem dX11_drift_62 : decode cX11_drift 62 = .ok (.iadd, 1) := by decide +kernel
theorem dX11_drift_63 : decode cX11_drift 63 = .ok (.iaload, 1) := by decide +kernel
theorem dX11_drift_64 : decode cX11_drift 64 = .ok (.istore_n 3, 1) := by decide +kernel
theorem dX11_drift_65 : decode cX11_drift 65 = .ok (.aload_n 0, 1) := by decide +kernel
theorem dX11_drift_66 : decode cX11_drift 66 = .ok (.getfield 99, 3) := by decide +kernel
theorem dX11_drift_69 : decode cX11_drift 69 = .ok (.iload_n 1, 1) := by decide +kernel
theorem dX11_drift_70 : decode cX11_drift 70 = .ok (.iaload, 1) := by decide +kernel
theorem dX11_drift_71 : decode cX11_drift 71 = .ok (.istore 4, 2) := by decide +kernel
theorem dX11_drift_73 : decode cX11_drift 73 = .ok (.iload 4, 2) := by decide +kernel
theorem dX11_drift_75 : decode cX11_drift 75 = .ok (.iload_n 2, 1) := by decide +kernel
theorem dX11_drift_76 : decode cX11_drift 76 = .ok (.if_icmp .ge 149, 3) := by decide +kernel
theorem dX11_drift_79 : decode cX11_drift 79 = .ok (.aload_n 0, 1) := by decide +kernel
theorem dX11_drift_80 : decode cX11_drift 80 = .ok (.getfield 240, 3) := by decide +kernel
theorem dX11_drift_83 : decode cX11_drift 83 = .ok (.ifCond .ne 142, 3) := by decide +kernel
theorem dX11_drift_86 : decode cX11_drift 86 = .ok (.aload_n 0, 1) := by decide +kernel
theorem dX11_drift_87 : decode cX11_drift 87 = .ok (.getfield 234, 3) := by decide +kernel
theorem dX11_drift_90 : decode cX11_drift 90 = .ok (.bipush 40, 2) := by decide +kernel
theorem dX11_drift_92 : decode cX11_drift 92 = .ok (.if_icmp .ge 7, 3) := by decide +kernel
theorem dX11_drift_95 : decode cX11_drift 95 = .ok (.iconst 0, 1) := by decide +kernel
theorem dX11_drift_96 : decode cX11_drift 96 = .ok (.goto 4, 3) := by decide +kernel
theorem dX11_drift_99 : decode cX11_drift 99 = .ok (.iconst 1, 1) := by decide +kernel
theorem dX11_drift_100 : decode cX11_drift 100 = .ok (.aload_n 0, 1) := by decide +kernel
theorem dX11_drift_101 : decode cX11_drift 101 = .ok (.getfield 231, 3) := by decide +kernel
theorem dX11_drift_104 : decode cX11_drift 104 = .ok (.bipush 40, 2) := by decide +kernel
theorem dX11_drift_106 : decode cX11_drift 106 = .ok (.if_icmp .ge 7, 3) := by decide +kernel
theorem dX11_drift_109 : decode cX11_drift 109 = .ok (.iconst 0, 1) := by decide +kernel
theorem dX11_drift_110 : decode cX11_drift 110 = .ok (.goto 4, 3) := by decide +kernel
theorem dX11_drift_113 : decode cX11_drift 113 = .ok (.iconst 2, 1) := by decide +kernel
theorem dX11_drift_114 : decode cX11_drift 114 = .ok (.iadd, 1) := by decide +kernel
theorem dX11_drift_115 : decode cX11_drift 115 = .ok (.istore 5, 2) := by decide +kernel
theorem dX11_drift_117 : decode cX11_drift 117 = .ok (.aload_n 0, 1) := by decide +kernel
theorem dX11_drift_118 : decode cX11_drift 118 = .ok (.dup, 1) := by decide +kernel
theorem dX11_drift_119 : decode cX11_drift 119 = .ok (.getfield 234, 3) := by decide +kernel
theorem dX11_drift_122 : decode cX11_drift 122 = .ok (.aload_n 0, 1) := by decide +kernel
theorem dX11_drift_123 : decode cX11_drift 123 = .ok (.iload 5, 2) := by decide +kernel
theorem dX11_drift_125 : decode cX11_drift 125 = .ok (.iload 4, 2) := by decide +kernel
theorem dX11_drift_127 : decode cX11_drift 127 = .ok (.iconst 0, 1) := by decide +kernel
theorem dX11_drift_128 : decode cX11_drift 128 = .ok (.invokevirtual 211, 3) := by decide +kernel
theorem dX11_drift_131 : decode cX11_drift 131 = .ok (.aload_n 0, 1) := by decide +kernel
theorem dX11_drift_132 : decode cX11_drift 132 = .ok (.iload 4, 2) := by decide +kernel
theorem dX11_drift_134 : decode cX11_drift 134 = .ok (.iconst 0, 1) := by decide +kernel
theorem dX11_drift_135 : decode cX11_drift 135 = .ok (.invokevirtual 207, 3) := by decide +kernel
theorem dX11_drift_138 : decode cX11_drift 138 = .ok (.iload_n 3, 1) := by decide +kernel
theorem dX11_drift_139 : decode cX11_drift 139 = .ok (.imul, 1) := by decide +kernel
theorem dX11_drift_140 : decode cX11_drift 140 = .ok (.bipush 100, 2) := by decide +kernel
theorem dX11_drift_142 : decode cX11_drift 142 = .ok (.idiv, 1) := by decide +kernel
theorem dX11_drift_143 : decode cX11_drift 143 = .ok (.iadd, 1) := by decide +kernel
theorem dX11_drift_144 : decode cX11_drift 144 = .ok (.iadd, 1) := by decide +kernel
theorem dX11_drift_145 : decode cX11_drift 145 = .ok (.putfield 234, 3) := by decide +kernel
theorem dX11_drift_148 : decode cX11_drift 148 = .ok (.aload_n 0, 1) := by decide +kernel
theorem dX11_drift_149 : decode cX11_drift 149 = .ok (.dup, 1) := by decide +kernel
theorem dX11_drift_150 : decode cX11_drift 150 = .ok (.getfield 231, 3) := by decide +kernel
theorem dX11_drift_153 : decode cX11_drift 153 = .ok (.aload_n 0, 1) := by decide +kernel
theorem dX11_drift_154 : decode cX11_drift 154 = .ok (.iload 5, 2) := by decide +kernel
theorem dX11_drift_156 : decode cX11_drift 156 = .ok (.iload 4, 2) := by decide +kernel
theorem dX11_drift_158 : decode cX11_drift 158 = .ok (.iconst 1, 1) := by decide +kernel
theorem dX11_drift_159 : decode cX11_drift 159 = .ok (.invokevirtual 211, 3) := by decide +kernel
theorem dX11_drift_162 : decode cX11_drift 162 = .ok (.aload_n 0, 1) := by decide +kernel
theorem dX11_drift_163 : decode cX11_drift 163 = .ok (.iload 4, 2) := by decide +kernel
theorem dX11_drift_165 : decode cX11_drift 165 = .ok (.iconst 1, 1) := by decide +kernel
theorem dX11_drift_166 : decode cX11_drift 166 = .ok (.invokevirtual 207, 3) := by decide +kernel
theorem dX11_drift_169 : decode cX11_drift 169 = .ok (.iload_n 3, 1) := by decide +kernel
theorem dX11_drift_170 : decode cX11_drift 170 = .ok (.imul, 1) := by decide +kernel
theorem dX11_drift_171 : decode cX11_drift 171 = .ok (.bipush 100, 2) := by decide +kernel
theorem dX11_drift_173 : decode cX11_drift 173 = .ok (.idiv, 1) := by decide +kernel
theorem dX11_drift_174 : decode cX11_drift 174 = .ok (.iadd, 1) := by decide +kernel
theorem dX11_drift_175 : decode cX11_drift 175 = .ok (.iadd, 1) := by decide +kernel
theorem dX11_drift_176 : decode cX11_drift 176 = .ok (.putfield 231, 3) := by decide +kernel
theorem dX11_drift_179 : decode cX11_drift 179 = .ok (.aload_n 0, 1) := by decide +kernel
theorem dX11_drift_180 : decode cX11_drift 180 = .ok (.aload_n 0, 1) := by decide +kernel
theorem dX11_drift_181 : decode cX11_drift 181 = .ok (.getfield 234, 3) := by decide +kernel
theorem dX11_drift_184 : decode cX11_drift 184 = .ok (.invokestatic 221, 3) := by decide +kernel
theorem dX11_drift_187 : decode cX11_drift 187 = .ok (.ifCond .eq 13, 3) := by decide +kernel
theorem dX11_drift_190 : decode cX11_drift 190 = .ok (.aload_n 0, 1) := by decide +kernel
theorem dX11_drift_191 : decode cX11_drift 191 = .ok (.getfield 231, 3) := by decide +kernel
theorem dX11_drift_194 : decode cX11_drift 194 = .ok (.invokestatic 221, 3) := by decide +kernel
theorem dX11_drift_197 : decode cX11_drift 197 = .ok (.ifCond .ne 7, 3) := by decide +kernel
theorem dX11_drift_200 : decode cX11_drift 200 = .ok (.iconst 2, 1) := by decide +kernel
theorem dX11_drift_201 : decode cX11_drift 201 = .ok (.goto 15, 3) := by decide +kernel
theorem dX11_drift_204 : decode cX11_drift 204 = .ok (.aload_n 0, 1) := by decide +kernel
theorem dX11_drift_205 : decode cX11_drift 205 = .ok (.invokevirtual 237, 3) := by decide +kernel
theorem dX11_drift_208 : decode cX11_drift 208 = .ok (.ifCond .eq 7, 3) := by decide +kernel
theorem dX11_drift_211 : decode cX11_drift 211 = .ok (.iconst 1, 1) := by decide +kernel
theorem dX11_drift_212 : decode cX11_drift 212 = .ok (.goto 4, 3) := by decide +kernel
theorem dX11_drift_215 : decode cX11_drift 215 = .ok (.iconst 0, 1) := by decide +kernel
theorem dX11_drift_216 : decode cX11_drift 216 = .ok (.putfield 240, 3) := by decide +kernel
theorem dX11_drift_219 : decode cX11_drift 219 = .ok (.iinc 4 1, 3) := by decide +kernel
theorem dX11_drift_222 : decode cX11_drift 222 = .ok (.goto (-149), 3) := by decide +kernel
theorem dX11_drift_225 : decode cX11_drift 225 = .ok (.return_, 1) := by decide +kernel
theorem dX11_isTale_0 : decode cX11_isTale 0 = .ok (.iload_n 1, 1) := by decide +kernel
theorem dX11_isTale_1 : decode cX11_isTale 1 = .ok (.ifCond .lt 15, 3) := by decide +kernel
theorem dX11_isTale_4 : decode cX11_isTale 4 = .ok (.iload_n 1, 1) := by decide +kernel
theorem dX11_isTale_5 : decode cX11_isTale 5 = .ok (.aload_n 0, 1) := by decide +kernel
theorem dX11_isTale_6 : decode cX11_isTale 6 = .ok (.getfield 224, 3) := by decide +kernel
theorem dX11_isTale_9 : decode cX11_isTale 9 = .ok (.if_icmp .ge 7, 3) := by decide +kernel
theorem dX11_isTale_12 : decode cX11_isTale 12 = .ok (.iconst 1, 1) := by decide +kernel
theorem dX11_isTale_13 : decode cX11_isTale 13 = .ok (.goto 4, 3) := by decide +kernel
theorem dX11_isTale_16 : decode cX11_isTale 16 = .ok (.iconst 0, 1) := by decide +kernel
theorem dX11_isTale_17 : decode cX11_isTale 17 = .ok (.ireturn, 1) := by decide +kernel
theorem dX11_place_0 : decode cX11_place 0 = .ok (.aload_n 0, 1) := by decide +kernel
theorem dX11_place_1 : decode cX11_place 1 = .ok (.iload_n 1, 1) := by decide +kernel
theorem dX11_place_2 : decode cX11_place 2 = .ok (.invokevirtual 243, 3) := by decide +kernel
theorem dX11_place_5 : decode cX11_place 5 = .ok (.ifCond .eq 10, 3) := by decide +kernel
theorem dX11_place_8 : decode cX11_place 8 = .ok (.iload_n 2, 1) := by decide +kernel
theorem dX11_place_9 : decode cX11_place 9 = .ok (.invokestatic 246, 3) := by decide +kernel
theorem dX11_place_12 : decode cX11_place 12 = .ok (.ifCond .ne 5, 3) := by decide +kernel
theorem dX11_place_15 : decode cX11_place 15 = .ok (.iconst (-1), 1) := by decide +kernel
theorem dX11_place_16 : decode cX11_place 16 = .ok (.ireturn, 1) := by decide +kernel
theorem dX11_place_17 : decode cX11_place 17 = .ok (.aload_n 0, 1) := by decide +kernel
theorem dX11_place_18 : decode cX11_place 18 = .ok (.iload_n 1, 1) := by decide +kernel
theorem dX11_place_19 : decode cX11_place 19 = .ok (.iload_n 2, 1) := by decide +kernel
theorem dX11_place_20 : decode cX11_place 20 = .ok (.invokevirtual 249, 3) := by decide +kernel
theorem dX11_place_23 : decode cX11_place 23 = .ok (.aload_n 0, 1) := by decide +kernel
theorem dX11_place_24 : decode cX11_place 24 = .ok (.getfield 240, 3) := by decide +kernel
theorem dX11_place_27 : decode cX11_place 27 = .ok (.iconst 2, 1) := by decide +kernel
theorem dX11_place_28 : decode cX11_place 28 = .ok (.if_icmp .ne 7, 3) := by decide +kernel
theorem dX11_place_31 : decode cX11_place 31 = .ok (.iconst (-1), 1) := by decide +kernel
theorem dX11_place_32 : decode cX11_place 32 = .ok (.goto 15, 3) := by decide +kernel
theorem dX11_place_35 : decode cX11_place 35 = .ok (.bipush 100, 2) := by decide +kernel
theorem dX11_place_37 : decode cX11_place 37 = .ok (.aload_n 0, 1) := by decide +kernel
theorem dX11_place_38 : decode cX11_place 38 = .ok (.getfield 231, 3) := by decide +kernel
theorem dX11_place_41 : decode cX11_place 41 = .ok (.imul, 1) := by decide +kernel
theorem dX11_place_42 : decode cX11_place 42 = .ok (.aload_n 0, 1) := by decide +kernel
theorem dX11_place_43 : decode cX11_place 43 = .ok (.getfield 234, 3) := by decide +kernel
theorem dX11_place_46 : decode cX11_place 46 = .ok (.iadd, 1) := by decide +kernel
theorem dX11_place_47 : decode cX11_place 47 = .ok (.ireturn, 1) := by decide +kernel
theorem dX11_state_0 : decode cX11_state 0 = .ok (.aload_n 0, 1) := by decide +kernel
theorem dX11_state_1 : decode cX11_state 1 = .ok (.iload_n 1, 1) := by decide +kernel
theorem dX11_state_2 : decode cX11_state 2 = .ok (.invokevirtual 243, 3) := by decide +kernel
theorem dX11_state_5 : decode cX11_state 5 = .ok (.ifCond .eq 10, 3) := by decide +kernel
theorem dX11_state_8 : decode cX11_state 8 = .ok (.iload_n 2, 1) := by decide +kernel
theorem dX11_state_9 : decode cX11_state 9 = .ok (.invokestatic 246, 3) := by decide +kernel
theorem dX11_state_12 : decode cX11_state 12 = .ok (.ifCond .ne 5, 3) := by decide +kernel
theorem dX11_state_15 : decode cX11_state 15 = .ok (.iconst (-1), 1) := by decide +kernel
theorem dX11_state_16 : decode cX11_state 16 = .ok (.ireturn, 1) := by decide +kernel
theorem dX11_state_17 : decode cX11_state 17 = .ok (.aload_n 0, 1) := by decide +kernel
theorem dX11_state_18 : decode cX11_state 18 = .ok (.iload_n 1, 1) := by decide +kernel
theorem dX11_state_19 : decode cX11_state 19 = .ok (.iload_n 2, 1) := by decide +kernel
theorem dX11_state_20 : decode cX11_state 20 = .ok (.invokevirtual 249, 3) := by decide +kernel
theorem dX11_state_23 : decode cX11_state 23 = .ok (.aload_n 0, 1) := by decide +kernel
theorem dX11_state_24 : decode cX11_state 24 = .ok (.getfield 240, 3) := by decide +kernel
theorem dX11_state_27 : decode cX11_state 27 = .ok (.ireturn, 1) := by decide +kernel
theorem dX11_standing_0 : decode cX11_standing 0 = .ok (.iconst 0, 1) := by decide +kernel
theorem dX11_standing_1 : decode cX11_standing 1 = .ok (.istore_n 1, 1) := by decide +kernel
theorem dX11_standing_2 : decode cX11_standing 2 = .ok (.iconst 0, 1) := by decide +kernel
theorem dX11_standing_3 : decode cX11_standing 3 = .ok (.istore_n 2, 1) := by decide +kernel
theorem dX11_standing_4 : decode cX11_standing 4 = .ok (.iload_n 2, 1) := by decide +kernel
theorem dX11_standing_5 : decode cX11_standing 5 = .ok (.aload_n 0, 1) := by decide +kernel
theorem dX11_standing_6 : decode cX11_standing 6 = .ok (.getfield 252, 3) := by decide +kernel
theorem dX11_standing_9 : decode cX11_standing 9 = .ok (.if_icmp .ge 26, 3) := by decide +kernel
theorem dX11_standing_12 : decode cX11_standing 12 = .ok (.iload_n 1, 1) := by decide +kernel
theorem dX11_standing_13 : decode cX11_standing 13 = .ok (.aload_n 0, 1) := by decide +kernel
theorem dX11_standing_14 : decode cX11_standing 14 = .ok (.getfield 126, 3) := by decide +kernel
theorem dX11_standing_17 : decode cX11_standing 17 = .ok (.iload_n 2, 1) := by decide +kernel
theorem dX11_standing_18 : decode cX11_standing 18 = .ok (.baload, 1) := by decide +kernel
theorem dX11_standing_19 : decode cX11_standing 19 = .ok (.ifCond .eq 7, 3) := by decide +kernel
theorem dX11_standing_22 : decode cX11_standing 22 = .ok (.iconst 0, 1) := by decide +kernel
theorem dX11_standing_23 : decode cX11_standing 23 = .ok (.goto 4, 3) := by decide +kernel
theorem dX11_standing_26 : decode cX11_standing 26 = .ok (.iconst 1, 1) := by decide +kernel
theorem dX11_standing_27 : decode cX11_standing 27 = .ok (.iadd, 1) := by decide +kernel
theorem dX11_standing_28 : decode cX11_standing 28 = .ok (.istore_n 1, 1) := by decide +kernel
theorem dX11_standing_29 : decode cX11_standing 29 = .ok (.iinc 2 1, 3) := by decide +kernel
theorem dX11_standing_32 : decode cX11_standing 32 = .ok (.goto (-28), 3) := by decide +kernel
theorem dX11_standing_35 : decode cX11_standing 35 = .ok (.iload_n 1, 1) := by decide +kernel
theorem dX11_standing_36 : decode cX11_standing 36 = .ok (.ireturn, 1) := by decide +kernel
theorem dX11_prove_0 : decode cX11_prove 0 = .ok (.aload_n 0, 1) := by decide +kernel
theorem dX11_prove_1 : decode cX11_prove 1 = .ok (.getfield 105, 3) := by decide +kernel
theorem dX11_prove_4 : decode cX11_prove 4 = .ok (.aload_n 0, 1) := by decide +kernel
theorem dX11_prove_5 : decode cX11_prove 5 = .ok (.getfield 252, 3) := by decide +kernel
theorem dX11_prove_8 : decode cX11_prove 8 = .ok (.iload_n 1, 1) := by decide +kernel
theorem dX11_prove_9 : decode cX11_prove 9 = .ok (.iastore, 1) := by decide +kernel
theorem dX11_prove_10 : decode cX11_prove 10 = .ok (.aload_n 0, 1) := by decide +kernel
theorem dX11_prove_11 : decode cX11_prove 11 = .ok (.getfield 108, 3) := by decide +kernel
theorem dX11_prove_14 : decode cX11_prove 14 = .ok (.aload_n 0, 1) := by decide +kernel
theorem dX11_prove_15 : decode cX11_prove 15 = .ok (.getfield 252, 3) := by decide +kernel
theorem dX11_prove_18 : decode cX11_prove 18 = .ok (.iload_n 2, 1) := by decide +kernel
theorem dX11_prove_19 : decode cX11_prove 19 = .ok (.iastore, 1) := by decide +kernel
theorem dX11_prove_20 : decode cX11_prove 20 = .ok (.aload_n 0, 1) := by decide +kernel
theorem dX11_prove_21 : decode cX11_prove 21 = .ok (.getfield 111, 3) := by decide +kernel
theorem dX11_prove_24 : decode cX11_prove 24 = .ok (.aload_n 0, 1) := by decide +kernel
theorem dX11_prove_25 : decode cX11_prove 25 = .ok (.getfield 252, 3) := by decide +kernel
theorem dX11_prove_28 : decode cX11_prove 28 = .ok (.iload_n 3, 1) := by decide +kernel
theorem dX11_prove_29 : decode cX11_prove 29 = .ok (.iastore, 1) := by decide +kernel
theorem dX11_prove_30 : decode cX11_prove 30 = .ok (.aload_n 0, 1) := by decide +kernel
theorem dX11_prove_31 : decode cX11_prove 31 = .ok (.getfield 114, 3) := by decide +kernel
theorem dX11_prove_34 : decode cX11_prove 34 = .ok (.aload_n 0, 1) := by decide +kernel
theorem dX11_prove_35 : decode cX11_prove 35 = .ok (.getfield 252, 3) := by decide +kernel
theorem dX11_prove_38 : decode cX11_prove 38 = .ok (.iload 4, 2) := by decide +kernel
theorem dX11_prove_40 : decode cX11_prove 40 = .ok (.iastore, 1) := by decide +kernel
theorem dX11_prove_41 : decode cX11_prove 41 = .ok (.aload_n 0, 1) := by decide +kernel
theorem dX11_prove_42 : decode cX11_prove 42 = .ok (.getfield 117, 3) := by decide +kernel
theorem dX11_prove_45 : decode cX11_prove 45 = .ok (.aload_n 0, 1) := by decide +kernel
theorem dX11_prove_46 : decode cX11_prove 46 = .ok (.getfield 252, 3) := by decide +kernel
theorem dX11_prove_49 : decode cX11_prove 49 = .ok (.iload 5, 2) := by decide +kernel
theorem dX11_prove_51 : decode cX11_prove 51 = .ok (.iastore, 1) := by decide +kernel
theorem dX11_prove_52 : decode cX11_prove 52 = .ok (.aload_n 0, 1) := by decide +kernel
theorem dX11_prove_53 : decode cX11_prove 53 = .ok (.getfield 120, 3) := by decide +kernel
theorem dX11_prove_56 : decode cX11_prove 56 = .ok (.aload_n 0, 1) := by decide +kernel
theorem dX11_prove_57 : decode cX11_prove 57 = .ok (.getfield 252, 3) := by decide +kernel
theorem dX11_prove_60 : decode cX11_prove 60 = .ok (.iload 6, 2) := by decide +kernel
theorem dX11_prove_62 : decode cX11_prove 62 = .ok (.iastore, 1) := by decide +kernel
theorem dX11_prove_63 : decode cX11_prove 63 = .ok (.aload_n 0, 1) := by decide +kernel
theorem dX11_prove_64 : decode cX11_prove 64 = .ok (.getfield 123, 3) := by decide +kernel
theorem dX11_prove_67 : decode cX11_prove 67 = .ok (.aload_n 0, 1) := by decide +kernel
theorem dX11_prove_68 : decode cX11_prove 68 = .ok (.getfield 252, 3) := by decide +kernel
theorem dX11_prove_71 : decode cX11_prove 71 = .ok (.iload 7, 2) := by decide +kernel
theorem dX11_prove_73 : decode cX11_prove 73 = .ok (.iastore, 1) := by decide +kernel
theorem dX11_prove_74 : decode cX11_prove 74 = .ok (.aload_n 0, 1) := by decide +kernel
theorem dX11_prove_75 : decode cX11_prove 75 = .ok (.getfield 126, 3) := by decide +kernel
theorem dX11_prove_78 : decode cX11_prove 78 = .ok (.aload_n 0, 1) := by decide +kernel
theorem dX11_prove_79 : decode cX11_prove 79 = .ok (.getfield 252, 3) := by decide +kernel
theorem dX11_prove_82 : decode cX11_prove 82 = .ok (.iconst 0, 1) := by decide +kernel
theorem dX11_prove_83 : decode cX11_prove 83 = .ok (.bastore, 1) := by decide +kernel
theorem dX11_prove_84 : decode cX11_prove 84 = .ok (.aload_n 0, 1) := by decide +kernel
theorem dX11_prove_85 : decode cX11_prove 85 = .ok (.dup, 1) := by decide +kernel
theorem dX11_prove_86 : decode cX11_prove 86 = .ok (.getfield 252, 3) := by decide +kernel
theorem dX11_prove_89 : decode cX11_prove 89 = .ok (.iconst 1, 1) := by decide +kernel
theorem dX11_prove_90 : decode cX11_prove 90 = .ok (.iadd, 1) := by decide +kernel
theorem dX11_prove_91 : decode cX11_prove 91 = .ok (.putfield 252, 3) := by decide +kernel
theorem dX11_prove_94 : decode cX11_prove 94 = .ok (.aload_n 0, 1) := by decide +kernel
theorem dX11_prove_95 : decode cX11_prove 95 = .ok (.getfield 252, 3) := by decide +kernel
theorem dX11_prove_98 : decode cX11_prove 98 = .ok (.iconst 1, 1) := by decide +kernel
theorem dX11_prove_99 : decode cX11_prove 99 = .ok (.isub, 1) := by decide +kernel
theorem dX11_prove_100 : decode cX11_prove 100 = .ok (.ireturn, 1) := by decide +kernel
theorem dX11_isFull_0 : decode cX11_isFull 0 = .ok (.aload_n 0, 1) := by decide +kernel
theorem dX11_isFull_1 : decode cX11_isFull 1 = .ok (.getfield 252, 3) := by decide +kernel
theorem dX11_isFull_4 : decode cX11_isFull 4 = .ok (.bipush 60, 2) := by decide +kernel
theorem dX11_isFull_6 : decode cX11_isFull 6 = .ok (.if_icmp .eq 12, 3) := by decide +kernel
theorem dX11_isFull_9 : decode cX11_isFull 9 = .ok (.aload_n 0, 1) := by decide +kernel
theorem dX11_isFull_10 : decode cX11_isFull 10 = .ok (.invokevirtual 255, 3) := by decide +kernel
theorem dX11_isFull_13 : decode cX11_isFull 13 = .ok (.bipush 6, 2) := by decide +kernel
theorem dX11_isFull_15 : decode cX11_isFull 15 = .ok (.if_icmp .ne 7, 3) := by decide +kernel
theorem dX11_isFull_18 : decode cX11_isFull 18 = .ok (.iconst 1, 1) := by decide +kernel
theorem dX11_isFull_19 : decode cX11_isFull 19 = .ok (.goto 4, 3) := by decide +kernel
theorem dX11_isFull_22 : decode cX11_isFull 22 = .ok (.iconst 0, 1) := by decide +kernel
theorem dX11_isFull_23 : decode cX11_isFull 23 = .ok (.ireturn, 1) := by decide +kernel
theorem dX11_search_0 : decode cX11_search 0 = .ok (.iload_n 1, 1) := by decide +kernel
theorem dX11_search_1 : decode cX11_search 1 = .ok (.invokestatic 246, 3) := by decide +kernel
theorem dX11_search_4 : decode cX11_search 4 = .ok (.ifCond .eq 64, 3) := by decide +kernel
theorem dX11_search_7 : decode cX11_search 7 = .ok (.iload_n 2, 1) := by decide +kernel
theorem dX11_search_8 : decode cX11_search 8 = .ok (.ifCond .lt 60, 3) := by decide +kernel
theorem dX11_search_11 : decode cX11_search 11 = .ok (.iload_n 3, 1) := by decide +kernel
theorem dX11_search_12 : decode cX11_search 12 = .ok (.iload_n 2, 1) := by decide +kernel
theorem dX11_search_13 : decode cX11_search 13 = .ok (.if_icmp .lt 55, 3) := by decide +kernel
theorem dX11_search_16 : decode cX11_search 16 = .ok (.iload_n 3, 1) := by decide +kernel
theorem dX11_search_17 : decode cX11_search 17 = .ok (.bipush 7, 2) := by decide +kernel
theorem dX11_search_19 : decode cX11_search 19 = .ok (.if_icmp .gt 49, 3) := by decide +kernel
theorem dX11_search_22 : decode cX11_search 22 = .ok (.iload 4, 2) := by decide +kernel
theorem dX11_search_24 : decode cX11_search 24 = .ok (.ifCond .lt 44, 3) := by decide +kernel
theorem dX11_search_27 : decode cX11_search 27 = .ok (.iload 5, 2) := by decide +kernel
theorem dX11_search_29 : decode cX11_search 29 = .ok (.iload 4, 2) := by decide +kernel
theorem dX11_search_31 : decode cX11_search 31 = .ok (.if_icmp .lt 37, 3) := by decide +kernel
theorem dX11_search_34 : decode cX11_search 34 = .ok (.iload 5, 2) := by decide +kernel
theorem dX11_search_36 : decode cX11_search 36 = .ok (.bipush 7, 2) := by decide +kernel
theorem dX11_search_38 : decode cX11_search 38 = .ok (.if_icmp .gt 30, 3) := by decide +kernel
theorem dX11_search_41 : decode cX11_search 41 = .ok (.iload 6, 2) := by decide +kernel
theorem dX11_search_43 : decode cX11_search 43 = .ok (.invokestatic 215, 3) := by decide +kernel
theorem dX11_search_46 : decode cX11_search 46 = .ok (.ifCond .eq 22, 3) := by decide +kernel
theorem dX11_search_49 : decode cX11_search 49 = .ok (.iload 7, 2) := by decide +kernel
theorem dX11_search_51 : decode cX11_search 51 = .ok (.ifCond .lt 17, 3) := by decide +kernel
theorem dX11_search_54 : decode cX11_search 54 = .ok (.iload 7, 2) := by decide +kernel
theorem dX11_search_56 : decode cX11_search 56 = .ok (.bipush 20, 2) := by decide +kernel
theorem dX11_search_58 : decode cX11_search 58 = .ok (.if_icmp .gt 10, 3) := by decide +kernel
theorem dX11_search_61 : decode cX11_search 61 = .ok (.aload_n 0, 1) := by decide +kernel
theorem dX11_search_62 : decode cX11_search 62 = .ok (.invokevirtual 258, 3) := by decide +kernel
theorem dX11_search_65 : decode cX11_search 65 = .ok (.ifCond .eq 5, 3) := by decide +kernel
theorem dX11_search_68 : decode cX11_search 68 = .ok (.iconst (-1), 1) := by decide +kernel
theorem dX11_search_69 : decode cX11_search 69 = .ok (.ireturn, 1) := by decide +kernel
theorem dX11_search_70 : decode cX11_search 70 = .ok (.aload_n 0, 1) := by decide +kernel
theorem dX11_search_71 : decode cX11_search 71 = .ok (.iload_n 1, 1) := by decide +kernel
theorem dX11_search_72 : decode cX11_search 72 = .ok (.iload_n 2, 1) := by decide +kernel
theorem dX11_search_73 : decode cX11_search 73 = .ok (.iload_n 3, 1) := by decide +kernel
theorem dX11_search_74 : decode cX11_search 74 = .ok (.iload 4, 2) := by decide +kernel
theorem dX11_search_76 : decode cX11_search 76 = .ok (.iload 5, 2) := by decide +kernel
theorem dX11_search_78 : decode cX11_search 78 = .ok (.iload 6, 2) := by decide +kernel
theorem dX11_search_80 : decode cX11_search 80 = .ok (.iload 7, 2) := by decide +kernel
theorem dX11_search_82 : decode cX11_search 82 = .ok (.invokevirtual 261, 3) := by decide +kernel
theorem dX11_search_85 : decode cX11_search 85 = .ok (.ireturn, 1) := by decide +kernel
theorem dX11_clue_0 : decode cX11_clue 0 = .ok (.iload_n 1, 1) := by decide +kernel
theorem dX11_clue_1 : decode cX11_clue 1 = .ok (.invokestatic 246, 3) := by decide +kernel
theorem dX11_clue_4 : decode cX11_clue 4 = .ok (.ifCond .eq 48, 3) := by decide +kernel
theorem dX11_clue_7 : decode cX11_clue 7 = .ok (.iload_n 2, 1) := by decide +kernel
theorem dX11_clue_8 : decode cX11_clue 8 = .ok (.invokestatic 221, 3) := by decide +kernel
theorem dX11_clue_11 : decode cX11_clue 11 = .ok (.ifCond .eq 41, 3) := by decide +kernel
theorem dX11_clue_14 : decode cX11_clue 14 = .ok (.iload_n 3, 1) := by decide +kernel
theorem dX11_clue_15 : decode cX11_clue 15 = .ok (.invokestatic 221, 3) := by decide +kernel
theorem dX11_clue_18 : decode cX11_clue 18 = .ok (.ifCond .eq 34, 3) := by decide +kernel
theorem dX11_clue_21 : decode cX11_clue 21 = .ok (.iload 4, 2) := by decide +kernel
theorem dX11_clue_23 : decode cX11_clue 23 = .ok (.ifCond .lt 29, 3) := by decide +kernel
theorem dX11_clue_26 : decode cX11_clue 26 = .ok (.iload 4, 2) := by decide +kernel
theorem dX11_clue_28 : decode cX11_clue 28 = .ok (.bipush 80, 2) := by decide +kernel
theorem dX11_clue_30 : decode cX11_clue 30 = .ok (.if_icmp .gt 22, 3) := by decide +kernel
theorem dX11_clue_33 : decode cX11_clue 33 = .ok (.iload 5, 2) := by decide +kernel
theorem dX11_clue_35 : decode cX11_clue 35 = .ok (.ifCond .lt 17, 3) := by decide +kernel
theorem dX11_clue_38 : decode cX11_clue 38 = .ok (.iload 5, 2) := by decide +kernel
theorem dX11_clue_40 : decode cX11_clue 40 = .ok (.bipush 100, 2) := by decide +kernel
theorem dX11_clue_42 : decode cX11_clue 42 = .ok (.if_icmp .gt 10, 3) := by decide +kernel
theorem dX11_clue_45 : decode cX11_clue 45 = .ok (.aload_n 0, 1) := by decide +kernel
theorem dX11_clue_46 : decode cX11_clue 46 = .ok (.invokevirtual 258, 3) := by decide +kernel
theorem dX11_clue_49 : decode cX11_clue 49 = .ok (.ifCond .eq 5, 3) := by decide +kernel
theorem dX11_clue_52 : decode cX11_clue 52 = .ok (.iconst (-1), 1) := by decide +kernel
theorem dX11_clue_53 : decode cX11_clue 53 = .ok (.ireturn, 1) := by decide +kernel
theorem dX11_clue_54 : decode cX11_clue 54 = .ok (.aload_n 0, 1) := by decide +kernel
theorem dX11_clue_55 : decode cX11_clue 55 = .ok (.iload_n 1, 1) := by decide +kernel
theorem dX11_clue_56 : decode cX11_clue 56 = .ok (.iload_n 2, 1) := by decide +kernel
theorem dX11_clue_57 : decode cX11_clue 57 = .ok (.iload_n 3, 1) := by decide +kernel
theorem dX11_clue_58 : decode cX11_clue 58 = .ok (.iload 4, 2) := by decide +kernel
theorem dX11_clue_60 : decode cX11_clue 60 = .ok (.iconst 0, 1) := by decide +kernel
theorem dX11_clue_61 : decode cX11_clue 61 = .ok (.iconst 2, 1) := by decide +kernel
theorem dX11_clue_62 : decode cX11_clue 62 = .ok (.iload 5, 2) := by decide +kernel
theorem dX11_clue_64 : decode cX11_clue 64 = .ok (.invokevirtual 261, 3) := by decide +kernel
theorem dX11_clue_67 : decode cX11_clue 67 = .ok (.ireturn, 1) := by decide +kernel
theorem dX11_back_0 : decode cX11_back 0 = .ok (.iload_n 1, 1) := by decide +kernel
theorem dX11_back_1 : decode cX11_back 1 = .ok (.ifCond .lt 20, 3) := by decide +kernel
theorem dX11_back_4 : decode cX11_back 4 = .ok (.iload_n 1, 1) := by decide +kernel
theorem dX11_back_5 : decode cX11_back 5 = .ok (.aload_n 0, 1) := by decide +kernel
theorem dX11_back_6 : decode cX11_back 6 = .ok (.getfield 252, 3) := by decide +kernel
theorem dX11_back_9 : decode cX11_back 9 = .ok (.if_icmp .ge 12, 3) := by decide +kernel
theorem dX11_back_12 : decode cX11_back 12 = .ok (.aload_n 0, 1) := by decide +kernel
theorem dX11_back_13 : decode cX11_back 13 = .ok (.getfield 126, 3) := by decide +kernel
theorem dX11_back_16 : decode cX11_back 16 = .ok (.iload_n 1, 1) := by decide +kernel
theorem dX11_back_17 : decode cX11_back 17 = .ok (.baload, 1) := by decide +kernel
theorem dX11_back_18 : decode cX11_back 18 = .ok (.ifCond .eq 5, 3) := by decide +kernel
theorem dX11_back_21 : decode cX11_back 21 = .ok (.iconst 0, 1) := by decide +kernel
theorem dX11_back_22 : decode cX11_back 22 = .ok (.ireturn, 1) := by decide +kernel
theorem dX11_back_23 : decode cX11_back 23 = .ok (.aload_n 0, 1) := by decide +kernel
theorem dX11_back_24 : decode cX11_back 24 = .ok (.getfield 126, 3) := by decide +kernel
theorem dX11_back_27 : decode cX11_back 27 = .ok (.iload_n 1, 1) := by decide +kernel
theorem dX11_back_28 : decode cX11_back 28 = .ok (.iconst 1, 1) := by decide +kernel
theorem dX11_back_29 : decode cX11_back 29 = .ok (.bastore, 1) := by decide +kernel
theorem dX11_back_30 : decode cX11_back 30 = .ok (.iconst 1, 1) := by decide +kernel
theorem dX11_back_31 : decode cX11_back 31 = .ok (.ireturn, 1) := by decide +kernel
theorem dX11_off_0 : decode cX11_off 0 = .ok (.iload_n 0, 1) := by decide +kernel
theorem dX11_off_1 : decode cX11_off 1 = .ok (.iload_n 1, 1) := by decide +kernel
theorem dX11_off_2 : decode cX11_off 2 = .ok (.if_icmp .le 9, 3) := by decide +kernel
theorem dX11_off_5 : decode cX11_off 5 = .ok (.iload_n 0, 1) := by decide +kernel
theorem dX11_off_6 : decode cX11_off 6 = .ok (.iload_n 1, 1) := by decide +kernel
theorem dX11_off_7 : decode cX11_off 7 = .ok (.isub, 1) := by decide +kernel
theorem dX11_off_8 : decode cX11_off 8 = .ok (.goto 6, 3) := by decide +kernel
theorem dX11_off_11 : decode cX11_off 11 = .ok (.iload_n 1, 1) := by decide +kernel
theorem dX11_off_12 : decode cX11_off 12 = .ok (.iload_n 0, 1) := by decide +kernel
theorem dX11_off_13 : decode cX11_off 13 = .ok (.isub, 1) := by decide +kernel
theorem dX11_off_14 : decode cX11_off 14 = .ok (.ireturn, 1) := by decide +kernel
theorem dX11_weighs_0 : decode cX11_weighs 0 = .ok (.aload_n 0, 1) := by decide +kernel
theorem dX11_weighs_1 : decode cX11_weighs 1 = .ok (.iload_n 2, 1) := by decide +kernel
theorem dX11_weighs_2 : decode cX11_weighs 2 = .ok (.aload_n 0, 1) := by decide +kernel
theorem dX11_weighs_3 : decode cX11_weighs 3 = .ok (.getfield 105, 3) := by decide +kernel
theorem dX11_weighs_6 : decode cX11_weighs 6 = .ok (.iload_n 1, 1) := by decide +kernel
theorem dX11_weighs_7 : decode cX11_weighs 7 = .ok (.iaload, 1) := by decide +kernel
theorem dX11_weighs_8 : decode cX11_weighs 8 = .ok (.invokevirtual 249, 3) := by decide +kernel
theorem dX11_weighs_11 : decode cX11_weighs 11 = .ok (.aload_n 0, 1) := by decide +kernel
theorem dX11_weighs_12 : decode cX11_weighs 12 = .ok (.getfield 120, 3) := by decide +kernel
theorem dX11_weighs_15 : decode cX11_weighs 15 = .ok (.iload_n 1, 1) := by decide +kernel
theorem dX11_weighs_16 : decode cX11_weighs 16 = .ok (.iaload, 1) := by decide +kernel
theorem dX11_weighs_17 : decode cX11_weighs 17 = .ok (.iconst 2, 1) := by decide +kernel
theorem dX11_weighs_18 : decode cX11_weighs 18 = .ok (.if_icmp .ne 67, 3) := by decide +kernel
theorem dX11_weighs_21 : decode cX11_weighs 21 = .ok (.aload_n 0, 1) := by decide +kernel
theorem dX11_weighs_22 : decode cX11_weighs 22 = .ok (.getfield 240, 3) := by decide +kernel
theorem dX11_weighs_25 : decode cX11_weighs 25 = .ok (.iconst 2, 1) := by decide +kernel
theorem dX11_weighs_26 : decode cX11_weighs 26 = .ok (.if_icmp .eq 52, 3) := by decide +kernel
theorem dX11_weighs_29 : decode cX11_weighs 29 = .ok (.aload_n 0, 1) := by decide +kernel
theorem dX11_weighs_30 : decode cX11_weighs 30 = .ok (.getfield 234, 3) := by decide +kernel
theorem dX11_weighs_33 : decode cX11_weighs 33 = .ok (.aload_n 0, 1) := by decide +kernel
theorem dX11_weighs_34 : decode cX11_weighs 34 = .ok (.getfield 108, 3) := by decide +kernel
theorem dX11_weighs_37 : decode cX11_weighs 37 = .ok (.iload_n 1, 1) := by decide +kernel
theorem dX11_weighs_38 : decode cX11_weighs 38 = .ok (.iaload, 1) := by decide +kernel
theorem dX11_weighs_39 : decode cX11_weighs 39 = .ok (.invokestatic 265, 3) := by decide +kernel
theorem dX11_weighs_42 : decode cX11_weighs 42 = .ok (.aload_n 0, 1) := by decide +kernel
theorem dX11_weighs_43 : decode cX11_weighs 43 = .ok (.getfield 114, 3) := by decide +kernel
theorem dX11_weighs_46 : decode cX11_weighs 46 = .ok (.iload_n 1, 1) := by decide +kernel
theorem dX11_weighs_47 : decode cX11_weighs 47 = .ok (.iaload, 1) := by decide +kernel
theorem dX11_weighs_48 : decode cX11_weighs 48 = .ok (.if_icmp .gt 30, 3) := by decide +kernel
theorem dX11_weighs_51 : decode cX11_weighs 51 = .ok (.aload_n 0, 1) := by decide +kernel
theorem dX11_weighs_52 : decode cX11_weighs 52 = .ok (.getfield 231, 3) := by decide +kernel
theorem dX11_weighs_55 : decode cX11_weighs 55 = .ok (.aload_n 0, 1) := by decide +kernel
theorem dX11_weighs_56 : decode cX11_weighs 56 = .ok (.getfield 111, 3) := by decide +kernel
theorem dX11_weighs_59 : decode cX11_weighs 59 = .ok (.iload_n 1, 1) := by decide +kernel
theorem dX11_weighs_60 : decode cX11_weighs 60 = .ok (.iaload, 1) := by decide +kernel
theorem dX11_weighs_61 : decode cX11_weighs 61 = .ok (.invokestatic 265, 3) := by decide +kernel
theorem dX11_weighs_64 : decode cX11_weighs 64 = .ok (.aload_n 0, 1) := by decide +kernel
theorem dX11_weighs_65 : decode cX11_weighs 65 = .ok (.getfield 114, 3) := by decide +kernel
theorem dX11_weighs_68 : decode cX11_weighs 68 = .ok (.iload_n 1, 1) := by decide +kernel
theorem dX11_weighs_69 : decode cX11_weighs 69 = .ok (.iaload, 1) := by decide +kernel
theorem dX11_weighs_70 : decode cX11_weighs 70 = .ok (.if_icmp .gt 8, 3) := by decide +kernel
theorem dX11_weighs_73 : decode cX11_weighs 73 = .ok (.bipush 100, 2) := by decide +kernel
theorem dX11_weighs_75 : decode cX11_weighs 75 = .ok (.goto 9, 3) := by decide +kernel
theorem dX11_weighs_78 : decode cX11_weighs 78 = .ok (.aload_n 0, 1) := by decide +kernel
theorem dX11_weighs_79 : decode cX11_weighs 79 = .ok (.getfield 123, 3) := by decide +kernel
theorem dX11_weighs_82 : decode cX11_weighs 82 = .ok (.iload_n 1, 1) := by decide +kernel
theorem dX11_weighs_83 : decode cX11_weighs 83 = .ok (.iaload, 1) := by decide +kernel
theorem dX11_weighs_84 : decode cX11_weighs 84 = .ok (.ireturn, 1) := by decide +kernel
theorem dX11_weighs_85 : decode cX11_weighs 85 = .ok (.aload_n 0, 1) := by decide +kernel
theorem dX11_weighs_86 : decode cX11_weighs 86 = .ok (.getfield 240, 3) := by decide +kernel
theorem dX11_weighs_89 : decode cX11_weighs 89 = .ok (.ifCond .ne 71, 3) := by decide +kernel
theorem dX11_weighs_92 : decode cX11_weighs 92 = .ok (.aload_n 0, 1) := by decide +kernel
theorem dX11_weighs_93 : decode cX11_weighs 93 = .ok (.getfield 234, 3) := by decide +kernel
theorem dX11_weighs_96 : decode cX11_weighs 96 = .ok (.bipush 10, 2) := by decide +kernel
theorem dX11_weighs_98 : decode cX11_weighs 98 = .ok (.idiv, 1) := by decide +kernel
theorem dX11_weighs_99 : decode cX11_weighs 99 = .ok (.aload_n 0, 1) := by decide +kernel
theorem dX11_weighs_100 : decode cX11_weighs 100 = .ok (.getfield 108, 3) := by decide +kernel
theorem dX11_weighs_103 : decode cX11_weighs 103 = .ok (.iload_n 1, 1) := by decide +kernel
theorem dX11_weighs_104 : decode cX11_weighs 104 = .ok (.iaload, 1) := by decide +kernel
theorem dX11_weighs_105 : decode cX11_weighs 105 = .ok (.if_icmp .lt 55, 3) := by decide +kernel
theorem dX11_weighs_108 : decode cX11_weighs 108 = .ok (.aload_n 0, 1) := by decide +kernel
theorem dX11_weighs_109 : decode cX11_weighs 109 = .ok (.getfield 234, 3) := by decide +kernel
theorem dX11_weighs_112 : decode cX11_weighs 112 = .ok (.bipush 10, 2) := by decide +kernel
theorem dX11_weighs_114 : decode cX11_weighs 114 = .ok (.idiv, 1) := by decide +kernel
theorem dX11_weighs_115 : decode cX11_weighs 115 = .ok (.aload_n 0, 1) := by decide +kernel
theorem dX11_weighs_116 : decode cX11_weighs 116 = .ok (.getfield 111, 3) := by decide +kernel
theorem dX11_weighs_119 : decode cX11_weighs 119 = .ok (.iload_n 1, 1) := by decide +kernel
theorem dX11_weighs_120 : decode cX11_weighs 120 = .ok (.iaload, 1) := by decide +kernel
theorem dX11_weighs_121 : decode cX11_weighs 121 = .ok (.if_icmp .gt 39, 3) := by decide +kernel
theorem dX11_weighs_124 : decode cX11_weighs 124 = .ok (.aload_n 0, 1) := by decide +kernel
theorem dX11_weighs_125 : decode cX11_weighs 125 = .ok (.getfield 231, 3) := by decide +kernel
theorem dX11_weighs_128 : decode cX11_weighs 128 = .ok (.bipush 10, 2) := by decide +kernel
theorem dX11_weighs_130 : decode cX11_weighs 130 = .ok (.idiv, 1) := by decide +kernel
theorem dX11_weighs_131 : decode cX11_weighs 131 = .ok (.aload_n 0, 1) := by decide +kernel
theorem dX11_weighs_132 : decode cX11_weighs 132 = .ok (.getfield 114, 3) := by decide +kernel
theorem dX11_weighs_135 : decode cX11_weighs 135 = .ok (.iload_n 1, 1) := by decide +kernel
theorem dX11_weighs_136 : decode cX11_weighs 136 = .ok (.iaload, 1) := by decide +kernel
theorem dX11_weighs_137 : decode cX11_weighs 137 = .ok (.if_icmp .lt 23, 3) := by decide +kernel
theorem dX11_weighs_140 : decode cX11_weighs 140 = .ok (.aload_n 0, 1) := by decide +kernel
theorem dX11_weighs_141 : decode cX11_weighs 141 = .ok (.getfield 231, 3) := by decide +kernel
theorem dX11_weighs_144 : decode cX11_weighs 144 = .ok (.bipush 10, 2) := by decide +kernel
theorem dX11_weighs_146 : decode cX11_weighs 146 = .ok (.idiv, 1) := by decide +kernel
theorem dX11_weighs_147 : decode cX11_weighs 147 = .ok (.aload_n 0, 1) := by decide +kernel
theorem dX11_weighs_148 : decode cX11_weighs 148 = .ok (.getfield 117, 3) := by decide +kernel
theorem dX11_weighs_151 : decode cX11_weighs 151 = .ok (.iload_n 1, 1) := by decide +kernel
theorem dX11_weighs_152 : decode cX11_weighs 152 = .ok (.iaload, 1) := by decide +kernel
theorem dX11_weighs_153 : decode cX11_weighs 153 = .ok (.if_icmp .gt 7, 3) := by decide +kernel
theorem dX11_weighs_156 : decode cX11_weighs 156 = .ok (.iconst 1, 1) := by decide +kernel
theorem dX11_weighs_157 : decode cX11_weighs 157 = .ok (.goto 4, 3) := by decide +kernel
theorem dX11_weighs_160 : decode cX11_weighs 160 = .ok (.iconst 0, 1) := by decide +kernel
theorem dX11_weighs_161 : decode cX11_weighs 161 = .ok (.istore_n 3, 1) := by decide +kernel
theorem dX11_weighs_162 : decode cX11_weighs 162 = .ok (.iload_n 3, 1) := by decide +kernel
theorem dX11_weighs_163 : decode cX11_weighs 163 = .ok (.ifCond .eq 22, 3) := by decide +kernel
theorem dX11_weighs_166 : decode cX11_weighs 166 = .ok (.aload_n 0, 1) := by decide +kernel
theorem dX11_weighs_167 : decode cX11_weighs 167 = .ok (.aload_n 0, 1) := by decide +kernel
theorem dX11_weighs_168 : decode cX11_weighs 168 = .ok (.getfield 120, 3) := by decide +kernel
theorem dX11_weighs_171 : decode cX11_weighs 171 = .ok (.iload_n 1, 1) := by decide +kernel
theorem dX11_weighs_172 : decode cX11_weighs 172 = .ok (.iaload, 1) := by decide +kernel
theorem dX11_weighs_173 : decode cX11_weighs 173 = .ok (.aload_n 0, 1) := by decide +kernel
theorem dX11_weighs_174 : decode cX11_weighs 174 = .ok (.getfield 123, 3) := by decide +kernel
theorem dX11_weighs_177 : decode cX11_weighs 177 = .ok (.iload_n 1, 1) := by decide +kernel
theorem dX11_weighs_178 : decode cX11_weighs 178 = .ok (.iaload, 1) := by decide +kernel
theorem dX11_weighs_179 : decode cX11_weighs 179 = .ok (.invokevirtual 218, 3) := by decide +kernel
theorem dX11_weighs_182 : decode cX11_weighs 182 = .ok (.goto 5, 3) := by decide +kernel
theorem dX11_weighs_185 : decode cX11_weighs 185 = .ok (.bipush 100, 2) := by decide +kernel
theorem dX11_weighs_187 : decode cX11_weighs 187 = .ok (.ireturn, 1) := by decide +kernel
theorem dX11_oddsOf_0 : decode cX11_oddsOf 0 = .ok (.aload_n 0, 1) := by decide +kernel
theorem dX11_oddsOf_1 : decode cX11_oddsOf 1 = .ok (.getfield 102, 3) := by decide +kernel
theorem dX11_oddsOf_4 : decode cX11_oddsOf 4 = .ok (.iload_n 1, 1) := by decide +kernel
theorem dX11_oddsOf_5 : decode cX11_oddsOf 5 = .ok (.iaload, 1) := by decide +kernel
theorem dX11_oddsOf_6 : decode cX11_oddsOf 6 = .ok (.i2l, 1) := by decide +kernel
theorem dX11_oddsOf_7 : decode cX11_oddsOf 7 = .ok (.lstore_n 2, 1) := by decide +kernel
theorem dX11_oddsOf_8 : decode cX11_oddsOf 8 = .ok (.iconst 0, 1) := by decide +kernel
theorem dX11_oddsOf_9 : decode cX11_oddsOf 9 = .ok (.istore 4, 2) := by decide +kernel
theorem dX11_oddsOf_11 : decode cX11_oddsOf 11 = .ok (.iload 4, 2) := by decide +kernel
theorem dX11_oddsOf_13 : decode cX11_oddsOf 13 = .ok (.aload_n 0, 1) := by decide +kernel
theorem dX11_oddsOf_14 : decode cX11_oddsOf 14 = .ok (.getfield 252, 3) := by decide +kernel
theorem dX11_oddsOf_17 : decode cX11_oddsOf 17 = .ok (.if_icmp .ge 30, 3) := by decide +kernel
theorem dX11_oddsOf_20 : decode cX11_oddsOf 20 = .ok (.aload_n 0, 1) := by decide +kernel
theorem dX11_oddsOf_21 : decode cX11_oddsOf 21 = .ok (.getfield 126, 3) := by decide +kernel
theorem dX11_oddsOf_24 : decode cX11_oddsOf 24 = .ok (.iload 4, 2) := by decide +kernel
theorem dX11_oddsOf_26 : decode cX11_oddsOf 26 = .ok (.baload, 1) := by decide +kernel
theorem dX11_oddsOf_27 : decode cX11_oddsOf 27 = .ok (.ifCond .ne 14, 3) := by decide +kernel
theorem dX11_oddsOf_30 : decode cX11_oddsOf 30 = .ok (.lload_n 2, 1) := by decide +kernel
theorem dX11_oddsOf_31 : decode cX11_oddsOf 31 = .ok (.aload_n 0, 1) := by decide +kernel
theorem dX11_oddsOf_32 : decode cX11_oddsOf 32 = .ok (.iload 4, 2) := by decide +kernel
theorem dX11_oddsOf_34 : decode cX11_oddsOf 34 = .ok (.iload_n 1, 1) := by decide +kernel
theorem dX11_oddsOf_35 : decode cX11_oddsOf 35 = .ok (.invokevirtual 268, 3) := by decide +kernel
theorem dX11_oddsOf_38 : decode cX11_oddsOf 38 = .ok (.i2l, 1) := by decide +kernel
theorem dX11_oddsOf_39 : decode cX11_oddsOf 39 = .ok (.lmul, 1) := by decide +kernel
theorem dX11_oddsOf_40 : decode cX11_oddsOf 40 = .ok (.lstore_n 2, 1) := by decide +kernel
theorem dX11_oddsOf_41 : decode cX11_oddsOf 41 = .ok (.iinc 4 1, 3) := by decide +kernel
theorem dX11_oddsOf_44 : decode cX11_oddsOf 44 = .ok (.goto (-33), 3) := by decide +kernel
theorem dX11_oddsOf_47 : decode cX11_oddsOf 47 = .ok (.lload_n 2, 1) := by decide +kernel
theorem dX11_oddsOf_48 : decode cX11_oddsOf 48 = .ok (.lreturn, 1) := by decide +kernel
theorem dX11_odds_0 : decode cX11_odds 0 = .ok (.aload_n 0, 1) := by decide +kernel
theorem dX11_odds_1 : decode cX11_odds 1 = .ok (.iload_n 1, 1) := by decide +kernel
theorem dX11_odds_2 : decode cX11_odds 2 = .ok (.invokevirtual 243, 3) := by decide +kernel
theorem dX11_odds_5 : decode cX11_odds 5 = .ok (.ifCond .eq 11, 3) := by decide +kernel
theorem dX11_odds_8 : decode cX11_odds 8 = .ok (.aload_n 0, 1) := by decide +kernel
theorem dX11_odds_9 : decode cX11_odds 9 = .ok (.iload_n 1, 1) := by decide +kernel
theorem dX11_odds_10 : decode cX11_odds 10 = .ok (.invokevirtual 271, 3) := by decide +kernel
theorem dX11_odds_13 : decode cX11_odds 13 = .ok (.goto 6, 3) := by decide +kernel
theorem dX11_odds_16 : decode cX11_odds 16 = .ok (.ldc2_w 275, 3) := by decide +kernel
theorem dX11_odds_19 : decode cX11_odds 19 = .ok (.lreturn, 1) := by decide +kernel
theorem dX11_sumUp_0 : decode cX11_sumUp 0 = .ok (.iconst 0, 1) := by decide +kernel
theorem dX11_sumUp_1 : decode cX11_sumUp 1 = .ok (.istore_n 3, 1) := by decide +kernel
theorem dX11_sumUp_2 : decode cX11_sumUp 2 = .ok (.iload_n 3, 1) := by decide +kernel
theorem dX11_sumUp_3 : decode cX11_sumUp 3 = .ok (.bipush 64, 2) := by decide +kernel
theorem dX11_sumUp_5 : decode cX11_sumUp 5 = .ok (.if_icmp .ge 16, 3) := by decide +kernel
theorem dX11_sumUp_8 : decode cX11_sumUp 8 = .ok (.aload_n 0, 1) := by decide +kernel
theorem dX11_sumUp_9 : decode cX11_sumUp 9 = .ok (.getfield 129, 3) := by decide +kernel
theorem dX11_sumUp_12 : decode cX11_sumUp 12 = .ok (.iload_n 3, 1) := by decide +kernel
theorem dX11_sumUp_13 : decode cX11_sumUp 13 = .ok (.lconst 0, 1) := by decide +kernel
theorem dX11_sumUp_14 : decode cX11_sumUp 14 = .ok (.lastore, 1) := by decide +kernel
theorem dX11_sumUp_15 : decode cX11_sumUp 15 = .ok (.iinc 3 1, 3) := by decide +kernel
theorem dX11_sumUp_18 : decode cX11_sumUp 18 = .ok (.goto (-16), 3) := by decide +kernel
theorem dX11_sumUp_21 : decode cX11_sumUp 21 = .ok (.aload_n 0, 1) := by decide +kernel
theorem dX11_sumUp_22 : decode cX11_sumUp 22 = .ok (.lconst 0, 1) := by decide +kernel
theorem dX11_sumUp_23 : decode cX11_sumUp 23 = .ok (.putfield 277, 3) := by decide +kernel
theorem dX11_sumUp_26 : decode cX11_sumUp 26 = .ok (.iconst 0, 1) := by decide +kernel
theorem dX11_sumUp_27 : decode cX11_sumUp 27 = .ok (.istore_n 3, 1) := by decide +kernel
theorem dX11_sumUp_28 : decode cX11_sumUp 28 = .ok (.iload_n 3, 1) := by decide +kernel
theorem dX11_sumUp_29 : decode cX11_sumUp 29 = .ok (.aload_n 0, 1) := by decide +kernel
theorem dX11_sumUp_30 : decode cX11_sumUp 30 = .ok (.getfield 224, 3) := by decide +kernel
theorem dX11_sumUp_33 : decode cX11_sumUp 33 = .ok (.if_icmp .ge 66, 3) := by decide +kernel
theorem dX11_sumUp_36 : decode cX11_sumUp 36 = .ok (.aload_n 0, 1) := by decide +kernel
theorem dX11_sumUp_37 : decode cX11_sumUp 37 = .ok (.iload_n 3, 1) := by decide +kernel
theorem dX11_sumUp_38 : decode cX11_sumUp 38 = .ok (.invokevirtual 271, 3) := by decide +kernel
theorem dX11_sumUp_41 : decode cX11_sumUp 41 = .ok (.lstore 4, 2) := by decide +kernel
theorem dX11_sumUp_43 : decode cX11_sumUp 43 = .ok (.aload_n 0, 1) := by decide +kernel
theorem dX11_sumUp_44 : decode cX11_sumUp 44 = .ok (.dup, 1) := by decide +kernel
theorem dX11_sumUp_45 : decode cX11_sumUp 45 = .ok (.getfield 277, 3) := by decide +kernel
theorem dX11_sumUp_48 : decode cX11_sumUp 48 = .ok (.lload 4, 2) := by decide +kernel
theorem dX11_sumUp_50 : decode cX11_sumUp 50 = .ok (.ladd, 1) := by decide +kernel
theorem dX11_sumUp_51 : decode cX11_sumUp 51 = .ok (.putfield 277, 3) := by decide +kernel
theorem dX11_sumUp_54 : decode cX11_sumUp 54 = .ok (.aload_n 0, 1) := by decide +kernel
theorem dX11_sumUp_55 : decode cX11_sumUp 55 = .ok (.iload_n 3, 1) := by decide +kernel
theorem dX11_sumUp_56 : decode cX11_sumUp 56 = .ok (.iload_n 1, 1) := by decide +kernel
theorem dX11_sumUp_57 : decode cX11_sumUp 57 = .ok (.invokevirtual 249, 3) := by decide +kernel
theorem dX11_sumUp_60 : decode cX11_sumUp 60 = .ok (.aload_n 0, 1) := by decide +kernel
theorem dX11_sumUp_61 : decode cX11_sumUp 61 = .ok (.getfield 240, 3) := by decide +kernel
theorem dX11_sumUp_64 : decode cX11_sumUp 64 = .ok (.ifCond .eq 15, 3) := by decide +kernel
theorem dX11_sumUp_67 : decode cX11_sumUp 67 = .ok (.aload_n 0, 1) := by decide +kernel
theorem dX11_sumUp_68 : decode cX11_sumUp 68 = .ok (.getfield 240, 3) := by decide +kernel
theorem dX11_sumUp_71 : decode cX11_sumUp 71 = .ok (.iconst 1, 1) := by decide +kernel
theorem dX11_sumUp_72 : decode cX11_sumUp 72 = .ok (.if_icmp .ne 21, 3) := by decide +kernel
theorem dX11_sumUp_75 : decode cX11_sumUp 75 = .ok (.iload_n 2, 1) := by decide +kernel
theorem dX11_sumUp_76 : decode cX11_sumUp 76 = .ok (.ifCond .ne 17, 3) := by decide +kernel
theorem dX11_sumUp_79 : decode cX11_sumUp 79 = .ok (.aload_n 0, 1) := by decide +kernel
theorem dX11_sumUp_80 : decode cX11_sumUp 80 = .ok (.getfield 129, 3) := by decide +kernel
theorem dX11_sumUp_83 : decode cX11_sumUp 83 = .ok (.aload_n 0, 1) := by decide +kernel
theorem dX11_sumUp_84 : decode cX11_sumUp 84 = .ok (.invokevirtual 227, 3) := by decide +kernel
theorem dX11_sumUp_87 : decode cX11_sumUp 87 = .ok (.dup2, 1) := by decide +kernel
theorem dX11_sumUp_88 : decode cX11_sumUp 88 = .ok (.laload, 1) := by decide +kernel
theorem dX11_sumUp_89 : decode cX11_sumUp 89 = .ok (.lload 4, 2) := by decide +kernel
theorem dX11_sumUp_91 : decode cX11_sumUp 91 = .ok (.ladd, 1) := by decide +kernel
theorem dX11_sumUp_92 : decode cX11_sumUp 92 = .ok (.lastore, 1) := by decide +kernel
theorem dX11_sumUp_93 : decode cX11_sumUp 93 = .ok (.iinc 3 1, 3) := by decide +kernel
theorem dX11_sumUp_96 : decode cX11_sumUp 96 = .ok (.goto (-68), 3) := by decide +kernel
theorem dX11_sumUp_99 : decode cX11_sumUp 99 = .ok (.return_, 1) := by decide +kernel
theorem dX11_divisor_0 : decode cX11_divisor 0 = .ok (.lload_n 0, 1) := by decide +kernel
theorem dX11_divisor_1 : decode cX11_divisor 1 = .ok (.lstore 4, 2) := by decide +kernel
theorem dX11_divisor_3 : decode cX11_divisor 3 = .ok (.lload_n 2, 1) := by decide +kernel
theorem dX11_divisor_4 : decode cX11_divisor 4 = .ok (.lstore 6, 2) := by decide +kernel
theorem dX11_divisor_6 : decode cX11_divisor 6 = .ok (.lload 6, 2) := by decide +kernel
theorem dX11_divisor_8 : decode cX11_divisor 8 = .ok (.lconst 0, 1) := by decide +kernel
theorem dX11_divisor_9 : decode cX11_divisor 9 = .ok (.lcmp, 1) := by decide +kernel
theorem dX11_divisor_10 : decode cX11_divisor 10 = .ok (.ifCond .eq 21, 3) := by decide +kernel
theorem dX11_divisor_13 : decode cX11_divisor 13 = .ok (.lload 4, 2) := by decide +kernel
theorem dX11_divisor_15 : decode cX11_divisor 15 = .ok (.lload 6, 2) := by decide +kernel
theorem dX11_divisor_17 : decode cX11_divisor 17 = .ok (.lrem, 1) := by decide +kernel
theorem dX11_divisor_18 : decode cX11_divisor 18 = .ok (.lstore 8, 2) := by decide +kernel
theorem dX11_divisor_20 : decode cX11_divisor 20 = .ok (.lload 6, 2) := by decide +kernel
theorem dX11_divisor_22 : decode cX11_divisor 22 = .ok (.lstore 4, 2) := by decide +kernel
theorem dX11_divisor_24 : decode cX11_divisor 24 = .ok (.lload 8, 2) := by decide +kernel
theorem dX11_divisor_26 : decode cX11_divisor 26 = .ok (.lstore 6, 2) := by decide +kernel
theorem dX11_divisor_28 : decode cX11_divisor 28 = .ok (.goto (-22), 3) := by decide +kernel
theorem dX11_divisor_31 : decode cX11_divisor 31 = .ok (.lload 4, 2) := by decide +kernel
theorem dX11_divisor_33 : decode cX11_divisor 33 = .ok (.lreturn, 1) := by decide +kernel
theorem dX11_share_0 : decode cX11_share 0 = .ok (.iload_n 1, 1) := by decide +kernel
theorem dX11_share_1 : decode cX11_share 1 = .ok (.ifCond .lt 16, 3) := by decide +kernel
theorem dX11_share_4 : decode cX11_share 4 = .ok (.iload_n 1, 1) := by decide +kernel
theorem dX11_share_5 : decode cX11_share 5 = .ok (.bipush 64, 2) := by decide +kernel
theorem dX11_share_7 : decode cX11_share 7 = .ok (.if_icmp .ge 10, 3) := by decide +kernel
theorem dX11_share_10 : decode cX11_share 10 = .ok (.iload_n 2, 1) := by decide +kernel
theorem dX11_share_11 : decode cX11_share 11 = .ok (.invokestatic 246, 3) := by decide +kernel
theorem dX11_share_14 : decode cX11_share 14 = .ok (.ifCond .ne 7, 3) := by decide +kernel
theorem dX11_share_17 : decode cX11_share 17 = .ok (.ldc2_w 275, 3) := by decide +kernel
theorem dX11_share_20 : decode cX11_share 20 = .ok (.lreturn, 1) := by decide +kernel
theorem dX11_share_21 : decode cX11_share 21 = .ok (.aload_n 0, 1) := by decide +kernel
theorem dX11_share_22 : decode cX11_share 22 = .ok (.iload_n 2, 1) := by decide +kernel
theorem dX11_share_23 : decode cX11_share 23 = .ok (.iconst 0, 1) := by decide +kernel
theorem dX11_share_24 : decode cX11_share 24 = .ok (.invokevirtual 280, 3) := by decide +kernel
theorem dX11_share_27 : decode cX11_share 27 = .ok (.aload_n 0, 1) := by decide +kernel
theorem dX11_share_28 : decode cX11_share 28 = .ok (.getfield 129, 3) := by decide +kernel
theorem dX11_share_31 : decode cX11_share 31 = .ok (.iload_n 1, 1) := by decide +kernel
theorem dX11_share_32 : decode cX11_share 32 = .ok (.laload, 1) := by decide +kernel
theorem dX11_share_33 : decode cX11_share 33 = .ok (.lconst 0, 1) := by decide +kernel
theorem dX11_share_34 : decode cX11_share 34 = .ok (.lcmp, 1) := by decide +kernel
theorem dX11_share_35 : decode cX11_share 35 = .ok (.ifCond .ne 13, 3) := by decide +kernel
theorem dX11_share_38 : decode cX11_share 38 = .ok (.iload_n 3, 1) := by decide +kernel
theorem dX11_share_39 : decode cX11_share 39 = .ok (.ifCond .eq 7, 3) := by decide +kernel
theorem dX11_share_42 : decode cX11_share 42 = .ok (.lconst 1, 1) := by decide +kernel
theorem dX11_share_43 : decode cX11_share 43 = .ok (.goto 4, 3) := by decide +kernel
theorem dX11_share_46 : decode cX11_share 46 = .ok (.lconst 0, 1) := by decide +kernel
theorem dX11_share_47 : decode cX11_share 47 = .ok (.lreturn, 1) := by decide +kernel
theorem dX11_share_48 : decode cX11_share 48 = .ok (.aload_n 0, 1) := by decide +kernel
theorem dX11_share_49 : decode cX11_share 49 = .ok (.getfield 129, 3) := by decide +kernel
theorem dX11_share_52 : decode cX11_share 52 = .ok (.iload_n 1, 1) := by decide +kernel
theorem dX11_share_53 : decode cX11_share 53 = .ok (.laload, 1) := by decide +kernel
theorem dX11_share_54 : decode cX11_share 54 = .ok (.aload_n 0, 1) := by decide +kernel
theorem dX11_share_55 : decode cX11_share 55 = .ok (.getfield 277, 3) := by decide +kernel
theorem dX11_share_58 : decode cX11_share 58 = .ok (.invokestatic 284, 3) := by decide +kernel
theorem dX11_share_61 : decode cX11_share 61 = .ok (.lstore 4, 2) := by decide +kernel
theorem dX11_share_63 : decode cX11_share 63 = .ok (.iload_n 3, 1) := by decide +kernel
theorem dX11_share_64 : decode cX11_share 64 = .ok (.ifCond .eq 10, 3) := by decide +kernel
theorem dX11_share_67 : decode cX11_share 67 = .ok (.aload_n 0, 1) := by decide +kernel
theorem dX11_share_68 : decode cX11_share 68 = .ok (.getfield 277, 3) := by decide +kernel
theorem dX11_share_71 : decode cX11_share 71 = .ok (.goto 9, 3) := by decide +kernel
theorem dX11_share_74 : decode cX11_share 74 = .ok (.aload_n 0, 1) := by decide +kernel
theorem dX11_share_75 : decode cX11_share 75 = .ok (.getfield 129, 3) := by decide +kernel
theorem dX11_share_78 : decode cX11_share 78 = .ok (.iload_n 1, 1) := by decide +kernel
theorem dX11_share_79 : decode cX11_share 79 = .ok (.laload, 1) := by decide +kernel
theorem dX11_share_80 : decode cX11_share 80 = .ok (.lload 4, 2) := by decide +kernel
theorem dX11_share_82 : decode cX11_share 82 = .ok (.ldiv, 1) := by decide +kernel
theorem dX11_share_83 : decode cX11_share 83 = .ok (.lreturn, 1) := by decide +kernel
theorem dX11_likeliest_0 : decode cX11_likeliest 0 = .ok (.iload_n 1, 1) := by decide +kernel
theorem dX11_likeliest_1 : decode cX11_likeliest 1 = .ok (.invokestatic 246, 3) := by decide +kernel
theorem dX11_likeliest_4 : decode cX11_likeliest 4 = .ok (.ifCond .ne 5, 3) := by decide +kernel
theorem dX11_likeliest_7 : decode cX11_likeliest 7 = .ok (.iconst (-1), 1) := by decide +kernel
theorem dX11_likeliest_8 : decode cX11_likeliest 8 = .ok (.ireturn, 1) := by decide +kernel
theorem dX11_likeliest_9 : decode cX11_likeliest 9 = .ok (.aload_n 0, 1) := by decide +kernel
theorem dX11_likeliest_10 : decode cX11_likeliest 10 = .ok (.iload_n 1, 1) := by decide +kernel
theorem dX11_likeliest_11 : decode cX11_likeliest 11 = .ok (.iconst 0, 1) := by decide +kernel
theorem dX11_likeliest_12 : decode cX11_likeliest 12 = .ok (.invokevirtual 280, 3) := by decide +kernel
theorem dX11_likeliest_15 : decode cX11_likeliest 15 = .ok (.iconst (-1), 1) := by decide +kernel
theorem dX11_likeliest_16 : decode cX11_likeliest 16 = .ok (.istore_n 2, 1) := by decide +kernel
theorem dX11_likeliest_17 : decode cX11_likeliest 17 = .ok (.iconst 0, 1) := by decide +kernel
theorem dX11_likeliest_18 : decode cX11_likeliest 18 = .ok (.istore_n 3, 1) := by decide +kernel
theorem dX11_likeliest_19 : decode cX11_likeliest 19 = .ok (.iload_n 3, 1) := by decide +kernel
theorem dX11_likeliest_20 : decode cX11_likeliest 20 = .ok (.bipush 64, 2) := by decide +kernel
theorem dX11_likeliest_22 : decode cX11_likeliest 22 = .ok (.if_icmp .ge 42, 3) := by decide +kernel
theorem dX11_likeliest_25 : decode cX11_likeliest 25 = .ok (.aload_n 0, 1) := by decide +kernel
theorem dX11_likeliest_26 : decode cX11_likeliest 26 = .ok (.getfield 129, 3) := by decide +kernel
theorem dX11_likeliest_29 : decode cX11_likeliest 29 = .ok (.iload_n 3, 1) := by decide +kernel
theorem dX11_likeliest_30 : decode cX11_likeliest 30 = .ok (.laload, 1) := by decide +kernel
theorem dX11_likeliest_31 : decode cX11_likeliest 31 = .ok (.lconst 0, 1) := by decide +kernel
theorem dX11_likeliest_32 : decode cX11_likeliest 32 = .ok (.lcmp, 1) := by decide +kernel
theorem dX11_likeliest_33 : decode cX11_likeliest 33 = .ok (.ifCond .le 25, 3) := by decide +kernel
theorem dX11_likeliest_36 : decode cX11_likeliest 36 = .ok (.iload_n 2, 1) := by decide +kernel
theorem dX11_likeliest_37 : decode cX11_likeliest 37 = .ok (.ifCond .lt 19, 3) := by decide +kernel
theorem dX11_likeliest_40 : decode cX11_likeliest 40 = .ok (.aload_n 0, 1) := by decide +kernel
theorem dX11_likeliest_41 : decode cX11_likeliest 41 = .ok (.getfield 129, 3) := by decide +kernel
theorem dX11_likeliest_44 : decode cX11_likeliest 44 = .ok (.iload_n 3, 1) := by decide +kernel
theorem dX11_likeliest_45 : decode cX11_likeliest 45 = .ok (.laload, 1) := by decide +kernel
theorem dX11_likeliest_46 : decode cX11_likeliest 46 = .ok (.aload_n 0, 1) := by decide +kernel
theorem dX11_likeliest_47 : decode cX11_likeliest 47 = .ok (.getfield 129, 3) := by decide +kernel
theorem dX11_likeliest_50 : decode cX11_likeliest 50 = .ok (.iload_n 2, 1) := by decide +kernel
theorem dX11_likeliest_51 : decode cX11_likeliest 51 = .ok (.laload, 1) := by decide +kernel
theorem dX11_likeliest_52 : decode cX11_likeliest 52 = .ok (.lcmp, 1) := by decide +kernel
theorem dX11_likeliest_53 : decode cX11_likeliest 53 = .ok (.ifCond .le 5, 3) := by decide +kernel
theorem dX11_likeliest_56 : decode cX11_likeliest 56 = .ok (.iload_n 3, 1) := by decide +kernel
theorem dX11_likeliest_57 : decode cX11_likeliest 57 = .ok (.istore_n 2, 1) := by decide +kernel
theorem dX11_likeliest_58 : decode cX11_likeliest 58 = .ok (.iinc 3 1, 3) := by decide +kernel
theorem dX11_likeliest_61 : decode cX11_likeliest 61 = .ok (.goto (-42), 3) := by decide +kernel
theorem dX11_likeliest_64 : decode cX11_likeliest 64 = .ok (.iload_n 2, 1) := by decide +kernel
theorem dX11_likeliest_65 : decode cX11_likeliest 65 = .ok (.ireturn, 1) := by decide +kernel
theorem dX11_spot_0 : decode cX11_spot 0 = .ok (.bipush 41, 2) := by decide +kernel
theorem dX11_spot_2 : decode cX11_spot 2 = .ok (.iload_n 0, 1) := by decide +kernel
theorem dX11_spot_3 : decode cX11_spot 3 = .ok (.imul, 1) := by decide +kernel
theorem dX11_spot_4 : decode cX11_spot 4 = .ok (.iload_n 1, 1) := by decide +kernel
theorem dX11_spot_5 : decode cX11_spot 5 = .ok (.iadd, 1) := by decide +kernel
theorem dX11_spot_6 : decode cX11_spot 6 = .ok (.ireturn, 1) := by decide +kernel
theorem dX11_gain_0 : decode cX11_gain 0 = .ok (.aload_n 0, 1) := by decide +kernel
theorem dX11_gain_1 : decode cX11_gain 1 = .ok (.getfield 129, 3) := by decide +kernel
theorem dX11_gain_4 : decode cX11_gain 4 = .ok (.iload_n 1, 1) := by decide +kernel
theorem dX11_gain_5 : decode cX11_gain 5 = .ok (.laload, 1) := by decide +kernel
theorem dX11_gain_6 : decode cX11_gain 6 = .ok (.bipush 100, 2) := by decide +kernel
theorem dX11_gain_8 : decode cX11_gain 8 = .ok (.aload_n 0, 1) := by decide +kernel
theorem dX11_gain_9 : decode cX11_gain 9 = .ok (.iload_n 2, 1) := by decide +kernel
theorem dX11_gain_10 : decode cX11_gain 10 = .ok (.iload_n 3, 1) := by decide +kernel
theorem dX11_gain_11 : decode cX11_gain 11 = .ok (.invokevirtual 218, 3) := by decide +kernel
theorem dX11_gain_14 : decode cX11_gain 14 = .ok (.isub, 1) := by decide +kernel
theorem dX11_gain_15 : decode cX11_gain 15 = .ok (.i2l, 1) := by decide +kernel
theorem dX11_gain_16 : decode cX11_gain 16 = .ok (.lmul, 1) := by decide +kernel
theorem dX11_gain_17 : decode cX11_gain 17 = .ok (.lreturn, 1) := by decide +kernel
theorem dX11_canSplit_0 : decode cX11_canSplit 0 = .ok (.iload_n 1, 1) := by decide +kernel
theorem dX11_canSplit_1 : decode cX11_canSplit 1 = .ok (.invokestatic 246, 3) := by decide +kernel
theorem dX11_canSplit_4 : decode cX11_canSplit 4 = .ok (.ifCond .eq 24, 3) := by decide +kernel
theorem dX11_canSplit_7 : decode cX11_canSplit 7 = .ok (.iload_n 2, 1) := by decide +kernel
theorem dX11_canSplit_8 : decode cX11_canSplit 8 = .ok (.invokestatic 215, 3) := by decide +kernel
theorem dX11_canSplit_11 : decode cX11_canSplit 11 = .ok (.ifCond .eq 17, 3) := by decide +kernel
theorem dX11_canSplit_14 : decode cX11_canSplit 14 = .ok (.iload_n 3, 1) := by decide +kernel
theorem dX11_canSplit_15 : decode cX11_canSplit 15 = .ok (.ifCond .lt 13, 3) := by decide +kernel
theorem dX11_canSplit_18 : decode cX11_canSplit 18 = .ok (.iload_n 3, 1) := by decide +kernel
theorem dX11_canSplit_19 : decode cX11_canSplit 19 = .ok (.bipush 40, 2) := by decide +kernel
theorem dX11_canSplit_21 : decode cX11_canSplit 21 = .ok (.if_icmp .gt 7, 3) := by decide +kernel
theorem dX11_canSplit_24 : decode cX11_canSplit 24 = .ok (.iconst 1, 1) := by decide +kernel
theorem dX11_canSplit_25 : decode cX11_canSplit 25 = .ok (.goto 4, 3) := by decide +kernel
theorem dX11_canSplit_28 : decode cX11_canSplit 28 = .ok (.iconst 0, 1) := by decide +kernel
theorem dX11_canSplit_29 : decode cX11_canSplit 29 = .ok (.ireturn, 1) := by decide +kernel
theorem dX11_give_0 : decode cX11_give 0 = .ok (.aload_n 0, 1) := by decide +kernel
theorem dX11_give_1 : decode cX11_give 1 = .ok (.iload_n 1, 1) := by decide +kernel
theorem dX11_give_2 : decode cX11_give 2 = .ok (.iconst 1, 1) := by decide +kernel
theorem dX11_give_3 : decode cX11_give 3 = .ok (.invokevirtual 280, 3) := by decide +kernel
theorem dX11_give_6 : decode cX11_give 6 = .ok (.iconst 0, 1) := by decide +kernel
theorem dX11_give_7 : decode cX11_give 7 = .ok (.istore_n 3, 1) := by decide +kernel
theorem dX11_give_8 : decode cX11_give 8 = .ok (.iload_n 3, 1) := by decide +kernel
theorem dX11_give_9 : decode cX11_give 9 = .ok (.bipush 40, 2) := by decide +kernel
theorem dX11_give_11 : decode cX11_give 11 = .ok (.if_icmp .gt 33, 3) := by decide +kernel
theorem dX11_give_14 : decode cX11_give 14 = .ok (.aload_n 0, 1) := by decide +kernel
theorem dX11_give_15 : decode cX11_give 15 = .ok (.getfield 133, 3) := by decide +kernel
theorem dX11_give_18 : decode cX11_give 18 = .ok (.bipush 64, 2) := by decide +kernel
theorem dX11_give_20 : decode cX11_give 20 = .ok (.iload_n 3, 1) := by decide +kernel
theorem dX11_give_21 : decode cX11_give 21 = .ok (.invokestatic 288, 3) := by decide +kernel
theorem dX11_give_24 : decode cX11_give 24 = .ok (.lconst 0, 1) := by decide +kernel
theorem dX11_give_25 : decode cX11_give 25 = .ok (.lastore, 1) := by decide +kernel
theorem dX11_give_26 : decode cX11_give 26 = .ok (.aload_n 0, 1) := by decide +kernel
theorem dX11_give_27 : decode cX11_give 27 = .ok (.getfield 136, 3) := by decide +kernel
theorem dX11_give_30 : decode cX11_give 30 = .ok (.bipush 64, 2) := by decide +kernel
theorem dX11_give_32 : decode cX11_give 32 = .ok (.iload_n 3, 1) := by decide +kernel
theorem dX11_give_33 : decode cX11_give 33 = .ok (.invokestatic 288, 3) := by decide +kernel
theorem dX11_give_36 : decode cX11_give 36 = .ok (.iconst 0, 1) := by decide +kernel
theorem dX11_give_37 : decode cX11_give 37 = .ok (.iastore, 1) := by decide +kernel
theorem dX11_give_38 : decode cX11_give 38 = .ok (.iinc 3 1, 3) := by decide +kernel
theorem dX11_give_41 : decode cX11_give 41 = .ok (.goto (-33), 3) := by decide +kernel
theorem dX11_give_44 : decode cX11_give 44 = .ok (.bipush 63, 2) := by decide +kernel
theorem dX11_give_46 : decode cX11_give 46 = .ok (.istore_n 3, 1) := by decide +kernel
theorem dX11_give_47 : decode cX11_give 47 = .ok (.iload_n 3, 1) := by decide +kernel
theorem dX11_give_48 : decode cX11_give 48 = .ok (.ifCond .lt 164, 3) := by decide +kernel
theorem dX11_give_51 : decode cX11_give 51 = .ok (.iconst 0, 1) := by decide +kernel
theorem dX11_give_52 : decode cX11_give 52 = .ok (.istore 4, 2) := by decide +kernel
theorem dX11_give_54 : decode cX11_give 54 = .ok (.iload 4, 2) := by decide +kernel
theorem dX11_give_56 : decode cX11_give 56 = .ok (.bipush 40, 2) := by decide +kernel
theorem dX11_give_58 : decode cX11_give 58 = .ok (.if_icmp .gt 148, 3) := by decide +kernel
theorem dX11_give_61 : decode cX11_give 61 = .ok (.ldc2_w 275, 3) := by decide +kernel
theorem dX11_give_64 : decode cX11_give 64 = .ok (.lstore 5, 2) := by decide +kernel
theorem dX11_give_66 : decode cX11_give 66 = .ok (.iconst 0, 1) := by decide +kernel
theorem dX11_give_67 : decode cX11_give 67 = .ok (.istore 7, 2) := by decide +kernel
theorem dX11_give_69 : decode cX11_give 69 = .ok (.iconst 0, 1) := by decide +kernel
theorem dX11_give_70 : decode cX11_give 70 = .ok (.istore 8, 2) := by decide +kernel
theorem dX11_give_72 : decode cX11_give 72 = .ok (.iload 8, 2) := by decide +kernel
theorem dX11_give_74 : decode cX11_give 74 = .ok (.bipush 20, 2) := by decide +kernel
theorem dX11_give_76 : decode cX11_give 76 = .ok (.if_icmp .gt 98, 3) := by decide +kernel
theorem dX11_give_79 : decode cX11_give 79 = .ok (.iload 8, 2) := by decide +kernel
theorem dX11_give_81 : decode cX11_give 81 = .ok (.iload 4, 2) := by decide +kernel
theorem dX11_give_83 : decode cX11_give 83 = .ok (.if_icmp .gt 91, 3) := by decide +kernel
theorem dX11_give_86 : decode cX11_give 86 = .ok (.aload_n 0, 1) := by decide +kernel
theorem dX11_give_87 : decode cX11_give 87 = .ok (.iload_n 3, 1) := by decide +kernel
theorem dX11_give_88 : decode cX11_give 88 = .ok (.iload_n 2, 1) := by decide +kernel
theorem dX11_give_89 : decode cX11_give 89 = .ok (.iload 8, 2) := by decide +kernel
theorem dX11_give_91 : decode cX11_give 91 = .ok (.invokevirtual 291, 3) := by decide +kernel
theorem dX11_give_94 : decode cX11_give 94 = .ok (.aload_n 0, 1) := by decide +kernel
theorem dX11_give_95 : decode cX11_give 95 = .ok (.getfield 133, 3) := by decide +kernel
theorem dX11_give_98 : decode cX11_give 98 = .ok (.iload_n 3, 1) := by decide +kernel
theorem dX11_give_99 : decode cX11_give 99 = .ok (.iconst 1, 1) := by decide +kernel
theorem dX11_give_100 : decode cX11_give 100 = .ok (.iadd, 1) := by decide +kernel
theorem dX11_give_101 : decode cX11_give 101 = .ok (.iload 4, 2) := by decide +kernel
theorem dX11_give_103 : decode cX11_give 103 = .ok (.iload 8, 2) := by decide +kernel
theorem dX11_give_105 : decode cX11_give 105 = .ok (.isub, 1) := by decide +kernel
theorem dX11_give_106 : decode cX11_give 106 = .ok (.invokestatic 288, 3) := by decide +kernel
theorem dX11_give_109 : decode cX11_give 109 = .ok (.laload, 1) := by decide +kernel
theorem dX11_give_110 : decode cX11_give 110 = .ok (.ladd, 1) := by decide +kernel
theorem dX11_give_111 : decode cX11_give 111 = .ok (.lstore 9, 2) := by decide +kernel
theorem dX11_give_113 : decode cX11_give 113 = .ok (.iload 8, 2) := by decide +kernel
theorem dX11_give_115 : decode cX11_give 115 = .ok (.aload_n 0, 1) := by decide +kernel
theorem dX11_give_116 : decode cX11_give 116 = .ok (.getfield 136, 3) := by decide +kernel
theorem dX11_give_119 : decode cX11_give 119 = .ok (.iload_n 3, 1) := by decide +kernel
theorem dX11_give_120 : decode cX11_give 120 = .ok (.iconst 1, 1) := by decide +kernel
theorem dX11_give_121 : decode cX11_give 121 = .ok (.iadd, 1) := by decide +kernel
theorem dX11_give_122 : decode cX11_give 122 = .ok (.iload 4, 2) := by decide +kernel
theorem dX11_give_124 : decode cX11_give 124 = .ok (.iload 8, 2) := by decide +kernel
theorem dX11_give_126 : decode cX11_give 126 = .ok (.isub, 1) := by decide +kernel
theorem dX11_give_127 : decode cX11_give 127 = .ok (.invokestatic 288, 3) := by decide +kernel
theorem dX11_give_130 : decode cX11_give 130 = .ok (.iaload, 1) := by decide +kernel
theorem dX11_give_131 : decode cX11_give 131 = .ok (.iadd, 1) := by decide +kernel
theorem dX11_give_132 : decode cX11_give 132 = .ok (.istore 11, 2) := by decide +kernel
theorem dX11_give_134 : decode cX11_give 134 = .ok (.lload 9, 2) := by decide +kernel
theorem dX11_give_136 : decode cX11_give 136 = .ok (.lload 5, 2) := by decide +kernel
theorem dX11_give_138 : decode cX11_give 138 = .ok (.lcmp, 1) := by decide +kernel
theorem dX11_give_139 : decode cX11_give 139 = .ok (.ifCond .lt 29, 3) := by decide +kernel
theorem dX11_give_142 : decode cX11_give 142 = .ok (.lload 9, 2) := by decide +kernel
theorem dX11_give_144 : decode cX11_give 144 = .ok (.lload 5, 2) := by decide +kernel
theorem dX11_give_146 : decode cX11_give 146 = .ok (.lcmp, 1) := by decide +kernel
theorem dX11_give_147 : decode cX11_give 147 = .ok (.ifCond .ne 13, 3) := by decide +kernel
theorem dX11_give_150 : decode cX11_give 150 = .ok (.iload 11, 2) := by decide +kernel
theorem dX11_give_152 : decode cX11_give 152 = .ok (.iload 7, 2) := by decide +kernel
theorem dX11_give_154 : decode cX11_give 154 = .ok (.if_icmp .lt 6, 3) := by decide +kernel
theorem dX11_give_157 : decode cX11_give 157 = .ok (.goto 11, 3) := by decide +kernel
theorem dX11_give_160 : decode cX11_give 160 = .ok (.lload 9, 2) := by decide +kernel
theorem dX11_give_162 : decode cX11_give 162 = .ok (.lstore 5, 2) := by decide +kernel
theorem dX11_give_164 : decode cX11_give 164 = .ok (.iload 11, 2) := by decide +kernel
theorem dX11_give_166 : decode cX11_give 166 = .ok (.istore 7, 2) := by decide +kernel
theorem dX11_give_168 : decode cX11_give 168 = .ok (.iinc 8 1, 3) := by decide +kernel
theorem dX11_give_171 : decode cX11_give 171 = .ok (.goto (-99), 3) := by decide +kernel
theorem dX11_give_174 : decode cX11_give 174 = .ok (.aload_n 0, 1) := by decide +kernel
theorem dX11_give_175 : decode cX11_give 175 = .ok (.getfield 133, 3) := by decide +kernel
theorem dX11_give_178 : decode cX11_give 178 = .ok (.iload_n 3, 1) := by decide +kernel
theorem dX11_give_179 : decode cX11_give 179 = .ok (.iload 4, 2) := by decide +kernel
theorem dX11_give_181 : decode cX11_give 181 = .ok (.invokestatic 288, 3) := by decide +kernel
theorem dX11_give_184 : decode cX11_give 184 = .ok (.lload 5, 2) := by decide +kernel
theorem dX11_give_186 : decode cX11_give 186 = .ok (.lastore, 1) := by decide +kernel
theorem dX11_give_187 : decode cX11_give 187 = .ok (.aload_n 0, 1) := by decide +kernel
theorem dX11_give_188 : decode cX11_give 188 = .ok (.getfield 136, 3) := by decide +kernel
theorem dX11_give_191 : decode cX11_give 191 = .ok (.iload_n 3, 1) := by decide +kernel
theorem dX11_give_192 : decode cX11_give 192 = .ok (.iload 4, 2) := by decide +kernel
theorem dX11_give_194 : decode cX11_give 194 = .ok (.invokestatic 288, 3) := by decide +kernel
theorem dX11_give_197 : decode cX11_give 197 = .ok (.iload 7, 2) := by decide +kernel
theorem dX11_give_199 : decode cX11_give 199 = .ok (.iastore, 1) := by decide +kernel
theorem dX11_give_200 : decode cX11_give 200 = .ok (.iinc 4 1, 3) := by decide +kernel
theorem dX11_give_203 : decode cX11_give 203 = .ok (.goto (-149), 3) := by decide +kernel
theorem dX11_give_206 : decode cX11_give 206 = .ok (.iinc 3 (-1), 3) := by decide +kernel
theorem dX11_give_209 : decode cX11_give 209 = .ok (.goto (-162), 3) := by decide +kernel
theorem dX11_give_212 : decode cX11_give 212 = .ok (.return_, 1) := by decide +kernel
theorem dX11_seen_0 : decode cX11_seen 0 = .ok (.aload_n 0, 1) := by decide +kernel
theorem dX11_seen_1 : decode cX11_seen 1 = .ok (.iload_n 1, 1) := by decide +kernel
theorem dX11_seen_2 : decode cX11_seen 2 = .ok (.iload_n 2, 1) := by decide +kernel
theorem dX11_seen_3 : decode cX11_seen 3 = .ok (.iload_n 3, 1) := by decide +kernel
theorem dX11_seen_4 : decode cX11_seen 4 = .ok (.invokevirtual 295, 3) := by decide +kernel
theorem dX11_seen_7 : decode cX11_seen 7 = .ok (.ifCond .ne 7, 3) := by decide +kernel
theorem dX11_seen_10 : decode cX11_seen 10 = .ok (.ldc2_w 275, 3) := by decide +kernel
theorem dX11_seen_13 : decode cX11_seen 13 = .ok (.lreturn, 1) := by decide +kernel
theorem dX11_seen_14 : decode cX11_seen 14 = .ok (.aload_n 0, 1) := by decide +kernel
theorem dX11_seen_15 : decode cX11_seen 15 = .ok (.iload_n 1, 1) := by decide +kernel
theorem dX11_seen_16 : decode cX11_seen 16 = .ok (.iload_n 2, 1) := by decide +kernel
theorem dX11_seen_17 : decode cX11_seen 17 = .ok (.invokevirtual 299, 3) := by decide +kernel
theorem dX11_seen_20 : decode cX11_seen 20 = .ok (.aload_n 0, 1) := by decide +kernel
theorem dX11_seen_21 : decode cX11_seen 21 = .ok (.getfield 133, 3) := by decide +kernel
theorem dX11_seen_24 : decode cX11_seen 24 = .ok (.iconst 0, 1) := by decide +kernel
theorem dX11_seen_25 : decode cX11_seen 25 = .ok (.iload_n 3, 1) := by decide +kernel
theorem dX11_seen_26 : decode cX11_seen 26 = .ok (.invokestatic 288, 3) := by decide +kernel
theorem dX11_seen_29 : decode cX11_seen 29 = .ok (.laload, 1) := by decide +kernel
theorem dX11_seen_30 : decode cX11_seen 30 = .ok (.lreturn, 1) := by decide +kernel
theorem dX11_split_0 : decode cX11_split 0 = .ok (.aload_n 0, 1) := by decide +kernel
theorem dX11_split_1 : decode cX11_split 1 = .ok (.iload_n 1, 1) := by decide +kernel
theorem dX11_split_2 : decode cX11_split 2 = .ok (.iload_n 2, 1) := by decide +kernel
theorem dX11_split_3 : decode cX11_split 3 = .ok (.iload_n 3, 1) := by decide +kernel
theorem dX11_split_4 : decode cX11_split 4 = .ok (.invokevirtual 295, 3) := by decide +kernel
theorem dX11_split_7 : decode cX11_split 7 = .ok (.ifCond .eq 15, 3) := by decide +kernel
theorem dX11_split_10 : decode cX11_split 10 = .ok (.iload 4, 2) := by decide +kernel
theorem dX11_split_12 : decode cX11_split 12 = .ok (.ifCond .lt 10, 3) := by decide +kernel
theorem dX11_split_15 : decode cX11_split 15 = .ok (.iload 4, 2) := by decide +kernel
theorem dX11_split_17 : decode cX11_split 17 = .ok (.bipush 64, 2) := by decide +kernel
theorem dX11_split_19 : decode cX11_split 19 = .ok (.if_icmp .lt 5, 3) := by decide +kernel
theorem dX11_split_22 : decode cX11_split 22 = .ok (.iconst (-1), 1) := by decide +kernel
theorem dX11_split_23 : decode cX11_split 23 = .ok (.ireturn, 1) := by decide +kernel
theorem dX11_split_24 : decode cX11_split 24 = .ok (.aload_n 0, 1) := by decide +kernel
theorem dX11_split_25 : decode cX11_split 25 = .ok (.iload_n 1, 1) := by decide +kernel
theorem dX11_split_26 : decode cX11_split 26 = .ok (.iload_n 2, 1) := by decide +kernel
theorem dX11_split_27 : decode cX11_split 27 = .ok (.invokevirtual 299, 3) := by decide +kernel
theorem dX11_split_30 : decode cX11_split 30 = .ok (.iload_n 3, 1) := by decide +kernel
theorem dX11_split_31 : decode cX11_split 31 = .ok (.istore 5, 2) := by decide +kernel
theorem dX11_split_33 : decode cX11_split 33 = .ok (.iconst 0, 1) := by decide +kernel
theorem dX11_split_34 : decode cX11_split 34 = .ok (.istore 6, 2) := by decide +kernel
theorem dX11_split_36 : decode cX11_split 36 = .ok (.iconst 0, 1) := by decide +kernel
theorem dX11_split_37 : decode cX11_split 37 = .ok (.istore 7, 2) := by decide +kernel
theorem dX11_split_39 : decode cX11_split 39 = .ok (.iload 7, 2) := by decide +kernel
theorem dX11_split_41 : decode cX11_split 41 = .ok (.iload 4, 2) := by decide +kernel
theorem dX11_split_43 : decode cX11_split 43 = .ok (.if_icmp .gt 103, 3) := by decide +kernel
theorem dX11_split_46 : decode cX11_split 46 = .ok (.iconst 0, 1) := by decide +kernel
theorem dX11_split_47 : decode cX11_split 47 = .ok (.istore 6, 2) := by decide +kernel
theorem dX11_split_49 : decode cX11_split 49 = .ok (.aload_n 0, 1) := by decide +kernel
theorem dX11_split_50 : decode cX11_split 50 = .ok (.iload 7, 2) := by decide +kernel
theorem dX11_split_52 : decode cX11_split 52 = .ok (.iload_n 2, 1) := by decide +kernel
theorem dX11_split_53 : decode cX11_split 53 = .ok (.iload 6, 2) := by decide +kernel
theorem dX11_split_55 : decode cX11_split 55 = .ok (.invokevirtual 291, 3) := by decide +kernel
theorem dX11_split_58 : decode cX11_split 58 = .ok (.aload_n 0, 1) := by decide +kernel
theorem dX11_split_59 : decode cX11_split 59 = .ok (.getfield 133, 3) := by decide +kernel
theorem dX11_split_62 : decode cX11_split 62 = .ok (.iload 7, 2) := by decide +kernel
theorem dX11_split_64 : decode cX11_split 64 = .ok (.iconst 1, 1) := by decide +kernel
theorem dX11_split_65 : decode cX11_split 65 = .ok (.iadd, 1) := by decide +kernel
theorem dX11_split_66 : decode cX11_split 66 = .ok (.iload 5, 2) := by decide +kernel
theorem dX11_split_68 : decode cX11_split 68 = .ok (.iload 6, 2) := by decide +kernel
theorem dX11_split_70 : decode cX11_split 70 = .ok (.isub, 1) := by decide +kernel
theorem dX11_split_71 : decode cX11_split 71 = .ok (.invokestatic 288, 3) := by decide +kernel
theorem dX11_split_74 : decode cX11_split 74 = .ok (.laload, 1) := by decide +kernel
theorem dX11_split_75 : decode cX11_split 75 = .ok (.ladd, 1) := by decide +kernel
theorem dX11_split_76 : decode cX11_split 76 = .ok (.aload_n 0, 1) := by decide +kernel
theorem dX11_split_77 : decode cX11_split 77 = .ok (.getfield 133, 3) := by decide +kernel
theorem dX11_split_80 : decode cX11_split 80 = .ok (.iload 7, 2) := by decide +kernel
theorem dX11_split_82 : decode cX11_split 82 = .ok (.iload 5, 2) := by decide +kernel
theorem dX11_split_84 : decode cX11_split 84 = .ok (.invokestatic 288, 3) := by decide +kernel
theorem dX11_split_87 : decode cX11_split 87 = .ok (.laload, 1) := by decide +kernel
theorem dX11_split_88 : decode cX11_split 88 = .ok (.lcmp, 1) := by decide +kernel
theorem dX11_split_89 : decode cX11_split 89 = .ok (.ifCond .ne 38, 3) := by decide +kernel
theorem dX11_split_92 : decode cX11_split 92 = .ok (.iload 6, 2) := by decide +kernel
theorem dX11_split_94 : decode cX11_split 94 = .ok (.aload_n 0, 1) := by decide +kernel
theorem dX11_split_95 : decode cX11_split 95 = .ok (.getfield 136, 3) := by decide +kernel
theorem dX11_split_98 : decode cX11_split 98 = .ok (.iload 7, 2) := by decide +kernel
theorem dX11_split_100 : decode cX11_split 100 = .ok (.iconst 1, 1) := by decide +kernel
theorem dX11_split_101 : decode cX11_split 101 = .ok (.iadd, 1) := by decide +kernel
theorem dX11_split_102 : decode cX11_split 102 = .ok (.iload 5, 2) := by decide +kernel
theorem dX11_split_104 : decode cX11_split 104 = .ok (.iload 6, 2) := by decide +kernel
theorem dX11_split_106 : decode cX11_split 106 = .ok (.isub, 1) := by decide +kernel
theorem dX11_split_107 : decode cX11_split 107 = .ok (.invokestatic 288, 3) := by decide +kernel
theorem dX11_split_110 : decode cX11_split 110 = .ok (.iaload, 1) := by decide +kernel
theorem dX11_split_111 : decode cX11_split 111 = .ok (.iadd, 1) := by decide +kernel
theorem dX11_split_112 : decode cX11_split 112 = .ok (.aload_n 0, 1) := by decide +kernel
theorem dX11_split_113 : decode cX11_split 113 = .ok (.getfield 136, 3) := by decide +kernel
theorem dX11_split_116 : decode cX11_split 116 = .ok (.iload 7, 2) := by decide +kernel
theorem dX11_split_118 : decode cX11_split 118 = .ok (.iload 5, 2) := by decide +kernel
theorem dX11_split_120 : decode cX11_split 120 = .ok (.invokestatic 288, 3) := by decide +kernel
theorem dX11_split_123 : decode cX11_split 123 = .ok (.iaload, 1) := by decide +kernel
theorem dX11_split_124 : decode cX11_split 124 = .ok (.if_icmp .eq 9, 3) := by decide +kernel
theorem dX11_split_127 : decode cX11_split 127 = .ok (.iinc 6 1, 3) := by decide +kernel
theorem dX11_split_130 : decode cX11_split 130 = .ok (.goto (-81), 3) := by decide +kernel
theorem dX11_split_133 : decode cX11_split 133 = .ok (.iload 5, 2) := by decide +kernel
theorem dX11_split_135 : decode cX11_split 135 = .ok (.iload 6, 2) := by decide +kernel
theorem dX11_split_137 : decode cX11_split 137 = .ok (.isub, 1) := by decide +kernel
theorem dX11_split_138 : decode cX11_split 138 = .ok (.istore 5, 2) := by decide +kernel
theorem dX11_split_140 : decode cX11_split 140 = .ok (.iinc 7 1, 3) := by decide +kernel
theorem dX11_split_143 : decode cX11_split 143 = .ok (.goto (-104), 3) := by decide +kernel
theorem dX11_split_146 : decode cX11_split 146 = .ok (.iload 6, 2) := by decide +kernel
theorem dX11_split_148 : decode cX11_split 148 = .ok (.ireturn, 1) := by decide +kernel
theorem dX11_left_0 : decode cX11_left 0 = .ok (.aload_n 0, 1) := by decide +kernel
theorem dX11_left_1 : decode cX11_left 1 = .ok (.getfield 224, 3) := by decide +kernel
theorem dX11_left_4 : decode cX11_left 4 = .ok (.ifCond .ne 7, 3) := by decide +kernel
theorem dX11_left_7 : decode cX11_left 7 = .ok (.sipush 10000, 3) := by decide +kernel
theorem dX11_left_10 : decode cX11_left 10 = .ok (.ireturn, 1) := by decide +kernel
theorem dX11_left_11 : decode cX11_left 11 = .ok (.lconst 0, 1) := by decide +kernel
theorem dX11_left_12 : decode cX11_left 12 = .ok (.lstore_n 1, 1) := by decide +kernel
theorem dX11_left_13 : decode cX11_left 13 = .ok (.lconst 0, 1) := by decide +kernel
theorem dX11_left_14 : decode cX11_left 14 = .ok (.lstore_n 3, 1) := by decide +kernel
theorem dX11_left_15 : decode cX11_left 15 = .ok (.iconst 0, 1) := by decide +kernel
theorem dX11_left_16 : decode cX11_left 16 = .ok (.istore 5, 2) := by decide +kernel
theorem dX11_left_18 : decode cX11_left 18 = .ok (.iload 5, 2) := by decide +kernel
theorem dX11_left_20 : decode cX11_left 20 = .ok (.aload_n 0, 1) := by decide +kernel
theorem dX11_left_21 : decode cX11_left 21 = .ok (.getfield 224, 3) := by decide +kernel
theorem dX11_left_24 : decode cX11_left 24 = .ok (.if_icmp .ge 29, 3) := by decide +kernel
theorem dX11_left_27 : decode cX11_left 27 = .ok (.lload_n 1, 1) := by decide +kernel
theorem dX11_left_28 : decode cX11_left 28 = .ok (.aload_n 0, 1) := by decide +kernel
theorem dX11_left_29 : decode cX11_left 29 = .ok (.iload 5, 2) := by decide +kernel
theorem dX11_left_31 : decode cX11_left 31 = .ok (.invokevirtual 271, 3) := by decide +kernel
theorem dX11_left_34 : decode cX11_left 34 = .ok (.ladd, 1) := by decide +kernel
theorem dX11_left_35 : decode cX11_left 35 = .ok (.lstore_n 1, 1) := by decide +kernel
theorem dX11_left_36 : decode cX11_left 36 = .ok (.lload_n 3, 1) := by decide +kernel
theorem dX11_left_37 : decode cX11_left 37 = .ok (.aload_n 0, 1) := by decide +kernel
theorem dX11_left_38 : decode cX11_left 38 = .ok (.getfield 102, 3) := by decide +kernel
theorem dX11_left_41 : decode cX11_left 41 = .ok (.iload 5, 2) := by decide +kernel
theorem dX11_left_43 : decode cX11_left 43 = .ok (.iaload, 1) := by decide +kernel
theorem dX11_left_44 : decode cX11_left 44 = .ok (.i2l, 1) := by decide +kernel
theorem dX11_left_45 : decode cX11_left 45 = .ok (.ladd, 1) := by decide +kernel
theorem dX11_left_46 : decode cX11_left 46 = .ok (.lstore_n 3, 1) := by decide +kernel
theorem dX11_left_47 : decode cX11_left 47 = .ok (.iinc 5 1, 3) := by decide +kernel
theorem dX11_left_50 : decode cX11_left 50 = .ok (.goto (-32), 3) := by decide +kernel
theorem dX11_left_53 : decode cX11_left 53 = .ok (.iconst 0, 1) := by decide +kernel
theorem dX11_left_54 : decode cX11_left 54 = .ok (.istore 5, 2) := by decide +kernel
theorem dX11_left_56 : decode cX11_left 56 = .ok (.iload 5, 2) := by decide +kernel
theorem dX11_left_58 : decode cX11_left 58 = .ok (.aload_n 0, 1) := by decide +kernel
theorem dX11_left_59 : decode cX11_left 59 = .ok (.getfield 252, 3) := by decide +kernel
theorem dX11_left_62 : decode cX11_left 62 = .ok (.if_icmp .ge 29, 3) := by decide +kernel
theorem dX11_left_65 : decode cX11_left 65 = .ok (.lload_n 3, 1) := by decide +kernel
theorem dX11_left_66 : decode cX11_left 66 = .ok (.aload_n 0, 1) := by decide +kernel
theorem dX11_left_67 : decode cX11_left 67 = .ok (.getfield 126, 3) := by decide +kernel
theorem dX11_left_70 : decode cX11_left 70 = .ok (.iload 5, 2) := by decide +kernel
theorem dX11_left_72 : decode cX11_left 72 = .ok (.baload, 1) := by decide +kernel
theorem dX11_left_73 : decode cX11_left 73 = .ok (.ifCond .eq 7, 3) := by decide +kernel
theorem dX11_left_76 : decode cX11_left 76 = .ok (.lconst 1, 1) := by decide +kernel
theorem dX11_left_77 : decode cX11_left 77 = .ok (.goto 6, 3) := by decide +kernel
theorem dX11_left_80 : decode cX11_left 80 = .ok (.ldc2_w 302, 3) := by decide +kernel
theorem dX11_left_83 : decode cX11_left 83 = .ok (.lmul, 1) := by decide +kernel
theorem dX11_left_84 : decode cX11_left 84 = .ok (.lstore_n 3, 1) := by decide +kernel
theorem dX11_left_85 : decode cX11_left 85 = .ok (.iinc 5 1, 3) := by decide +kernel
theorem dX11_left_88 : decode cX11_left 88 = .ok (.goto (-32), 3) := by decide +kernel
theorem dX11_left_91 : decode cX11_left 91 = .ok (.lload_n 1, 1) := by decide +kernel
theorem dX11_left_92 : decode cX11_left 92 = .ok (.lload_n 3, 1) := by decide +kernel
theorem dX11_left_93 : decode cX11_left 93 = .ok (.ldiv, 1) := by decide +kernel
theorem dX11_left_94 : decode cX11_left 94 = .ok (.l2i, 1) := by decide +kernel
theorem dX11_left_95 : decode cX11_left 95 = .ok (.istore 5, 2) := by decide +kernel
theorem dX11_left_97 : decode cX11_left 97 = .ok (.lload_n 1, 1) := by decide +kernel
theorem dX11_left_98 : decode cX11_left 98 = .ok (.lload_n 3, 1) := by decide +kernel
theorem dX11_left_99 : decode cX11_left 99 = .ok (.lrem, 1) := by decide +kernel
theorem dX11_left_100 : decode cX11_left 100 = .ok (.lstore 6, 2) := by decide +kernel
theorem dX11_left_102 : decode cX11_left 102 = .ok (.iconst 0, 1) := by decide +kernel
theorem dX11_left_103 : decode cX11_left 103 = .ok (.istore 8, 2) := by decide +kernel
theorem dX11_left_105 : decode cX11_left 105 = .ok (.iload 8, 2) := by decide +kernel
theorem dX11_left_107 : decode cX11_left 107 = .ok (.iconst 4, 1) := by decide +kernel
theorem dX11_left_108 : decode cX11_left 108 = .ok (.if_icmp .ge 36, 3) := by decide +kernel
theorem dX11_left_111 : decode cX11_left 111 = .ok (.bipush 10, 2) := by decide +kernel
theorem dX11_left_113 : decode cX11_left 113 = .ok (.iload 5, 2) := by decide +kernel
theorem dX11_left_115 : decode cX11_left 115 = .ok (.imul, 1) := by decide +kernel
theorem dX11_left_116 : decode cX11_left 116 = .ok (.lload 6, 2) := by decide +kernel
theorem dX11_left_118 : decode cX11_left 118 = .ok (.ldc2_w 304, 3) := by decide +kernel
theorem dX11_left_121 : decode cX11_left 121 = .ok (.lmul, 1) := by decide +kernel
theorem dX11_left_122 : decode cX11_left 122 = .ok (.lload_n 3, 1) := by decide +kernel
theorem dX11_left_123 : decode cX11_left 123 = .ok (.ldiv, 1) := by decide +kernel
theorem dX11_left_124 : decode cX11_left 124 = .ok (.l2i, 1) := by decide +kernel
theorem dX11_left_125 : decode cX11_left 125 = .ok (.iadd, 1) := by decide +kernel
theorem dX11_left_126 : decode cX11_left 126 = .ok (.istore 5, 2) := by decide +kernel
theorem dX11_left_128 : decode cX11_left 128 = .ok (.lload 6, 2) := by decide +kernel
theorem dX11_left_130 : decode cX11_left 130 = .ok (.ldc2_w 304, 3) := by decide +kernel
theorem dX11_left_133 : decode cX11_left 133 = .ok (.lmul, 1) := by decide +kernel
theorem dX11_left_134 : decode cX11_left 134 = .ok (.lload_n 3, 1) := by decide +kernel
theorem dX11_left_135 : decode cX11_left 135 = .ok (.lrem, 1) := by decide +kernel
theorem dX11_left_136 : decode cX11_left 136 = .ok (.lstore 6, 2) := by decide +kernel
theorem dX11_left_138 : decode cX11_left 138 = .ok (.iinc 8 1, 3) := by decide +kernel
theorem dX11_left_141 : decode cX11_left 141 = .ok (.goto (-36), 3) := by decide +kernel
theorem dX11_left_144 : decode cX11_left 144 = .ok (.iload 5, 2) := by decide +kernel
theorem dX11_left_146 : decode cX11_left 146 = .ok (.ireturn, 1) := by decide +kernel
theorem dX11_tracks_0 : decode cX11_tracks 0 = .ok (.iload_n 1, 1) := by decide +kernel
theorem dX11_tracks_1 : decode cX11_tracks 1 = .ok (.iconst 1, 1) := by decide +kernel
theorem dX11_tracks_2 : decode cX11_tracks 2 = .ok (.if_icmp .lt 44, 3) := by decide +kernel
theorem dX11_tracks_5 : decode cX11_tracks 5 = .ok (.iload_n 1, 1) := by decide +kernel
theorem dX11_tracks_6 : decode cX11_tracks 6 = .ok (.bipush 8, 2) := by decide +kernel
theorem dX11_tracks_8 : decode cX11_tracks 8 = .ok (.if_icmp .gt 38, 3) := by decide +kernel
theorem dX11_tracks_11 : decode cX11_tracks 11 = .ok (.iload_n 2, 1) := by decide +kernel
theorem dX11_tracks_12 : decode cX11_tracks 12 = .ok (.iconst 1, 1) := by decide +kernel
theorem dX11_tracks_13 : decode cX11_tracks 13 = .ok (.if_icmp .lt 33, 3) := by decide +kernel
theorem dX11_tracks_16 : decode cX11_tracks 16 = .ok (.iload_n 2, 1) := by decide +kernel
theorem dX11_tracks_17 : decode cX11_tracks 17 = .ok (.bipush 8, 2) := by decide +kernel
theorem dX11_tracks_19 : decode cX11_tracks 19 = .ok (.if_icmp .gt 27, 3) := by decide +kernel
theorem dX11_tracks_22 : decode cX11_tracks 22 = .ok (.iload_n 3, 1) := by decide +kernel
theorem dX11_tracks_23 : decode cX11_tracks 23 = .ok (.iconst 1, 1) := by decide +kernel
theorem dX11_tracks_24 : decode cX11_tracks 24 = .ok (.if_icmp .lt 22, 3) := by decide +kernel
theorem dX11_tracks_27 : decode cX11_tracks 27 = .ok (.iload_n 3, 1) := by decide +kernel
theorem dX11_tracks_28 : decode cX11_tracks 28 = .ok (.bipush 80, 2) := by decide +kernel
theorem dX11_tracks_30 : decode cX11_tracks 30 = .ok (.if_icmp .gt 16, 3) := by decide +kernel
theorem dX11_tracks_33 : decode cX11_tracks 33 = .ok (.iload 4, 2) := by decide +kernel
theorem dX11_tracks_35 : decode cX11_tracks 35 = .ok (.iconst 1, 1) := by decide +kernel
theorem dX11_tracks_36 : decode cX11_tracks 36 = .ok (.if_icmp .lt 10, 3) := by decide +kernel
theorem dX11_tracks_39 : decode cX11_tracks 39 = .ok (.iload 4, 2) := by decide +kernel
theorem dX11_tracks_41 : decode cX11_tracks 41 = .ok (.bipush 100, 2) := by decide +kernel
theorem dX11_tracks_43 : decode cX11_tracks 43 = .ok (.if_icmp .le 5, 3) := by decide +kernel
theorem dX11_tracks_46 : decode cX11_tracks 46 = .ok (.iconst (-1), 1) := by decide +kernel
theorem dX11_tracks_47 : decode cX11_tracks 47 = .ok (.ireturn, 1) := by decide +kernel
theorem dX11_tracks_48 : decode cX11_tracks 48 = .ok (.bipush 10, 2) := by decide +kernel
theorem dX11_tracks_50 : decode cX11_tracks 50 = .ok (.iload_n 2, 1) := by decide +kernel
theorem dX11_tracks_51 : decode cX11_tracks 51 = .ok (.imul, 1) := by decide +kernel
theorem dX11_tracks_52 : decode cX11_tracks 52 = .ok (.iload_n 3, 1) := by decide +kernel
theorem dX11_tracks_53 : decode cX11_tracks 53 = .ok (.iadd, 1) := by decide +kernel
theorem dX11_tracks_54 : decode cX11_tracks 54 = .ok (.iconst 1, 1) := by decide +kernel
theorem dX11_tracks_55 : decode cX11_tracks 55 = .ok (.isub, 1) := by decide +kernel
theorem dX11_tracks_56 : decode cX11_tracks 56 = .ok (.iload_n 3, 1) := by decide +kernel
theorem dX11_tracks_57 : decode cX11_tracks 57 = .ok (.idiv, 1) := by decide +kernel
theorem dX11_tracks_58 : decode cX11_tracks 58 = .ok (.istore 5, 2) := by decide +kernel
theorem dX11_tracks_60 : decode cX11_tracks 60 = .ok (.iload 5, 2) := by decide +kernel
theorem dX11_tracks_62 : decode cX11_tracks 62 = .ok (.bipush 10, 2) := by decide +kernel
theorem dX11_tracks_64 : decode cX11_tracks 64 = .ok (.imul, 1) := by decide +kernel
theorem dX11_tracks_65 : decode cX11_tracks 65 = .ok (.iload_n 1, 1) := by decide +kernel
theorem dX11_tracks_66 : decode cX11_tracks 66 = .ok (.imul, 1) := by decide +kernel
theorem dX11_tracks_67 : decode cX11_tracks 67 = .ok (.iload 5, 2) := by decide +kernel
theorem dX11_tracks_69 : decode cX11_tracks 69 = .ok (.iconst 1, 1) := by decide +kernel
theorem dX11_tracks_70 : decode cX11_tracks 70 = .ok (.isub, 1) := by decide +kernel
theorem dX11_tracks_71 : decode cX11_tracks 71 = .ok (.iload_n 3, 1) := by decide +kernel
theorem dX11_tracks_72 : decode cX11_tracks 72 = .ok (.imul, 1) := by decide +kernel
theorem dX11_tracks_73 : decode cX11_tracks 73 = .ok (.iadd, 1) := by decide +kernel
theorem dX11_tracks_74 : decode cX11_tracks 74 = .ok (.istore 6, 2) := by decide +kernel
theorem dX11_tracks_76 : decode cX11_tracks 76 = .ok (.bipush 60, 2) := by decide +kernel
theorem dX11_tracks_78 : decode cX11_tracks 78 = .ok (.iload 6, 2) := by decide +kernel
theorem dX11_tracks_80 : decode cX11_tracks 80 = .ok (.imul, 1) := by decide +kernel
theorem dX11_tracks_81 : decode cX11_tracks 81 = .ok (.iload 4, 2) := by decide +kernel
theorem dX11_tracks_83 : decode cX11_tracks 83 = .ok (.iadd, 1) := by decide +kernel
theorem dX11_tracks_84 : decode cX11_tracks 84 = .ok (.iconst 1, 1) := by decide +kernel
theorem dX11_tracks_85 : decode cX11_tracks 85 = .ok (.isub, 1) := by decide +kernel
theorem dX11_tracks_86 : decode cX11_tracks 86 = .ok (.iload 4, 2) := by decide +kernel
theorem dX11_tracks_88 : decode cX11_tracks 88 = .ok (.idiv, 1) := by decide +kernel
theorem dX11_tracks_89 : decode cX11_tracks 89 = .ok (.ireturn, 1) := by decide +kernel
theorem dX11_about_0 : decode cX11_about 0 = .ok (.iload_n 1, 1) := by decide +kernel
theorem dX11_about_1 : decode cX11_about 1 = .ok (.tableswitch 65 0 4 #[35, 45, 50, 55, 60], 35) := by decide +kernel
theorem dX11_about_36 : decode cX11_about 36 = .ok (.aload_n 0, 1) := by decide +kernel
theorem dX11_about_37 : decode cX11_about 37 = .ok (.getfield 61, 3) := by decide +kernel
theorem dX11_about_40 : decode cX11_about 40 = .ok (.aload_n 0, 1) := by decide +kernel
theorem dX11_about_41 : decode cX11_about 41 = .ok (.getfield 146, 3) := by decide +kernel
theorem dX11_about_44 : decode cX11_about 44 = .ok (.iaload, 1) := by decide +kernel
theorem dX11_about_45 : decode cX11_about 45 = .ok (.ireturn, 1) := by decide +kernel
theorem dX11_about_46 : decode cX11_about 46 = .ok (.aload_n 0, 1) := by decide +kernel
theorem dX11_about_47 : decode cX11_about 47 = .ok (.getfield 224, 3) := by decide +kernel
theorem dX11_about_50 : decode cX11_about 50 = .ok (.ireturn, 1) := by decide +kernel
theorem dX11_about_51 : decode cX11_about 51 = .ok (.aload_n 0, 1) := by decide +kernel
theorem dX11_about_52 : decode cX11_about 52 = .ok (.getfield 252, 3) := by decide +kernel
theorem dX11_about_55 : decode cX11_about 55 = .ok (.ireturn, 1) := by decide +kernel
theorem dX11_about_56 : decode cX11_about 56 = .ok (.aload_n 0, 1) := by decide +kernel
theorem dX11_about_57 : decode cX11_about 57 = .ok (.invokevirtual 255, 3) := by decide +kernel
theorem dX11_about_60 : decode cX11_about 60 = .ok (.ireturn, 1) := by decide +kernel
theorem dX11_about_61 : decode cX11_about 61 = .ok (.aload_n 0, 1) := by decide +kernel
theorem dX11_about_62 : decode cX11_about 62 = .ok (.getfield 143, 3) := by decide +kernel
theorem dX11_about_65 : decode cX11_about 65 = .ok (.ireturn, 1) := by decide +kernel
theorem dX11_about_66 : decode cX11_about 66 = .ok (.iconst (-1), 1) := by decide +kernel
theorem dX11_about_67 : decode cX11_about 67 = .ok (.ireturn, 1) := by decide +kernel
theorem dX11_feed_0 : decode cX11_feed 0 = .ok (.aload_n 0, 1) := by decide +kernel
theorem dX11_feed_1 : decode cX11_feed 1 = .ok (.getfield 143, 3) := by decide +kernel
theorem dX11_feed_4 : decode cX11_feed 4 = .ok (.bipush 20, 2) := by decide +kernel
theorem dX11_feed_6 : decode cX11_feed 6 = .ok (.iadd, 1) := by decide +kernel
theorem dX11_feed_7 : decode cX11_feed 7 = .ok (.sipush 1000, 3) := by decide +kernel
theorem dX11_feed_10 : decode cX11_feed 10 = .ok (.if_icmp .le 5, 3) := by decide +kernel
theorem dX11_feed_13 : decode cX11_feed 13 = .ok (.iconst (-1), 1) := by decide +kernel
theorem dX11_feed_14 : decode cX11_feed 14 = .ok (.ireturn, 1) := by decide +kernel
theorem dX11_feed_15 : decode cX11_feed 15 = .ok (.iconst 0, 1) := by decide +kernel
theorem dX11_feed_16 : decode cX11_feed 16 = .ok (.istore 6, 2) := by decide +kernel
theorem dX11_feed_18 : decode cX11_feed 18 = .ok (.iload 6, 2) := by decide +kernel
theorem dX11_feed_20 : decode cX11_feed 20 = .ok (.bipush 20, 2) := by decide +kernel
theorem dX11_feed_22 : decode cX11_feed 22 = .ok (.if_icmp .ge 83, 3) := by decide +kernel
theorem dX11_feed_25 : decode cX11_feed 25 = .ok (.iload 6, 2) := by decide +kernel
theorem dX11_feed_27 : decode cX11_feed 27 = .ok (.iconst 4, 1) := by decide +kernel
theorem dX11_feed_28 : decode cX11_feed 28 = .ok (.if_icmp .ge 7, 3) := by decide +kernel
theorem dX11_feed_31 : decode cX11_feed 31 = .ok (.iload_n 1, 1) := by decide +kernel
theorem dX11_feed_32 : decode cX11_feed 32 = .ok (.goto 39, 3) := by decide +kernel
theorem dX11_feed_35 : decode cX11_feed 35 = .ok (.iload 6, 2) := by decide +kernel
theorem dX11_feed_37 : decode cX11_feed 37 = .ok (.bipush 8, 2) := by decide +kernel
theorem dX11_feed_39 : decode cX11_feed 39 = .ok (.if_icmp .ge 7, 3) := by decide +kernel
theorem dX11_feed_42 : decode cX11_feed 42 = .ok (.iload_n 2, 1) := by decide +kernel
theorem dX11_feed_43 : decode cX11_feed 43 = .ok (.goto 28, 3) := by decide +kernel
theorem dX11_feed_46 : decode cX11_feed 46 = .ok (.iload 6, 2) := by decide +kernel
theorem dX11_feed_48 : decode cX11_feed 48 = .ok (.bipush 12, 2) := by decide +kernel
theorem dX11_feed_50 : decode cX11_feed 50 = .ok (.if_icmp .ge 7, 3) := by decide +kernel
theorem dX11_feed_53 : decode cX11_feed 53 = .ok (.iload_n 3, 1) := by decide +kernel
theorem dX11_feed_54 : decode cX11_feed 54 = .ok (.goto 17, 3) := by decide +kernel
theorem dX11_feed_57 : decode cX11_feed 57 = .ok (.iload 6, 2) := by decide +kernel
theorem dX11_feed_59 : decode cX11_feed 59 = .ok (.bipush 16, 2) := by decide +kernel
theorem dX11_feed_61 : decode cX11_feed 61 = .ok (.if_icmp .ge 8, 3) := by decide +kernel
theorem dX11_feed_64 : decode cX11_feed 64 = .ok (.iload 4, 2) := by decide +kernel
theorem dX11_feed_66 : decode cX11_feed 66 = .ok (.goto 5, 3) := by decide +kernel
theorem dX11_feed_69 : decode cX11_feed 69 = .ok (.iload 5, 2) := by decide +kernel
theorem dX11_feed_71 : decode cX11_feed 71 = .ok (.istore 7, 2) := by decide +kernel
theorem dX11_feed_73 : decode cX11_feed 73 = .ok (.aload_n 0, 1) := by decide +kernel
theorem dX11_feed_74 : decode cX11_feed 74 = .ok (.getfield 58, 3) := by decide +kernel
theorem dX11_feed_77 : decode cX11_feed 77 = .ok (.aload_n 0, 1) := by decide +kernel
theorem dX11_feed_78 : decode cX11_feed 78 = .ok (.getfield 143, 3) := by decide +kernel
theorem dX11_feed_81 : decode cX11_feed 81 = .ok (.iload 6, 2) := by decide +kernel
theorem dX11_feed_83 : decode cX11_feed 83 = .ok (.iadd, 1) := by decide +kernel
theorem dX11_feed_84 : decode cX11_feed 84 = .ok (.iload 7, 2) := by decide +kernel
theorem dX11_feed_86 : decode cX11_feed 86 = .ok (.bipush 24, 2) := by decide +kernel
theorem dX11_feed_88 : decode cX11_feed 88 = .ok (.bipush 8, 2) := by decide +kernel
theorem dX11_feed_90 : decode cX11_feed 90 = .ok (.iload 6, 2) := by decide +kernel
theorem dX11_feed_92 : decode cX11_feed 92 = .ok (.iconst 3, 1) := by decide +kernel
theorem dX11_feed_93 : decode cX11_feed 93 = .ok (.iand, 1) := by decide +kernel
theorem dX11_feed_94 : decode cX11_feed 94 = .ok (.imul, 1) := by decide +kernel
theorem dX11_feed_95 : decode cX11_feed 95 = .ok (.isub, 1) := by decide +kernel
theorem dX11_feed_96 : decode cX11_feed 96 = .ok (.ishr, 1) := by decide +kernel
theorem dX11_feed_97 : decode cX11_feed 97 = .ok (.i2b, 1) := by decide +kernel
theorem dX11_feed_98 : decode cX11_feed 98 = .ok (.bastore, 1) := by decide +kernel
theorem dX11_feed_99 : decode cX11_feed 99 = .ok (.iinc 6 1, 3) := by decide +kernel
theorem dX11_feed_102 : decode cX11_feed 102 = .ok (.goto (-84), 3) := by decide +kernel
theorem dX11_feed_105 : decode cX11_feed 105 = .ok (.aload_n 0, 1) := by decide +kernel
theorem dX11_feed_106 : decode cX11_feed 106 = .ok (.dup, 1) := by decide +kernel
theorem dX11_feed_107 : decode cX11_feed 107 = .ok (.getfield 143, 3) := by decide +kernel
theorem dX11_feed_110 : decode cX11_feed 110 = .ok (.bipush 20, 2) := by decide +kernel
theorem dX11_feed_112 : decode cX11_feed 112 = .ok (.iadd, 1) := by decide +kernel
theorem dX11_feed_113 : decode cX11_feed 113 = .ok (.putfield 143, 3) := by decide +kernel
theorem dX11_feed_116 : decode cX11_feed 116 = .ok (.aload_n 0, 1) := by decide +kernel
theorem dX11_feed_117 : decode cX11_feed 117 = .ok (.getfield 143, 3) := by decide +kernel
theorem dX11_feed_120 : decode cX11_feed 120 = .ok (.ireturn, 1) := by decide +kernel
theorem dX11_end_0 : decode cX11_end 0 = .ok (.iload_n 1, 1) := by decide +kernel
theorem dX11_end_1 : decode cX11_end 1 = .ok (.ifCond .lt 11, 3) := by decide +kernel
theorem dX11_end_4 : decode cX11_end 4 = .ok (.iload_n 1, 1) := by decide +kernel
theorem dX11_end_5 : decode cX11_end 5 = .ok (.aload_n 0, 1) := by decide +kernel
theorem dX11_end_6 : decode cX11_end 6 = .ok (.getfield 143, 3) := by decide +kernel
theorem dX11_end_9 : decode cX11_end 9 = .ok (.if_icmp .le 5, 3) := by decide +kernel
theorem dX11_end_12 : decode cX11_end 12 = .ok (.iconst (-1), 1) := by decide +kernel
theorem dX11_end_13 : decode cX11_end 13 = .ok (.ireturn, 1) := by decide +kernel
theorem dX11_end_14 : decode cX11_end 14 = .ok (.aload_n 0, 1) := by decide +kernel
theorem dX11_end_15 : decode cX11_end 15 = .ok (.iload_n 1, 1) := by decide +kernel
theorem dX11_end_16 : decode cX11_end 16 = .ok (.putfield 143, 3) := by decide +kernel
theorem dX11_end_19 : decode cX11_end 19 = .ok (.iload_n 1, 1) := by decide +kernel
theorem dX11_end_20 : decode cX11_end 20 = .ok (.ireturn, 1) := by decide +kernel
