theorem dX7_begin_0 : decode cX7_begin 0 = .ok (.aload_n 0, 1) := by decide +kernel
theorem dX7_begin_1 : decode cX7_begin 1 = .ok (.aload_n 1, 1) := by decide +kernel
theorem dX7_begin_2 : decode cX7_begin 2 = .ok (.putfield 9, 3) := by decide +kernel
theorem dX7_begin_5 : decode cX7_begin 5 = .ok (.aload_n 0, 1) := by decide +kernel
theorem dX7_begin_6 : decode cX7_begin 6 = .ok (.iload_n 2, 1) := by decide +kernel
theorem dX7_begin_7 : decode cX7_begin 7 = .ok (.aload_n 1, 1) := by decide +kernel
theorem dX7_begin_8 : decode cX7_begin 8 = .ok (.arraylength, 1) := by decide +kernel
theorem dX7_begin_9 : decode cX7_begin 9 = .ok (.invokestatic 37, 3) := by decide +kernel
theorem dX7_begin_12 : decode cX7_begin 12 = .ok (.putfield 15, 3) := by decide +kernel
theorem dX7_begin_15 : decode cX7_begin 15 = .ok (.aload_n 0, 1) := by decide +kernel
theorem dX7_begin_16 : decode cX7_begin 16 = .ok (.iconst 0, 1) := by decide +kernel
theorem dX7_begin_17 : decode cX7_begin 17 = .ok (.putfield 22, 3) := by decide +kernel
theorem dX7_begin_20 : decode cX7_begin 20 = .ok (.aload_n 0, 1) := by decide +kernel
theorem dX7_begin_21 : decode cX7_begin 21 = .ok (.iconst 0, 1) := by decide +kernel
theorem dX7_begin_22 : decode cX7_begin 22 = .ok (.putfield 31, 3) := by decide +kernel
theorem dX7_begin_25 : decode cX7_begin 25 = .ok (.aload_n 0, 1) := by decide +kernel
theorem dX7_begin_26 : decode cX7_begin 26 = .ok (.iconst (-1), 1) := by decide +kernel
theorem dX7_begin_27 : decode cX7_begin 27 = .ok (.putfield 34, 3) := by decide +kernel
theorem dX7_begin_30 : decode cX7_begin 30 = .ok (.aload_n 0, 1) := by decide +kernel
theorem dX7_begin_31 : decode cX7_begin 31 = .ok (.invokevirtual 43, 3) := by decide +kernel
theorem dX7_begin_34 : decode cX7_begin 34 = .ok (.return_, 1) := by decide +kernel
theorem dX7_go_0 : decode cX7_go 0 = .ok (.aload_n 0, 1) := by decide +kernel
theorem dX7_go_1 : decode cX7_go 1 = .ok (.aload_n 0, 1) := by decide +kernel
theorem dX7_go_2 : decode cX7_go 2 = .ok (.getfield 22, 3) := by decide +kernel
theorem dX7_go_5 : decode cX7_go 5 = .ok (.putfield 19, 3) := by decide +kernel
theorem dX7_go_8 : decode cX7_go 8 = .ok (.aload_n 0, 1) := by decide +kernel
theorem dX7_go_9 : decode cX7_go 9 = .ok (.getfield 19, 3) := by decide +kernel
theorem dX7_go_12 : decode cX7_go 12 = .ok (.aload_n 0, 1) := by decide +kernel
theorem dX7_go_13 : decode cX7_go 13 = .ok (.getfield 15, 3) := by decide +kernel
theorem dX7_go_16 : decode cX7_go 16 = .ok (.if_icmp .ge 44, 3) := by decide +kernel
theorem dX7_go_19 : decode cX7_go 19 = .ok (.aload_n 0, 1) := by decide +kernel
theorem dX7_go_20 : decode cX7_go 20 = .ok (.getfield 9, 3) := by decide +kernel
theorem dX7_go_23 : decode cX7_go 23 = .ok (.aload_n 0, 1) := by decide +kernel
theorem dX7_go_24 : decode cX7_go 24 = .ok (.getfield 19, 3) := by decide +kernel
theorem dX7_go_27 : decode cX7_go 27 = .ok (.baload, 1) := by decide +kernel
theorem dX7_go_28 : decode cX7_go 28 = .ok (.bipush 10, 2) := by decide +kernel
theorem dX7_go_30 : decode cX7_go 30 = .ok (.if_icmp .eq 17, 3) := by decide +kernel
theorem dX7_go_33 : decode cX7_go 33 = .ok (.aload_n 0, 1) := by decide +kernel
theorem dX7_go_34 : decode cX7_go 34 = .ok (.getfield 9, 3) := by decide +kernel
theorem dX7_go_37 : decode cX7_go 37 = .ok (.aload_n 0, 1) := by decide +kernel
theorem dX7_go_38 : decode cX7_go 38 = .ok (.getfield 19, 3) := by decide +kernel
theorem dX7_go_41 : decode cX7_go 41 = .ok (.baload, 1) := by decide +kernel
theorem dX7_go_42 : decode cX7_go 42 = .ok (.bipush 32, 2) := by decide +kernel
theorem dX7_go_44 : decode cX7_go 44 = .ok (.if_icmp .ne 16, 3) := by decide +kernel
theorem dX7_go_47 : decode cX7_go 47 = .ok (.aload_n 0, 1) := by decide +kernel
theorem dX7_go_48 : decode cX7_go 48 = .ok (.dup, 1) := by decide +kernel
theorem dX7_go_49 : decode cX7_go 49 = .ok (.getfield 19, 3) := by decide +kernel
theorem dX7_go_52 : decode cX7_go 52 = .ok (.iconst 1, 1) := by decide +kernel
theorem dX7_go_53 : decode cX7_go 53 = .ok (.iadd, 1) := by decide +kernel
theorem dX7_go_54 : decode cX7_go 54 = .ok (.putfield 19, 3) := by decide +kernel
theorem dX7_go_57 : decode cX7_go 57 = .ok (.goto (-49), 3) := by decide +kernel
theorem dX7_go_60 : decode cX7_go 60 = .ok (.aload_n 0, 1) := by decide +kernel
theorem dX7_go_61 : decode cX7_go 61 = .ok (.aload_n 0, 1) := by decide +kernel
theorem dX7_go_62 : decode cX7_go 62 = .ok (.getfield 19, 3) := by decide +kernel
theorem dX7_go_65 : decode cX7_go 65 = .ok (.putfield 22, 3) := by decide +kernel
theorem dX7_go_68 : decode cX7_go 68 = .ok (.aload_n 0, 1) := by decide +kernel
theorem dX7_go_69 : decode cX7_go 69 = .ok (.getfield 19, 3) := by decide +kernel
theorem dX7_go_72 : decode cX7_go 72 = .ok (.aload_n 0, 1) := by decide +kernel
theorem dX7_go_73 : decode cX7_go 73 = .ok (.getfield 15, 3) := by decide +kernel
theorem dX7_go_76 : decode cX7_go 76 = .ok (.if_icmp .lt 11, 3) := by decide +kernel
theorem dX7_go_79 : decode cX7_go 79 = .ok (.aload_n 0, 1) := by decide +kernel
theorem dX7_go_80 : decode cX7_go 80 = .ok (.iconst 0, 1) := by decide +kernel
theorem dX7_go_81 : decode cX7_go 81 = .ok (.putfield 25, 3) := by decide +kernel
theorem dX7_go_84 : decode cX7_go 84 = .ok (.goto 219, 3) := by decide +kernel
theorem dX7_go_87 : decode cX7_go 87 = .ok (.aload_n 0, 1) := by decide +kernel
theorem dX7_go_88 : decode cX7_go 88 = .ok (.getfield 9, 3) := by decide +kernel
theorem dX7_go_91 : decode cX7_go 91 = .ok (.aload_n 0, 1) := by decide +kernel
theorem dX7_go_92 : decode cX7_go 92 = .ok (.getfield 19, 3) := by decide +kernel
theorem dX7_go_95 : decode cX7_go 95 = .ok (.baload, 1) := by decide +kernel
theorem dX7_go_96 : decode cX7_go 96 = .ok (.invokestatic 46, 3) := by decide +kernel
theorem dX7_go_99 : decode cX7_go 99 = .ok (.ifCond .eq 47, 3) := by decide +kernel
theorem dX7_go_102 : decode cX7_go 102 = .ok (.aload_n 0, 1) := by decide +kernel
theorem dX7_go_103 : decode cX7_go 103 = .ok (.iconst 1, 1) := by decide +kernel
theorem dX7_go_104 : decode cX7_go 104 = .ok (.putfield 25, 3) := by decide +kernel
theorem dX7_go_107 : decode cX7_go 107 = .ok (.aload_n 0, 1) := by decide +kernel
theorem dX7_go_108 : decode cX7_go 108 = .ok (.getfield 22, 3) := by decide +kernel
theorem dX7_go_111 : decode cX7_go 111 = .ok (.aload_n 0, 1) := by decide +kernel
theorem dX7_go_112 : decode cX7_go 112 = .ok (.getfield 15, 3) := by decide +kernel
theorem dX7_go_115 : decode cX7_go 115 = .ok (.if_icmp .ge 188, 3) := by decide +kernel
theorem dX7_go_118 : decode cX7_go 118 = .ok (.aload_n 0, 1) := by decide +kernel
theorem dX7_go_119 : decode cX7_go 119 = .ok (.getfield 9, 3) := by decide +kernel
theorem dX7_go_122 : decode cX7_go 122 = .ok (.aload_n 0, 1) := by decide +kernel
theorem dX7_go_123 : decode cX7_go 123 = .ok (.getfield 22, 3) := by decide +kernel
theorem dX7_go_126 : decode cX7_go 126 = .ok (.baload, 1) := by decide +kernel
theorem dX7_go_127 : decode cX7_go 127 = .ok (.invokestatic 46, 3) := by decide +kernel
theorem dX7_go_130 : decode cX7_go 130 = .ok (.ifCond .eq 173, 3) := by decide +kernel
theorem dX7_go_133 : decode cX7_go 133 = .ok (.aload_n 0, 1) := by decide +kernel
theorem dX7_go_134 : decode cX7_go 134 = .ok (.dup, 1) := by decide +kernel
theorem dX7_go_135 : decode cX7_go 135 = .ok (.getfield 22, 3) := by decide +kernel
theorem dX7_go_138 : decode cX7_go 138 = .ok (.iconst 1, 1) := by decide +kernel
theorem dX7_go_139 : decode cX7_go 139 = .ok (.iadd, 1) := by decide +kernel
theorem dX7_go_140 : decode cX7_go 140 = .ok (.putfield 22, 3) := by decide +kernel
theorem dX7_go_143 : decode cX7_go 143 = .ok (.goto (-36), 3) := by decide +kernel
theorem dX7_go_146 : decode cX7_go 146 = .ok (.aload_n 0, 1) := by decide +kernel
theorem dX7_go_147 : decode cX7_go 147 = .ok (.getfield 9, 3) := by decide +kernel
theorem dX7_go_150 : decode cX7_go 150 = .ok (.aload_n 0, 1) := by decide +kernel
theorem dX7_go_151 : decode cX7_go 151 = .ok (.getfield 19, 3) := by decide +kernel
theorem dX7_go_154 : decode cX7_go 154 = .ok (.baload, 1) := by decide +kernel
theorem dX7_go_155 : decode cX7_go 155 = .ok (.invokestatic 50, 3) := by decide +kernel
theorem dX7_go_158 : decode cX7_go 158 = .ok (.ifCond .eq 96, 3) := by decide +kernel
theorem dX7_go_161 : decode cX7_go 161 = .ok (.aload_n 0, 1) := by decide +kernel
theorem dX7_go_162 : decode cX7_go 162 = .ok (.iconst 0, 1) := by decide +kernel
theorem dX7_go_163 : decode cX7_go 163 = .ok (.putfield 28, 3) := by decide +kernel
theorem dX7_go_166 : decode cX7_go 166 = .ok (.aload_n 0, 1) := by decide +kernel
theorem dX7_go_167 : decode cX7_go 167 = .ok (.getfield 22, 3) := by decide +kernel
theorem dX7_go_170 : decode cX7_go 170 = .ok (.aload_n 0, 1) := by decide +kernel
theorem dX7_go_171 : decode cX7_go 171 = .ok (.getfield 15, 3) := by decide +kernel
theorem dX7_go_174 : decode cX7_go 174 = .ok (.if_icmp .ge 55, 3) := by decide +kernel
theorem dX7_go_177 : decode cX7_go 177 = .ok (.aload_n 0, 1) := by decide +kernel
theorem dX7_go_178 : decode cX7_go 178 = .ok (.getfield 9, 3) := by decide +kernel
theorem dX7_go_181 : decode cX7_go 181 = .ok (.aload_n 0, 1) := by decide +kernel
theorem dX7_go_182 : decode cX7_go 182 = .ok (.getfield 22, 3) := by decide +kernel
theorem dX7_go_185 : decode cX7_go 185 = .ok (.baload, 1) := by decide +kernel
theorem dX7_go_186 : decode cX7_go 186 = .ok (.invokestatic 50, 3) := by decide +kernel
theorem dX7_go_189 : decode cX7_go 189 = .ok (.ifCond .eq 40, 3) := by decide +kernel
theorem dX7_go_192 : decode cX7_go 192 = .ok (.aload_n 0, 1) := by decide +kernel
theorem dX7_go_193 : decode cX7_go 193 = .ok (.aload_n 0, 1) := by decide +kernel
theorem dX7_go_194 : decode cX7_go 194 = .ok (.getfield 28, 3) := by decide +kernel
theorem dX7_go_197 : decode cX7_go 197 = .ok (.bipush 10, 2) := by decide +kernel
theorem dX7_go_199 : decode cX7_go 199 = .ok (.imul, 1) := by decide +kernel
theorem dX7_go_200 : decode cX7_go 200 = .ok (.aload_n 0, 1) := by decide +kernel
theorem dX7_go_201 : decode cX7_go 201 = .ok (.getfield 9, 3) := by decide +kernel
theorem dX7_go_204 : decode cX7_go 204 = .ok (.aload_n 0, 1) := by decide +kernel
theorem dX7_go_205 : decode cX7_go 205 = .ok (.getfield 22, 3) := by decide +kernel
theorem dX7_go_208 : decode cX7_go 208 = .ok (.baload, 1) := by decide +kernel
theorem dX7_go_209 : decode cX7_go 209 = .ok (.bipush 48, 2) := by decide +kernel
theorem dX7_go_211 : decode cX7_go 211 = .ok (.isub, 1) := by decide +kernel
theorem dX7_go_212 : decode cX7_go 212 = .ok (.iadd, 1) := by decide +kernel
theorem dX7_go_213 : decode cX7_go 213 = .ok (.putfield 28, 3) := by decide +kernel
theorem dX7_go_216 : decode cX7_go 216 = .ok (.aload_n 0, 1) := by decide +kernel
theorem dX7_go_217 : decode cX7_go 217 = .ok (.dup, 1) := by decide +kernel
theorem dX7_go_218 : decode cX7_go 218 = .ok (.getfield 22, 3) := by decide +kernel
theorem dX7_go_221 : decode cX7_go 221 = .ok (.iconst 1, 1) := by decide +kernel
theorem dX7_go_222 : decode cX7_go 222 = .ok (.iadd, 1) := by decide +kernel
theorem dX7_go_223 : decode cX7_go 223 = .ok (.putfield 22, 3) := by decide +kernel
theorem dX7_go_226 : decode cX7_go 226 = .ok (.goto (-60), 3) := by decide +kernel
theorem dX7_go_229 : decode cX7_go 229 = .ok (.aload_n 0, 1) := by decide +kernel
theorem dX7_go_230 : decode cX7_go 230 = .ok (.aload_n 0, 1) := by decide +kernel
theorem dX7_go_231 : decode cX7_go 231 = .ok (.getfield 22, 3) := by decide +kernel
theorem dX7_go_234 : decode cX7_go 234 = .ok (.aload_n 0, 1) := by decide +kernel
theorem dX7_go_235 : decode cX7_go 235 = .ok (.getfield 19, 3) := by decide +kernel
theorem dX7_go_238 : decode cX7_go 238 = .ok (.isub, 1) := by decide +kernel
theorem dX7_go_239 : decode cX7_go 239 = .ok (.iconst 3, 1) := by decide +kernel
theorem dX7_go_240 : decode cX7_go 240 = .ok (.if_icmp .gt 7, 3) := by decide +kernel
theorem dX7_go_243 : decode cX7_go 243 = .ok (.iconst 2, 1) := by decide +kernel
theorem dX7_go_244 : decode cX7_go 244 = .ok (.goto 4, 3) := by decide +kernel
theorem dX7_go_247 : decode cX7_go 247 = .ok (.iconst 4, 1) := by decide +kernel
theorem dX7_go_248 : decode cX7_go 248 = .ok (.putfield 25, 3) := by decide +kernel
theorem dX7_go_251 : decode cX7_go 251 = .ok (.goto 52, 3) := by decide +kernel
theorem dX7_go_254 : decode cX7_go 254 = .ok (.aload_n 0, 1) := by decide +kernel
theorem dX7_go_255 : decode cX7_go 255 = .ok (.aload_n 0, 1) := by decide +kernel
theorem dX7_go_256 : decode cX7_go 256 = .ok (.getfield 9, 3) := by decide +kernel
theorem dX7_go_259 : decode cX7_go 259 = .ok (.aload_n 0, 1) := by decide +kernel
theorem dX7_go_260 : decode cX7_go 260 = .ok (.getfield 19, 3) := by decide +kernel
theorem dX7_go_263 : decode cX7_go 263 = .ok (.baload, 1) := by decide +kernel
theorem dX7_go_264 : decode cX7_go 264 = .ok (.sipush 255, 3) := by decide +kernel
theorem dX7_go_267 : decode cX7_go 267 = .ok (.iand, 1) := by decide +kernel
theorem dX7_go_268 : decode cX7_go 268 = .ok (.putfield 28, 3) := by decide +kernel
theorem dX7_go_271 : decode cX7_go 271 = .ok (.aload_n 0, 1) := by decide +kernel
theorem dX7_go_272 : decode cX7_go 272 = .ok (.ldc 53, 2) := by decide +kernel
theorem dX7_go_274 : decode cX7_go 274 = .ok (.aload_n 0, 1) := by decide +kernel
theorem dX7_go_275 : decode cX7_go 275 = .ok (.getfield 28, 3) := by decide +kernel
theorem dX7_go_278 : decode cX7_go 278 = .ok (.i2c, 1) := by decide +kernel
theorem dX7_go_279 : decode cX7_go 279 = .ok (.invokevirtual 55, 3) := by decide +kernel
theorem dX7_go_282 : decode cX7_go 282 = .ok (.ifCond .lt 7, 3) := by decide +kernel
theorem dX7_go_285 : decode cX7_go 285 = .ok (.iconst 3, 1) := by decide +kernel
theorem dX7_go_286 : decode cX7_go 286 = .ok (.goto 4, 3) := by decide +kernel
theorem dX7_go_289 : decode cX7_go 289 = .ok (.iconst 4, 1) := by decide +kernel
theorem dX7_go_290 : decode cX7_go 290 = .ok (.putfield 25, 3) := by decide +kernel
theorem dX7_go_293 : decode cX7_go 293 = .ok (.aload_n 0, 1) := by decide +kernel
theorem dX7_go_294 : decode cX7_go 294 = .ok (.dup, 1) := by decide +kernel
theorem dX7_go_295 : decode cX7_go 295 = .ok (.getfield 22, 3) := by decide +kernel
theorem dX7_go_298 : decode cX7_go 298 = .ok (.iconst 1, 1) := by decide +kernel
theorem dX7_go_299 : decode cX7_go 299 = .ok (.iadd, 1) := by decide +kernel
theorem dX7_go_300 : decode cX7_go 300 = .ok (.putfield 22, 3) := by decide +kernel
theorem dX7_go_303 : decode cX7_go 303 = .ok (.return_, 1) := by decide +kernel
theorem dX7_isDigit_0 : decode cX7_isDigit 0 = .ok (.iload_n 0, 1) := by decide +kernel
theorem dX7_isDigit_1 : decode cX7_isDigit 1 = .ok (.bipush 48, 2) := by decide +kernel
theorem dX7_isDigit_3 : decode cX7_isDigit 3 = .ok (.if_icmp .lt 13, 3) := by decide +kernel
theorem dX7_isDigit_6 : decode cX7_isDigit 6 = .ok (.iload_n 0, 1) := by decide +kernel
theorem dX7_isDigit_7 : decode cX7_isDigit 7 = .ok (.bipush 57, 2) := by decide +kernel
theorem dX7_isDigit_9 : decode cX7_isDigit 9 = .ok (.if_icmp .gt 7, 3) := by decide +kernel
theorem dX7_isDigit_12 : decode cX7_isDigit 12 = .ok (.iconst 1, 1) := by decide +kernel
theorem dX7_isDigit_13 : decode cX7_isDigit 13 = .ok (.goto 4, 3) := by decide +kernel
theorem dX7_isDigit_16 : decode cX7_isDigit 16 = .ok (.iconst 0, 1) := by decide +kernel
theorem dX7_isDigit_17 : decode cX7_isDigit 17 = .ok (.ireturn, 1) := by decide +kernel
theorem dX7_isLetter_0 : decode cX7_isLetter 0 = .ok (.iload_n 0, 1) := by decide +kernel
theorem dX7_isLetter_1 : decode cX7_isLetter 1 = .ok (.bipush 97, 2) := by decide +kernel
theorem dX7_isLetter_3 : decode cX7_isLetter 3 = .ok (.if_icmp .lt 13, 3) := by decide +kernel
theorem dX7_isLetter_6 : decode cX7_isLetter 6 = .ok (.iload_n 0, 1) := by decide +kernel
theorem dX7_isLetter_7 : decode cX7_isLetter 7 = .ok (.bipush 122, 2) := by decide +kernel
theorem dX7_isLetter_9 : decode cX7_isLetter 9 = .ok (.if_icmp .gt 7, 3) := by decide +kernel
theorem dX7_isLetter_12 : decode cX7_isLetter 12 = .ok (.iconst 1, 1) := by decide +kernel
theorem dX7_isLetter_13 : decode cX7_isLetter 13 = .ok (.goto 4, 3) := by decide +kernel
theorem dX7_isLetter_16 : decode cX7_isLetter 16 = .ok (.iconst 0, 1) := by decide +kernel
theorem dX7_isLetter_17 : decode cX7_isLetter 17 = .ok (.ireturn, 1) := by decide +kernel
theorem dX7_isSign_0 : decode cX7_isSign 0 = .ok (.aload_n 0, 1) := by decide +kernel
theorem dX7_isSign_1 : decode cX7_isSign 1 = .ok (.getfield 25, 3) := by decide +kernel
theorem dX7_isSign_4 : decode cX7_isSign 4 = .ok (.iconst 3, 1) := by decide +kernel
theorem dX7_isSign_5 : decode cX7_isSign 5 = .ok (.if_icmp .ne 15, 3) := by decide +kernel
theorem dX7_isSign_8 : decode cX7_isSign 8 = .ok (.aload_n 0, 1) := by decide +kernel
theorem dX7_isSign_9 : decode cX7_isSign 9 = .ok (.getfield 28, 3) := by decide +kernel
theorem dX7_isSign_12 : decode cX7_isSign 12 = .ok (.iload_n 1, 1) := by decide +kernel
theorem dX7_isSign_13 : decode cX7_isSign 13 = .ok (.if_icmp .ne 7, 3) := by decide +kernel
theorem dX7_isSign_16 : decode cX7_isSign 16 = .ok (.iconst 1, 1) := by decide +kernel
theorem dX7_isSign_17 : decode cX7_isSign 17 = .ok (.goto 4, 3) := by decide +kernel
theorem dX7_isSign_20 : decode cX7_isSign 20 = .ok (.iconst 0, 1) := by decide +kernel
theorem dX7_isSign_21 : decode cX7_isSign 21 = .ok (.ireturn, 1) := by decide +kernel
theorem dX7_isWord_0 : decode cX7_isWord 0 = .ok (.aload_n 0, 1) := by decide +kernel
theorem dX7_isWord_1 : decode cX7_isWord 1 = .ok (.getfield 25, 3) := by decide +kernel
theorem dX7_isWord_4 : decode cX7_isWord 4 = .ok (.iconst 1, 1) := by decide +kernel
theorem dX7_isWord_5 : decode cX7_isWord 5 = .ok (.if_icmp .ne 19, 3) := by decide +kernel
theorem dX7_isWord_8 : decode cX7_isWord 8 = .ok (.aload_n 0, 1) := by decide +kernel
theorem dX7_isWord_9 : decode cX7_isWord 9 = .ok (.getfield 22, 3) := by decide +kernel
theorem dX7_isWord_12 : decode cX7_isWord 12 = .ok (.aload_n 0, 1) := by decide +kernel
theorem dX7_isWord_13 : decode cX7_isWord 13 = .ok (.getfield 19, 3) := by decide +kernel
theorem dX7_isWord_16 : decode cX7_isWord 16 = .ok (.isub, 1) := by decide +kernel
theorem dX7_isWord_17 : decode cX7_isWord 17 = .ok (.aload_n 1, 1) := by decide +kernel
theorem dX7_isWord_18 : decode cX7_isWord 18 = .ok (.invokevirtual 61, 3) := by decide +kernel
theorem dX7_isWord_21 : decode cX7_isWord 21 = .ok (.if_icmp .eq 5, 3) := by decide +kernel
theorem dX7_isWord_24 : decode cX7_isWord 24 = .ok (.iconst 0, 1) := by decide +kernel
theorem dX7_isWord_25 : decode cX7_isWord 25 = .ok (.ireturn, 1) := by decide +kernel
theorem dX7_isWord_26 : decode cX7_isWord 26 = .ok (.iconst 0, 1) := by decide +kernel
theorem dX7_isWord_27 : decode cX7_isWord 27 = .ok (.istore_n 2, 1) := by decide +kernel
theorem dX7_isWord_28 : decode cX7_isWord 28 = .ok (.iload_n 2, 1) := by decide +kernel
theorem dX7_isWord_29 : decode cX7_isWord 29 = .ok (.aload_n 1, 1) := by decide +kernel
theorem dX7_isWord_30 : decode cX7_isWord 30 = .ok (.invokevirtual 61, 3) := by decide +kernel
theorem dX7_isWord_33 : decode cX7_isWord 33 = .ok (.if_icmp .ge 30, 3) := by decide +kernel
theorem dX7_isWord_36 : decode cX7_isWord 36 = .ok (.aload_n 0, 1) := by decide +kernel
theorem dX7_isWord_37 : decode cX7_isWord 37 = .ok (.getfield 9, 3) := by decide +kernel
theorem dX7_isWord_40 : decode cX7_isWord 40 = .ok (.aload_n 0, 1) := by decide +kernel
theorem dX7_isWord_41 : decode cX7_isWord 41 = .ok (.getfield 19, 3) := by decide +kernel
theorem dX7_isWord_44 : decode cX7_isWord 44 = .ok (.iload_n 2, 1) := by decide +kernel
theorem dX7_isWord_45 : decode cX7_isWord 45 = .ok (.iadd, 1) := by decide +kernel
theorem dX7_isWord_46 : decode cX7_isWord 46 = .ok (.baload, 1) := by decide +kernel
theorem dX7_isWord_47 : decode cX7_isWord 47 = .ok (.aload_n 1, 1) := by decide +kernel
theorem dX7_isWord_48 : decode cX7_isWord 48 = .ok (.iload_n 2, 1) := by decide +kernel
theorem dX7_isWord_49 : decode cX7_isWord 49 = .ok (.invokevirtual 64, 3) := by decide +kernel
theorem dX7_isWord_52 : decode cX7_isWord 52 = .ok (.if_icmp .eq 5, 3) := by decide +kernel
theorem dX7_isWord_55 : decode cX7_isWord 55 = .ok (.iconst 0, 1) := by decide +kernel
theorem dX7_isWord_56 : decode cX7_isWord 56 = .ok (.ireturn, 1) := by decide +kernel
theorem dX7_isWord_57 : decode cX7_isWord 57 = .ok (.iinc 2 1, 3) := by decide +kernel
theorem dX7_isWord_60 : decode cX7_isWord 60 = .ok (.goto (-32), 3) := by decide +kernel
theorem dX7_isWord_63 : decode cX7_isWord 63 = .ok (.iconst 1, 1) := by decide +kernel
theorem dX7_isWord_64 : decode cX7_isWord 64 = .ok (.ireturn, 1) := by decide +kernel
theorem dX7_refuse_0 : decode cX7_refuse 0 = .ok (.aload_n 0, 1) := by decide +kernel
theorem dX7_refuse_1 : decode cX7_refuse 1 = .ok (.aload_n 0, 1) := by decide +kernel
theorem dX7_refuse_2 : decode cX7_refuse 2 = .ok (.getfield 25, 3) := by decide +kernel
theorem dX7_refuse_5 : decode cX7_refuse 5 = .ok (.iconst 4, 1) := by decide +kernel
theorem dX7_refuse_6 : decode cX7_refuse 6 = .ok (.if_icmp .ne 7, 3) := by decide +kernel
theorem dX7_refuse_9 : decode cX7_refuse 9 = .ok (.iconst 1, 1) := by decide +kernel
theorem dX7_refuse_10 : decode cX7_refuse 10 = .ok (.goto 4, 3) := by decide +kernel
theorem dX7_refuse_13 : decode cX7_refuse 13 = .ok (.iload_n 1, 1) := by decide +kernel
theorem dX7_refuse_14 : decode cX7_refuse 14 = .ok (.putfield 31, 3) := by decide +kernel
theorem dX7_refuse_17 : decode cX7_refuse 17 = .ok (.aload_n 0, 1) := by decide +kernel
theorem dX7_refuse_18 : decode cX7_refuse 18 = .ok (.aload_n 0, 1) := by decide +kernel
theorem dX7_refuse_19 : decode cX7_refuse 19 = .ok (.getfield 19, 3) := by decide +kernel
theorem dX7_refuse_22 : decode cX7_refuse 22 = .ok (.putfield 34, 3) := by decide +kernel
theorem dX7_refuse_25 : decode cX7_refuse 25 = .ok (.iconst 0, 1) := by decide +kernel
theorem dX7_refuse_26 : decode cX7_refuse 26 = .ok (.ireturn, 1) := by decide +kernel
theorem dX7_takeNumber_0 : decode cX7_takeNumber 0 = .ok (.aload_n 0, 1) := by decide +kernel
theorem dX7_takeNumber_1 : decode cX7_takeNumber 1 = .ok (.getfield 25, 3) := by decide +kernel
theorem dX7_takeNumber_4 : decode cX7_takeNumber 4 = .ok (.iconst 2, 1) := by decide +kernel
theorem dX7_takeNumber_5 : decode cX7_takeNumber 5 = .ok (.if_icmp .ne 11, 3) := by decide +kernel
theorem dX7_takeNumber_8 : decode cX7_takeNumber 8 = .ok (.aload_n 0, 1) := by decide +kernel
theorem dX7_takeNumber_9 : decode cX7_takeNumber 9 = .ok (.getfield 28, 3) := by decide +kernel
theorem dX7_takeNumber_12 : decode cX7_takeNumber 12 = .ok (.iload_n 1, 1) := by decide +kernel
theorem dX7_takeNumber_13 : decode cX7_takeNumber 13 = .ok (.if_icmp .le 23, 3) := by decide +kernel
theorem dX7_takeNumber_16 : decode cX7_takeNumber 16 = .ok (.aload_n 0, 1) := by decide +kernel
theorem dX7_takeNumber_17 : decode cX7_takeNumber 17 = .ok (.aload_n 0, 1) := by decide +kernel
theorem dX7_takeNumber_18 : decode cX7_takeNumber 18 = .ok (.getfield 25, 3) := by decide +kernel
theorem dX7_takeNumber_21 : decode cX7_takeNumber 21 = .ok (.iconst 2, 1) := by decide +kernel
theorem dX7_takeNumber_22 : decode cX7_takeNumber 22 = .ok (.if_icmp .ne 7, 3) := by decide +kernel
theorem dX7_takeNumber_25 : decode cX7_takeNumber 25 = .ok (.iconst 3, 1) := by decide +kernel
theorem dX7_takeNumber_26 : decode cX7_takeNumber 26 = .ok (.goto 4, 3) := by decide +kernel
theorem dX7_takeNumber_29 : decode cX7_takeNumber 29 = .ok (.iconst 2, 1) := by decide +kernel
theorem dX7_takeNumber_30 : decode cX7_takeNumber 30 = .ok (.invokevirtual 72, 3) := by decide +kernel
theorem dX7_takeNumber_33 : decode cX7_takeNumber 33 = .ok (.pop, 1) := by decide +kernel
theorem dX7_takeNumber_34 : decode cX7_takeNumber 34 = .ok (.iconst (-1), 1) := by decide +kernel
theorem dX7_takeNumber_35 : decode cX7_takeNumber 35 = .ok (.ireturn, 1) := by decide +kernel
theorem dX7_takeNumber_36 : decode cX7_takeNumber 36 = .ok (.aload_n 0, 1) := by decide +kernel
theorem dX7_takeNumber_37 : decode cX7_takeNumber 37 = .ok (.getfield 28, 3) := by decide +kernel
theorem dX7_takeNumber_40 : decode cX7_takeNumber 40 = .ok (.istore_n 2, 1) := by decide +kernel
theorem dX7_takeNumber_41 : decode cX7_takeNumber 41 = .ok (.aload_n 0, 1) := by decide +kernel
theorem dX7_takeNumber_42 : decode cX7_takeNumber 42 = .ok (.invokevirtual 43, 3) := by decide +kernel
theorem dX7_takeNumber_45 : decode cX7_takeNumber 45 = .ok (.iload_n 2, 1) := by decide +kernel
theorem dX7_takeNumber_46 : decode cX7_takeNumber 46 = .ok (.ireturn, 1) := by decide +kernel
theorem dX7_takeSign_0 : decode cX7_takeSign 0 = .ok (.aload_n 0, 1) := by decide +kernel
theorem dX7_takeSign_1 : decode cX7_takeSign 1 = .ok (.iload_n 1, 1) := by decide +kernel
theorem dX7_takeSign_2 : decode cX7_takeSign 2 = .ok (.invokevirtual 75, 3) := by decide +kernel
theorem dX7_takeSign_5 : decode cX7_takeSign 5 = .ok (.ifCond .ne 9, 3) := by decide +kernel
theorem dX7_takeSign_8 : decode cX7_takeSign 8 = .ok (.aload_n 0, 1) := by decide +kernel
theorem dX7_takeSign_9 : decode cX7_takeSign 9 = .ok (.iconst 2, 1) := by decide +kernel
theorem dX7_takeSign_10 : decode cX7_takeSign 10 = .ok (.invokevirtual 72, 3) := by decide +kernel
theorem dX7_takeSign_13 : decode cX7_takeSign 13 = .ok (.ireturn, 1) := by decide +kernel
theorem dX7_takeSign_14 : decode cX7_takeSign 14 = .ok (.aload_n 0, 1) := by decide +kernel
theorem dX7_takeSign_15 : decode cX7_takeSign 15 = .ok (.invokevirtual 43, 3) := by decide +kernel
theorem dX7_takeSign_18 : decode cX7_takeSign 18 = .ok (.iconst 1, 1) := by decide +kernel
theorem dX7_takeSign_19 : decode cX7_takeSign 19 = .ok (.ireturn, 1) := by decide +kernel
theorem dX7_takeWord_0 : decode cX7_takeWord 0 = .ok (.aload_n 0, 1) := by decide +kernel
theorem dX7_takeWord_1 : decode cX7_takeWord 1 = .ok (.aload_n 1, 1) := by decide +kernel
theorem dX7_takeWord_2 : decode cX7_takeWord 2 = .ok (.invokevirtual 68, 3) := by decide +kernel
theorem dX7_takeWord_5 : decode cX7_takeWord 5 = .ok (.ifCond .ne 9, 3) := by decide +kernel
theorem dX7_takeWord_8 : decode cX7_takeWord 8 = .ok (.aload_n 0, 1) := by decide +kernel
theorem dX7_takeWord_9 : decode cX7_takeWord 9 = .ok (.iconst 2, 1) := by decide +kernel
theorem dX7_takeWord_10 : decode cX7_takeWord 10 = .ok (.invokevirtual 72, 3) := by decide +kernel
theorem dX7_takeWord_13 : decode cX7_takeWord 13 = .ok (.ireturn, 1) := by decide +kernel
theorem dX7_takeWord_14 : decode cX7_takeWord 14 = .ok (.aload_n 0, 1) := by decide +kernel
theorem dX7_takeWord_15 : decode cX7_takeWord 15 = .ok (.invokevirtual 43, 3) := by decide +kernel
theorem dX7_takeWord_18 : decode cX7_takeWord 18 = .ok (.iconst 1, 1) := by decide +kernel
theorem dX7_takeWord_19 : decode cX7_takeWord 19 = .ok (.ireturn, 1) := by decide +kernel
theorem kw_3 : Cond.initialized "FootholdWall$Tokens" ∈ gw := gw_of (tb_of 3 (by decide +kernel)) (by decide +kernel)
theorem kw_44 : Cond.fieldLink "FootholdWall$Tokens" 9 "FootholdWall$Tokens" "text" "[B" ∈ gw := gw_of (tb_of 44 (by decide +kernel)) (by decide +kernel)
theorem kw_45 : Cond.fieldLink "FootholdWall$Tokens" 15 "FootholdWall$Tokens" "length" "I" ∈ gw := gw_of (tb_of 45 (by decide +kernel)) (by decide +kernel)
theorem kw_46 : Cond.fieldLink "FootholdWall$Tokens" 19 "FootholdWall$Tokens" "start" "I" ∈ gw := gw_of (tb_of 46 (by decide +kernel)) (by decide +kernel)
theorem kw_47 : Cond.fieldLink "FootholdWall$Tokens" 22 "FootholdWall$Tokens" "end" "I" ∈ gw := gw_of (tb_of 47 (by decide +kernel)) (by decide +kernel)
theorem kw_48 : Cond.fieldLink "FootholdWall$Tokens" 25 "FootholdWall$Tokens" "kind" "I" ∈ gw := gw_of (tb_of 48 (by decide +kernel)) (by decide +kernel)
theorem kw_51 : Cond.fieldLink "FootholdWall$Tokens" 28 "FootholdWall$Tokens" "value" "I" ∈ gw := gw_of (tb_of 51 (by decide +kernel)) (by decide +kernel)
theorem kw_54 : Cond.fieldLink "FootholdWall$Tokens" 31 "FootholdWall$Tokens" "fault" "I" ∈ gw := gw_of (tb_of 54 (by decide +kernel)) (by decide +kernel)
theorem kw_56 : Cond.fieldLink "FootholdWall$Tokens" 34 "FootholdWall$Tokens" "place" "I" ∈ gw := gw_of (tb_of 56 (by decide +kernel)) (by decide +kernel)
theorem kw_449 : Cond.methodLink "FootholdWall$Tokens" 37 Lib.Math.min.name ∈ gw := gw_of (tb_of 449 (by decide +kernel)) (by decide +kernel)
theorem kw_452 : Cond.methodLink "FootholdWall$Tokens" 43 yX7_go ∈ gw := gw_of (tb_of 452 (by decide +kernel)) (by decide +kernel)
theorem kw_453 : Cond.instanceMethod yX7_go ∈ gw := gw_of (tb_of 453 (by decide +kernel)) (by decide +kernel)
theorem kw_454 : Cond.selects "FootholdWall$Tokens" yX7_go yX7_go ∈ gw := gw_of (tb_of 454 (by decide +kernel)) (by decide +kernel)
theorem kw_455 : Cond.code yX7_go cX7_go 1 none ∈ gw := gw_of (tb_of 455 (by decide +kernel)) (by decide +kernel)
theorem kw_456 : Cond.methodLink "FootholdWall$Tokens" 46 yX7_isLetter ∈ gw := gw_of (tb_of 456 (by decide +kernel)) (by decide +kernel)
theorem kw_457 : Cond.static yX7_isLetter ∈ gw := gw_of (tb_of 457 (by decide +kernel)) (by decide +kernel)
theorem kw_458 : Cond.code yX7_isLetter cX7_isLetter 1 (some (.boolean)) ∈ gw := gw_of (tb_of 458 (by decide +kernel)) (by decide +kernel)
theorem kw_459 : Cond.methodLink "FootholdWall$Tokens" 50 yX7_isDigit ∈ gw := gw_of (tb_of 459 (by decide +kernel)) (by decide +kernel)
theorem kw_460 : Cond.static yX7_isDigit ∈ gw := gw_of (tb_of 460 (by decide +kernel)) (by decide +kernel)
theorem kw_461 : Cond.code yX7_isDigit cX7_isDigit 1 (some (.boolean)) ∈ gw := gw_of (tb_of 461 (by decide +kernel)) (by decide +kernel)
theorem kw_463 : Cond.methodLink "FootholdWall$Tokens" 55 yJ0_indexOf_0f7a4 ∈ gw := gw_of (tb_of 463 (by decide +kernel)) (by decide +kernel)
theorem kw_464 : Cond.instanceMethod yJ0_indexOf_0f7a4 ∈ gw := gw_of (tb_of 464 (by decide +kernel)) (by decide +kernel)
theorem kw_465 : Cond.selects "java/lang/String" yJ0_indexOf_0f7a4 yJ0_indexOf_0f7a4 ∈ gw := gw_of (tb_of 465 (by decide +kernel)) (by decide +kernel)
theorem kw_466 : Cond.code yJ0_indexOf_0f7a4 cJ0_indexOf_0f7a4 2 (some (.int)) ∈ gw := gw_of (tb_of 466 (by decide +kernel)) (by decide +kernel)
theorem kw_551 : Cond.instanceMethod yX7_isWord ∈ gw := gw_of (tb_of 551 (by decide +kernel)) (by decide +kernel)
theorem kw_552 : Cond.selects "FootholdWall$Tokens" yX7_isWord yX7_isWord ∈ gw := gw_of (tb_of 552 (by decide +kernel)) (by decide +kernel)
theorem kw_553 : Cond.code yX7_isWord cX7_isWord 3 (some (.boolean)) ∈ gw := gw_of (tb_of 553 (by decide +kernel)) (by decide +kernel)
theorem kw_554 : Cond.methodLink "FootholdWall$Tokens" 61 yJ0_length_8abf5 ∈ gw := gw_of (tb_of 554 (by decide +kernel)) (by decide +kernel)
theorem kw_555 : Cond.methodLink "FootholdWall$Tokens" 64 yJ0_charAt_5068e ∈ gw := gw_of (tb_of 555 (by decide +kernel)) (by decide +kernel)
theorem kw_556 : Cond.instanceMethod yJ0_charAt_5068e ∈ gw := gw_of (tb_of 556 (by decide +kernel)) (by decide +kernel)
theorem kw_557 : Cond.selects "java/lang/String" yJ0_charAt_5068e yJ0_charAt_5068e ∈ gw := gw_of (tb_of 557 (by decide +kernel)) (by decide +kernel)
theorem kw_558 : Cond.code yJ0_charAt_5068e cJ0_charAt_5068e 2 (some (.char)) ∈ gw := gw_of (tb_of 558 (by decide +kernel)) (by decide +kernel)
theorem kw_580 : Cond.instanceMethod yX7_refuse ∈ gw := gw_of (tb_of 580 (by decide +kernel)) (by decide +kernel)
theorem kw_581 : Cond.selects "FootholdWall$Tokens" yX7_refuse yX7_refuse ∈ gw := gw_of (tb_of 581 (by decide +kernel)) (by decide +kernel)
theorem kw_582 : Cond.code yX7_refuse cX7_refuse 2 (some (.boolean)) ∈ gw := gw_of (tb_of 582 (by decide +kernel)) (by decide +kernel)
theorem kw_588 : Cond.methodLink "FootholdWall$Tokens" 72 yX7_refuse ∈ gw := gw_of (tb_of 588 (by decide +kernel)) (by decide +kernel)
theorem kw_607 : Cond.methodLink "FootholdWall$Tokens" 68 yX7_isWord ∈ gw := gw_of (tb_of 607 (by decide +kernel)) (by decide +kernel)
theorem kw_614 : Cond.methodLink "FootholdWall$Tokens" 75 yX7_isSign ∈ gw := gw_of (tb_of 614 (by decide +kernel)) (by decide +kernel)
theorem kw_615 : Cond.instanceMethod yX7_isSign ∈ gw := gw_of (tb_of 615 (by decide +kernel)) (by decide +kernel)
theorem kw_616 : Cond.selects "FootholdWall$Tokens" yX7_isSign yX7_isSign ∈ gw := gw_of (tb_of 616 (by decide +kernel)) (by decide +kernel)
theorem kw_617 : Cond.code yX7_isSign cX7_isSign 2 (some (.boolean)) ∈ gw := gw_of (tb_of 617 (by decide +kernel)) (by decide +kernel)
