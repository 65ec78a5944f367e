theorem dX7_begin_0 : decode cX7_begin 0 = .ok (.aload_n 0, 1) := by decide +kernel
theorem dX7_begin_1 : decode cX7_begin 1 = .ok (.aload_n 1, 1) := by decide +kernel
theorem dX7_begin_2 : decode cX7_begin 2 = .ok (.putfield 9, 3) := by decide +kernel
theorem dX7_begin_5 : decode cX7_begin 5 = .ok (.aload_n 0, 1) := by decide +kernel
theorem dX7_begin_6 : decode cX7_begin 6 = .ok (.iload_n 2, 1) := by decide +kernel
theorem dX7_begin_7 : decode cX7_begin 7 = .ok (.aload_n 1, 1) := by decide +kernel
theorem dX7_begin_8 : decode cX7_begin 8 = .ok (.arraylength, 1) := by decide +kernel
theorem dX7_begin_9 : decode cX7_begin 9 = .ok (.invokestatic 37, 3) := by decide +kernel
theorem dX7_begin_12 : decode cX7_begin 12 = .ok (.putfield 15, 3) := by decide +kernel
theorem dX7_begin_15 : decode cX7_begin 15 = .ok (.aload_n 0, 1) := by decide +kernel
theorem dX7_begin_16 : decode cX7_begin 16 = .ok (.iconst 0, 1) := by decide +kernel
theorem dX7_begin_17 : decode cX7_begin 17 = .ok (.putfield 22, 3) := by decide +kernel
theorem dX7_begin_20 : decode cX7_begin 20 = .ok (.aload_n 0, 1) := by decide +kernel
theorem dX7_begin_21 : decode cX7_begin 21 = .ok (.iconst 0, 1) := by decide +kernel
theorem dX7_begin_22 : decode cX7_begin 22 = .ok (.putfield 31, 3) := by decide +kernel
theorem dX7_begin_25 : decode cX7_begin 25 = .ok (.aload_n 0, 1) := by decide +kernel
theorem dX7_begin_26 : decode cX7_begin 26 = .ok (.iconst (-1), 1) := by decide +kernel
theorem dX7_begin_27 : decode cX7_begin 27 = .ok (.putfield 34, 3) := by decide +kernel
theorem dX7_begin_30 : decode cX7_begin 30 = .ok (.aload_n 0, 1) := by decide +kernel
theorem dX7_begin_31 : decode cX7_begin 31 = .ok (.invokevirtual 43, 3) := by decide +kernel
theorem dX7_begin_34 : decode cX7_begin 34 = .ok (.return_, 1) := by decide +kernel
theorem dX7_go_0 : decode cX7_go 0 = .ok (.aload_n 0, 1) := by decide +kernel
theorem dX7_go_1 : decode cX7_go 1 = .ok (.aload_n 0, 1) := by decide +kernel
theorem dX7_go_2 : decode cX7_go 2 = .ok (.getfield 22, 3) := by decide +kernel
theorem dX7_go_5 : decode cX7_go 5 = .ok (.putfield 19, 3) := by decide +kernel
theorem dX7_go_8 : decode cX7_go 8 = .ok (.aload_n 0, 1) := by decide +kernel
theorem dX7_go_9 : decode cX7_go 9 = .ok (.getfield 19, 3) := by decide +kernel
theorem dX7_go_12 : decode cX7_go 12 = .ok (.aload_n 0, 1) := by decide +kernel
theorem dX7_go_13 : decode cX7_go 13 = .ok (.getfield 15, 3) := by decide +kernel
theorem dX7_go_16 : decode cX7_go 16 = .ok (.if_icmp .ge 44, 3) := by decide +kernel
theorem dX7_go_19 : decode cX7_go 19 = .ok (.aload_n 0, 1) := by decide +kernel
theorem dX7_go_20 : decode cX7_go 20 = .ok (.getfield 9, 3) := by decide +kernel
theorem dX7_go_23 : decode cX7_go 23 = .ok (.aload_n 0, 1) := by decide +kernel
theorem dX7_go_24 : decode cX7_go 24 = .ok (.getfield 19, 3) := by decide +kernel
theorem dX7_go_27 : decode cX7_go 27 = .ok (.baload, 1) := by decide +kernel
theorem dX7_go_28 : decode cX7_go 28 = .ok (.bipush 10, 2) := by decide +kernel
theorem dX7_go_30 : decode cX7_go 30 = .ok (.if_icmp .eq 17, 3) := by decide +kernel
theorem dX7_go_33 : decode cX7_go 33 = .ok (.aload_n 0, 1) := by decide +kernel
theorem dX7_go_34 : decode cX7_go 34 = .ok (.getfield 9, 3) := by decide +kernel
theorem dX7_go_37 : decode cX7_go 37 = .ok (.aload_n 0, 1) := by decide +kernel
theorem dX7_go_38 : decode cX7_go 38 = .ok (.getfield 19, 3) := by decide +kernel
theorem dX7_go_41 : decode cX7_go 41 = .ok (.baload, 1) := by decide +kernel
theorem dX7_go_42 : decode cX7_go 42 = .ok (.bipush 32, 2) := by decide +kernel
theorem dX7_go_44 : decode cX7_go 44 = .ok (.if_icmp .ne 16, 3) := by decide +kernel
theorem dX7_go_47 : decode cX7_go 47 = .ok (.aload_n 0, 1) := by decide +kernel
theorem dX7_go_48 : decode cX7_go 48 = .ok (.dup, 1) := by decide +kernel
theorem dX7_go_49 : decode cX7_go 49 = .ok (.getfield 19, 3) := by decide +kernel
theorem dX7_go_52 : decode cX7_go 52 = .ok (.iconst 1, 1) := by decide +kernel
theorem dX7_go_53 : decode cX7_go 53 = .ok (.iadd, 1) := by decide +kernel
theorem dX7_go_54 : decode cX7_go 54 = .ok (.putfield 19, 3) := by decide +kernel
theorem dX7_go_57 : decode cX7_go 57 = .ok (.goto (-49), 3) := by decide +kernel
theorem dX7_go_60 : decode cX7_go 60 = .ok (.aload_n 0, 1) := by decide +kernel
theorem dX7_go_61 : decode cX7_go 61 = .ok (.aload_n 0, 1) := by decide +kernel
theorem dX7_go_62 : decode cX7_go 62 = .ok (.getfield 19, 3) := by decide +kernel
theorem dX7_go_65 : decode cX7_go 65 = .ok (.putfield 22, 3) := by decide +kernel
theorem dX7_go_68 : decode cX7_go 68 = .ok (.aload_n 0, 1) := by decide +kernel
theorem dX7_go_69 : decode cX7_go 69 = .ok (.getfield 19, 3) := by decide +kernel
theorem dX7_go_72 : decode cX7_go 72 = .ok (.aload_n 0, 1) := by decide +kernel
theorem dX7_go_73 : decode cX7_go 73 = .ok (.getfield 15, 3) := by decide +kernel
theorem dX7_go_76 : decode cX7_go 76 = .ok (.if_icmp .lt 11, 3) := by decide +kernel
theorem dX7_go_79 : decode cX7_go 79 = .ok (.aload_n 0, 1) := by decide +kernel
theorem dX7_go_80 : decode cX7_go 80 = .ok (.iconst 0, 1) := by decide +kernel
theorem dX7_go_81 : decode cX7_go 81 = .ok (.putfield 25, 3) := by decide +kernel
theorem dX7_go_84 : decode cX7_go 84 = .ok (.goto 219, 3) := by decide +kernel
theorem dX7_go_87 : decode cX7_go 87 = .ok (.aload_n 0, 1) := by decide +kernel
theorem dX7_go_88 : decode cX7_go 88 = .ok (.getfield 9, 3) := by decide +kernel
theorem dX7_go_91 : decode cX7_go 91 = .ok (.aload_n 0, 1) := by decide +kernel
theorem dX7_go_92 : decode cX7_go 92 = .ok (.getfield 19, 3) := by decide +kernel
theorem dX7_go_95 : decode cX7_go 95 = .ok (.baload, 1) := by decide +kernel
theorem dX7_go_96 : decode cX7_go 96 = .ok (.invokestatic 46, 3) := by decide +kernel
theorem dX7_go_99 : decode cX7_go 99 = .ok (.ifCond .eq 47, 3) := by decide +kernel
theorem dX7_go_102 : decode cX7_go 102 = .ok (.aload_n 0, 1) := by decide +kernel
theorem dX7_go_103 : decode cX7_go 103 = .ok (.iconst 1, 1) := by decide +kernel
theorem dX7_go_104 : decode cX7_go 104 = .ok (.putfield 25, 3) := by decide +kernel
theorem dX7_go_107 : decode cX7_go 107 = .ok (.aload_n 0, 1) := by decide +kernel
theorem dX7_go_108 : decode cX7_go 108 = .ok (.getfield 22, 3) := by decide +kernel
theorem dX7_go_111 : decode cX7_go 111 = .ok (.aload_n 0, 1) := by decide +kernel
theorem dX7_go_112 : decode cX7_go 112 = .ok (.getfield 15, 3) := by decide +kernel
theorem dX7_go_115 : decode cX7_go 115 = .ok (.if_icmp .ge 188, 3) := by decide +kernel
theorem dX7_go_118 : decode cX7_go 118 = .ok (.aload_n 0, 1) := by decide +kernel
theorem dX7_go_119 : decode cX7_go 119 = .ok (.getfield 9, 3) := by decide +kernel
theorem dX7_go_122 : decode cX7_go 122 = .ok (.aload_n 0, 1) := by decide +kernel
theorem dX7_go_123 : decode cX7_go 123 = .ok (.getfield 22, 3) := by decide +kernel
theorem dX7_go_126 : decode cX7_go 126 = .ok (.baload, 1) := by decide +kernel
theorem dX7_go_127 : decode cX7_go 127 = .ok (.invokestatic 46, 3) := by decide +kernel
theorem dX7_go_130 : decode cX7_go 130 = .ok (.ifCond .eq 173, 3) := by decide +kernel
theorem dX7_go_133 : decode cX7_go 133 = .ok (.aload_n 0, 1) := by decide +kernel
theorem dX7_go_134 : decode cX7_go 134 = .ok (.dup, 1) := by decide +kernel
theorem dX7_go_135 : decode cX7_go 135 = .ok (.getfield 22, 3) := by decide +kernel
theorem dX7_go_138 : decode cX7_go 138 = .ok (.iconst 1, 1) := by decide +kernel
theorem dX7_go_139 : decode cX7_go 139 = .ok (.iadd, 1) := by decide +kernel
theorem dX7_go_140 : decode cX7_go 140 = .ok (.putfield 22, 3) := by decide +kernel
theorem dX7_go_143 : decode cX7_go 143 = .ok (.goto (-36), 3) := by decide +kernel
theorem dX7_go_146 : decode cX7_go 146 = .ok (.aload_n 0, 1) := by decide +kernel
theorem dX7_go_147 : decode cX7_go 147 = .ok (.getfield 9, 3) := by decide +kernel
theorem dX7_go_150 : decode cX7_go 150 = .ok (.aload_n 0, 1) := by decide +kernel
theorem dX7_go_151 : decode cX7_go 151 = .ok (.getfield 19, 3) := by decide +kernel
theorem dX7_go_154 : decode cX7_go 154 = .ok (.baload, 1) := by decide +kernel
theorem dX7_go_155 : decode cX7_go 155 = .ok (.invokestatic 50, 3) := by decide +kernel
theorem dX7_go_158 : decode cX7_go 158 = .ok (.ifCond .eq 96, 3) := by decide +kernel
theorem dX7_go_161 : decode cX7_go 161 = .ok (.aload_n 0, 1) := by decide +kernel
theorem dX7_go_162 : decode cX7_go 162 = .ok (.iconst 0, 1) := by decide +kernel
theorem dX7_go_163 : decode cX7_go 163 = .ok (.putfield 28, 3) := by decide +kernel
theorem dX7_go_166 : decode cX7_go 166 = .ok (.aload_n 0, 1) := by decide +kernel
theorem dX7_go_167 : decode cX7_go 167 = .ok (.getfield 22, 3) := by decide +kernel
theorem dX7_go_170 : decode cX7_go 170 = .ok (.aload_n 0, 1) := by decide +kernel
theorem dX7_go_171 : decode cX7_go 171 = .ok (.getfield 15, 3) := by decide +kernel
theorem dX7_go_174 : decode cX7_go 174 = .ok (.if_icmp .ge 55, 3) := by decide +kernel
theorem dX7_go_177 : decode cX7_go 177 = .ok (.aload_n 0, 1) := by decide +kernel
theorem dX7_go_178 : decode cX7_go 178 = .ok (.getfield 9, 3) := by decide +kernel
theorem dX7_go_181 : decode cX7_go 181 = .ok (.aload_n 0, 1) := by decide +kernel
theorem dX7_go_182 : decode cX7_go 182 = .ok (.getfield 22, 3) := by decide +kernel
theorem dX7_go_185 : decode cX7_go 185 = .ok (.baload, 1) := by decide +kernel
theorem dX7_go_186 : decode cX7_go 186 = .ok (.invokestatic 50, 3) := by decide +kernel
theorem dX7_go_189 : decode cX7_go 189 = .ok (.ifCond .eq 40, 3) := by decide +kernel
theorem dX7_go_192 : decode cX7_go 192 = .ok (.aload_n 0, 1) := by decide +kernel
theorem dX7_go_193 : decode cX7_go 193 = .ok (.aload_n 0, 1) := by decide +kernel
theorem dX7_go_194 : decode cX7_go 194 = .ok (.getfield 28, 3) := by decide +kernel
theorem dX7_go_197 : decode cX7_go 197 = .ok (.bipush 10, 2) := by decide +kernel
theorem dX7_go_199 : decode cX7_go 199 = .ok (.imul, 1) := by decide +kernel
theorem dX7_go_200 : decode cX7_go 200 = .ok (.aload_n 0, 1) := by decide +kernel
theorem dX7_go_201 : decode cX7_go 201 = .ok (.getfield 9, 3) := by decide +kernel
theorem dX7_go_204 : decode cX7_go 204 = .ok (.aload_n 0, 1) := by decide +kernel
theorem dX7_go_205 : decode cX7_go 205 = .ok (.getfield 22, 3) := by decide +kernel
theorem dX7_go_208 : decode cX7_go 208 = .ok (.baload, 1) := by decide +kernel
theorem dX7_go_209 : decode cX7_go 209 = .ok (.bipush 48, 2) := by decide +kernel
theorem dX7_go_211 : decode cX7_go 211 = .ok (.isub, 1) := by decide +kernel
theorem dX7_go_212 : decode cX7_go 212 = .ok (.iadd, 1) := by decide +kernel
theorem dX7_go_213 : decode cX7_go 213 = .ok (.putfield 28, 3) := by decide +kernel
theorem dX7_go_216 : decode cX7_go 216 = .ok (.aload_n 0, 1) := by decide +kernel
theorem dX7_go_217 : decode cX7_go 217 = .ok (.dup, 1) := by decide +kernel
theorem dX7_go_218 : decode cX7_go 218 = .ok (.getfield 22, 3) := by decide +kernel
theorem dX7_go_221 : decode cX7_go 221 = .ok (.iconst 1, 1) := by decide +kernel
theorem dX7_go_222 : decode cX7_go 222 = .ok (.iadd, 1) := by decide +kernel
theorem dX7_go_223 : decode cX7_go 223 = .ok (.putfield 22, 3) := by decide +kernel
theorem dX7_go_226 : decode cX7_go 226 = .ok (.goto (-60), 3) := by decide +kernel
theorem dX7_go_229 : decode cX7_go 229 = .ok (.aload_n 0, 1) := by decide +kernel
theorem dX7_go_230 : decode cX7_go 230 = .ok (.aload_n 0, 1) := by decide +kernel
theorem dX7_go_231 : decode cX7_go 231 = .ok (.getfield 22, 3) := by decide +kernel
theorem dX7_go_234 : decode cX7_go 234 = .ok (.aload_n 0, 1) := by decide +kernel
theorem dX7_go_235 : decode cX7_go 235 = .ok (.getfield 19, 3) := by decide +kernel
theorem dX7_go_238 : decode cX7_go 238 = .ok (.isub, 1) := by decide +kernel
theorem dX7_go_239 : decode cX7_go 239 = .ok (.iconst 3, 1) := by decide +kernel
theorem dX7_go_240 : decode cX7_go 240 = .ok (.if_icmp .gt 7, 3) := by decide +kernel
theorem dX7_go_243 : decode cX7_go 243 = .ok (.iconst 2, 1) := by decide +kernel
theorem dX7_go_244 : decode cX7_go 244 = .ok (.goto 4, 3) := by decide +kernel
theorem dX7_go_247 : decode cX7_go 247 = .ok (.iconst 4, 1) := by decide +kernel
theorem dX7_go_248 : decode cX7_go 248 = .ok (.putfield 25, 3) := by decide +kernel
theorem dX7_go_251 : decode cX7_go 251 = .ok (.goto 52, 3) := by decide +kernel
theorem dX7_go_254 : decode cX7_go 254 = .ok (.aload_n 0, 1) := by decide +kernel
theorem dX7_go_255 : decode cX7_go 255 = .ok (.aload_n 0, 1) := by decide +kernel
theorem dX7_go_256 : decode cX7_go 256 = .ok (.getfield 9, 3) := by decide +kernel
theorem dX7_go_259 : decode cX7_go 259 = .ok (.aload_n 0, 1) := by decide +kernel
theorem dX7_go_260 : decode cX7_go 260 = .ok (.getfield 19, 3) := by decide +kernel
theorem dX7_go_263 : decode cX7_go 263 = .ok (.baload, 1) := by decide +kernel
theorem dX7_go_264 : decode cX7_go 264 = .ok (.sipush 255, 3) := by decide +kernel
theorem dX7_go_267 : decode cX7_go 267 = .ok (.iand, 1) := by decide +kernel
theorem dX7_go_268 : decode cX7_go 268 = .ok (.putfield 28, 3) := by decide +kernel
theorem dX7_go_271 : decode cX7_go 271 = .ok (.aload_n 0, 1) := by decide +kernel
theorem dX7_go_272 : decode cX7_go 272 = .ok (.ldc 53, 2) := by decide +kernel
theorem dX7_go_274 : decode cX7_go 274 = .ok (.aload_n 0, 1) := by decide +kernel
theorem dX7_go_275 : decode cX7_go 275 = .ok (.getfield 28, 3) := by decide +kernel
theorem dX7_go_278 : decode cX7_go 278 = .ok (.i2c, 1) := by decide +kernel
theorem dX7_go_279 : decode cX7_go 279 = .ok (.invokevirtual 55, 3) := by decide +kernel
theorem dX7_go_282 : decode cX7_go 282 = .ok (.ifCond .lt 7, 3) := by decide +kernel
theorem dX7_go_285 : decode cX7_go 285 = .ok (.iconst 3, 1) := by decide +kernel
theorem dX7_go_286 : decode cX7_go 286 = .ok (.goto 4, 3) := by decide +kernel
theorem dX7_go_289 : decode cX7_go 289 = .ok (.iconst 4, 1) := by decide +kernel
theorem dX7_go_290 : decode cX7_go 290 = .ok (.putfield 25, 3) := by decide +kernel
theorem dX7_go_293 : decode cX7_go 293 = .ok (.aload_n 0, 1) := by decide +kernel
theorem dX7_go_294 : decode cX7_go 294 = .ok (.dup, 1) := by decide +kernel
theorem dX7_go_295 : decode cX7_go 295 = .ok (.getfield 22, 3) := by decide +kernel
theorem dX7_go_298 : decode cX7_go 298 = .ok (.iconst 1, 1) := by decide +kernel
theorem dX7_go_299 : decode cX7_go 299 = .ok (.iadd, 1) := by decide +kernel
theorem dX7_go_300 : decode cX7_go 300 = .ok (.putfield 22, 3) := by decide +kernel
theorem dX7_go_303 : decode cX7_go 303 = .ok (.return_, 1) := by decide +kernel
theorem dX7_isDigit_0 : decode cX7_isDigit 0 = .ok (.iload_n 0, 1) := by decide +kernel
theorem dX7_isDigit_1 : decode cX7_isDigit 1 = .ok (.bipush 48, 2) := by decide +kernel
theorem dX7_isDigit_3 : decode cX7_isDigit 3 = .ok (.if_icmp .lt 13, 3) := by decide +kernel
theorem dX7_isDigit_6 : decode cX7_isDigit 6 = .ok (.iload_n 0, 1) := by decide +kernel
theorem dX7_isDigit_7 : decode cX7_isDigit 7 = .ok (.bipush 57, 2) := by decide +kernel
theorem dX7_isDigit_9 : decode cX7_isDigit 9 = .ok (.if_icmp .gt 7, 3) := by decide +kernel
theorem dX7_isDigit_12 : decode cX7_isDigit 12 = .ok (.iconst 1, 1) := by decide +kernel
theorem dX7_isDigit_13 : decode cX7_isDigit 13 = .ok (.goto 4, 3) := by decide +kernel
theorem dX7_isDigit_16 : decode cX7_isDigit 16 = .ok (.iconst 0, 1) := by decide +kernel
theorem dX7_isDigit_17 : decode cX7_isDigit 17 = .ok (.ireturn, 1) := by decide +kernel
theorem dX7_isLetter_0 : decode cX7_isLetter 0 = .ok (.iload_n 0, 1) := by decide +kernel
theorem dX7_isLetter_1 : decode cX7_isLetter 1 = .ok (.bipush 97, 2) := by decide +kernel
theorem dX7_isLetter_3 : decode cX7_isLetter 3 = .ok (.if_icmp .lt 13, 3) := by decide +kernel
theorem dX7_isLetter_6 : decode cX7_isLetter 6 = .ok (.iload_n 0, 1) := by decide +kernel
theorem dX7_isLetter_7 : decode cX7_isLetter 7 = .ok (.bipush 122, 2) := by decide +kernel
theorem dX7_isLetter_9 : decode cX7_isLetter 9 = .ok (.if_icmp .gt 7, 3) := by decide +kernel
theorem dX7_isLetter_12 : decode cX7_isLetter 12 = .ok (.iconst 1, 1) := by decide +kernel
theorem dX7_isLetter_13 : decode cX7_isLetter 13 = .ok (.goto 4, 3) := by decide +kernel
theorem dX7_isLetter_16 : decode cX7_isLetter 16 = .ok (.iconst 0, 1) := by decide +kernel
theorem dX7_isLetter_17 : decode cX7_isLetter 17 = .ok (.ireturn, 1) := by decide +kernel
theorem dX7_isSign_0 : decode cX7_isSign 0 = .ok (.aload_n 0, 1) := by decide +kernel
theorem dX7_isSign_1 : decode cX7_isSign 1 = .ok (.getfield 25, 3) := by decide +kernel
theorem dX7_isSign_4 : decode cX7_isSign 4 = .ok (.iconst 3, 1) := by decide +kernel
theorem dX7_isSign_5 : decode cX7_isSign 5 = .ok (.if_icmp .ne 15, 3) := by decide +kernel
theorem dX7_isSign_8 : decode cX7_isSign 8 = .ok (.aload_n 0, 1) := by decide +kernel
theorem dX7_isSign_9 : decode cX7_isSign 9 = .ok (.getfield 28, 3) := by decide +kernel
theorem dX7_isSign_12 : decode cX7_isSign 12 = .ok (.iload_n 1, 1) := by decide +kernel
theorem dX7_isSign_13 : decode cX7_isSign 13 = .ok (.if_icmp .ne 7, 3) := by decide +kernel
theorem dX7_isSign_16 : decode cX7_isSign 16 = .ok (.iconst 1, 1) := by decide +kernel
theorem dX7_isSign_17 : decode cX7_isSign 17 = .ok (.goto 4, 3) := by decide +kernel
theorem dX7_isSign_20 : decode cX7_isSign 20 = .ok (.iconst 0, 1) := by decide +kernel
theorem dX7_isSign_21 : decode cX7_isSign 21 = .ok (.ireturn, 1) := by decide +kernel
theorem dX7_isWord_0 : decode cX7_isWord 0 = .ok (.aload_n 0, 1) := by decide +kernel
theorem dX7_isWord_1 : decode cX7_isWord 1 = .ok (.getfield 25, 3) := by decide +kernel
theorem dX7_isWord_4 : decode cX7_isWord 4 = .ok (.iconst 1, 1) := by decide +kernel
theorem dX7_isWord_5 : decode cX7_isWord 5 = .ok (.if_icmp .ne 19, 3) := by decide +kernel
theorem dX7_isWord_8 : decode cX7_isWord 8 = .ok (.aload_n 0, 1) := by decide +kernel
theorem dX7_isWord_9 : decode cX7_isWord 9 = .ok (.getfield 22, 3) := by decide +kernel
theorem dX7_isWord_12 : decode cX7_isWord 12 = .ok (.aload_n 0, 1) := by decide +kernel
theorem dX7_isWord_13 : decode cX7_isWord 13 = .ok (.getfield 19, 3) := by decide +kernel
theorem dX7_isWord_16 : decode cX7_isWord 16 = .ok (.isub, 1) := by decide +kernel
theorem dX7_isWord_17 : decode cX7_isWord 17 = .ok (.aload_n 1, 1) := by decide +kernel
theorem dX7_isWord_18 : decode cX7_isWord 18 = .ok (.invokevirtual 61, 3) := by decide +kernel
theorem dX7_isWord_21 : decode cX7_isWord 21 = .ok (.if_icmp .eq 5, 3) := by decide +kernel
theorem dX7_isWord_24 : decode cX7_isWord 24 = .ok (.iconst 0, 1) := by decide +kernel
theorem dX7_isWord_25 : decode cX7_isWord 25 = .ok (.ireturn, 1) := by decide +kernel
theorem dX7_isWord_26 : decode cX7_isWord 26 = .ok (.iconst 0, 1) := by decide +kernel
theorem dX7_isWord_27 : decode cX7_isWord 27 = .ok (.istore_n 2, 1) := by decide +kernel
theorem dX7_isWord_28 : decode cX7_isWord 28 = .ok (.iload_n 2, 1) := by decide +kernel
theorem dX7_isWord_29 : decode cX7_isWord 29 = .ok (.aload_n 1, 1) := by decide +kernel
theorem dX7_isWord_30 : decode cX7_isWord 30 = .ok (.invokevirtual 61, 3) := by decide +kernel
theorem dX7_isWord_33 : decode cX7_isWord 33 = .ok (.if_icmp .ge 30, 3) := by decide +kernel
theorem dX7_isWord_36 : decode cX7_isWord 36 = .ok (.aload_n 0, 1) := by decide +kernel
theorem dX7_isWord_37 : decode cX7_isWord 37 = .ok (.getfield 9, 3) := by decide +kernel
theorem dX7_isWord_40 : decode cX7_isWord 40 = .ok (.aload_n 0, 1) := by decide +kernel
theorem dX7_isWord_41 : decode cX7_isWord 41 = .ok (.getfield 19, 3) := by decide +kernel
theorem dX7_isWord_44 : decode cX7_isWord 44 = .ok (.iload_n 2, 1) := by decide +kernel
theorem dX7_isWord_45 : decode cX7_isWord 45 = .ok (.iadd, 1) := by decide +kernel
theorem dX7_isWord_46 : decode cX7_isWord 46 = .ok (.baload, 1) := by decide +kernel
theorem dX7_isWord_47 : decode cX7_isWord 47 = .ok (.aload_n 1, 1) := by decide +kernel
theorem dX7_isWord_48 : decode cX7_isWord 48 = .ok (.iload_n 2, 1) := by decide +kernel
theorem dX7_isWord_49 : decode cX7_isWord 49 = .ok (.invokevirtual 64, 3) := by decide +kernel
theorem dX7_isWord_52 : decode cX7_isWord 52 = .ok (.if_icmp .eq 5, 3) := by decide +kernel
theorem dX7_isWord_55 : decode cX7_isWord 55 = .ok (.iconst 0, 1) := by decide +kernel
theorem dX7_isWord_56 : decode cX7_isWord 56 = .ok (.ireturn, 1) := by decide +kernel
theorem dX7_isWord_57 : decode cX7_isWord 57 = .ok (.iinc 2 1, 3) := by decide +kernel
theorem dX7_isWord_60 : decode cX7_isWord 60 = .ok (.goto (-32), 3) := by decide +kernel
theorem dX7_isWord_63 : decode cX7_isWord 63 = .ok (.iconst 1, 1) := by decide +kernel
theorem dX7_isWord_64 : decode cX7_isWord 64 = .ok (.ireturn, 1) := by decide +kernel
theorem dX7_refuse_0 : decode cX7_refuse 0 = .ok (.aload_n 0, 1) := by decide +kernel
theorem dX7_refuse_1 : decode cX7_refuse 1 = .ok (.aload_n 0, 1) := by decide +kernel
theorem dX7_refuse_2 : decode cX7_refuse 2 = .ok (.getfield 25, 3) := by decide +kernel
theorem dX7_refuse_5 : decode cX7_refuse 5 = .ok (.iconst 4, 1) := by decide +kernel
theorem dX7_refuse_6 : decode cX7_refuse 6 = .ok (.if_icmp .ne 7, 3) := by decide +kernel
theorem dX7_refuse_9 : decode cX7_refuse 9 = .ok (.iconst 1, 1) := by decide +kernel
theorem dX7_refuse_10 : decode cX7_refuse 10 = .ok (.goto 4, 3) := by decide +kernel
theorem dX7_refuse_13 : decode cX7_refuse 13 = .ok (.iload_n 1, 1) := by decide +kernel
theorem dX7_refuse_14 : decode cX7_refuse 14 = .ok (.putfield 31, 3) := by decide +kernel
theorem dX7_refuse_17 : decode cX7_refuse 17 = .ok (.aload_n 0, 1) := by decide +kernel
theorem dX7_refuse_18 : decode cX7_refuse 18 = .ok (.aload_n 0, 1) := by decide +kernel
theorem dX7_refuse_19 : decode cX7_refuse 19 = .ok (.getfield 19, 3) := by decide +kernel
theorem dX7_refuse_22 : decode cX7_refuse 22 = .ok (.putfield 34, 3) := by decide +kernel
theorem dX7_refuse_25 : decode cX7_refuse 25 = .ok (.iconst 0, 1) := by decide +kernel
theorem dX7_refuse_26 : decode cX7_refuse 26 = .ok (.ireturn, 1) := by decide +kernel
theorem dX7_takeNumber_0 : decode cX7_takeNumber 0 = .ok (.aload_n 0, 1) := by decide +kernel
theorem dX7_takeNumber_1 : decode cX7_takeNumber 1 = .ok (.getfield 25, 3) := by decide +kernel
theorem dX7_takeNumber_4 : decode cX7_takeNumber 4 = .ok (.iconst 2, 1) := by decide +kernel
theorem dX7_takeNumber_5 : decode cX7_takeNumber 5 = .ok (.if_icmp .ne 11, 3) := by decide +kernel
theorem dX7_takeNumber_8 : decode cX7_takeNumber 8 = .ok (.aload_n 0, 1) := by decide +kernel
theorem dX7_takeNumber_9 : decode cX7_takeNumber 9 = .ok (.getfield 28, 3) := by decide +kernel
theorem dX7_takeNumber_12 : decode cX7_takeNumber 12 = .ok (.iload_n 1, 1) := by decide +kernel
theorem dX7_takeNumber_13 : decode cX7_takeNumber 13 = .ok (.if_icmp .le 23, 3) := by decide +kernel
theorem dX7_takeNumber_16 : decode cX7_takeNumber 16 = .ok (.aload_n 0, 1) := by decide +kernel
theorem dX7_takeNumber_17 : decode cX7_takeNumber 17 = .ok (.aload_n 0, 1) := by decide +kernel
theorem dX7_takeNumber_18 : decode cX7_takeNumber 18 = .ok (.getfield 25, 3) := by decide +kernel
theorem dX7_takeNumber_21 : decode cX7_takeNumber 21 = .ok (.iconst 2, 1) := by decide +kernel
theorem dX7_takeNumber_22 : decode cX7_takeNumber 22 = .ok (.if_icmp .ne 7, 3) := by decide +kernel
theorem dX7_takeNumber_25 : decode cX7_takeNumber 25 = .ok (.iconst 3, 1) := by decide +kernel
theorem dX7_takeNumber_26 : decode cX7_takeNumber 26 = .ok (.goto 4, 3) := by decide +kernel
theorem dX7_takeNumber_29 : decode cX7_takeNumber 29 = .ok (.iconst 2, 1) := by decide +kernel
theorem dX7_takeNumber_30 : decode cX7_takeNumber 30 = .ok (.invokevirtual 72, 3) := by decide +kernel
theorem dX7_takeNumber_33 : decode cX7_takeNumber 33 = .ok (.pop, 1) := by decide +kernel
theorem dX7_takeNumber_34 : decode cX7_takeNumber 34 = .ok (.iconst (-1), 1) := by decide +kernel
theorem dX7_takeNumber_35 : decode cX7_takeNumber 35 = .ok (.ireturn, 1) := by decide +kernel
theorem dX7_takeNumber_36 : decode cX7_takeNumber 36 = .ok (.aload_n 0, 1) := by decide +kernel
theorem dX7_takeNumber_37 : decode cX7_takeNumber 37 = .ok (.getfield 28, 3) := by decide +kernel
theorem dX7_takeNumber_40 : decode cX7_takeNumber 40 = .ok (.istore_n 2, 1) := by decide +kernel
theorem dX7_takeNumber_41 : decode cX7_takeNumber 41 = .ok (.aload_n 0, 1) := by decide +kernel
theorem dX7_takeNumber_42 : decode cX7_takeNumber 42 = .ok (.invokevirtual 43, 3) := by decide +kernel
theorem dX7_takeNumber_45 : decode cX7_takeNumber 45 = .ok (.iload_n 2, 1) := by decide +kernel
theorem dX7_takeNumber_46 : decode cX7_takeNumber 46 = .ok (.ireturn, 1) := by decide +kernel
theorem dX7_takeSign_0 : decode cX7_takeSign 0 = .ok (.aload_n 0, 1) := by decide +kernel
theorem dX7_takeSign_1 : decode cX7_takeSign 1 = .ok (.iload_n 1, 1) := by decide +kernel
theorem dX7_takeSign_2 : decode cX7_takeSign 2 = .ok (.invokevirtual 75, 3) := by decide +kernel
theorem dX7_takeSign_5 : decode cX7_takeSign 5 = .ok (.ifCond .ne 9, 3) := by decide +kernel
theorem dX7_takeSign_8 : decode cX7_takeSign 8 = .ok (.aload_n 0, 1) := by decide +kernel
theorem dX7_takeSign_9 : decode cX7_takeSign 9 = .ok (.iconst 2, 1) := by decide +kernel
theorem dX7_takeSign_10 : decode cX7_takeSign 10 = .ok (.invokevirtual 72, 3) := by decide +kernel
theorem dX7_takeSign_13 : decode cX7_takeSign 13 = .ok (.ireturn, 1) := by decide +kernel
theorem dX7_takeSign_14 : decode cX7_takeSign 14 = .ok (.aload_n 0, 1) := by decide +kernel
theorem dX7_takeSign_15 : decode cX7_takeSign 15 = .ok (.invokevirtual 43, 3) := by decide +kernel
theorem dX7_takeSign_18 : decode cX7_takeSign 18 = .ok (.iconst 1, 1) := by decide +kernel
theorem dX7_takeSign_19 : decode cX7_takeSign 19 = .ok (.ireturn, 1) := by decide +kernel
theorem dX7_takeWord_0 : decode cX7_takeWord 0 = .ok (.aload_n 0, 1) := by decide +kernel
theorem dX7_takeWord_1 : decode cX7_takeWord 1 = .ok (.aload_n 1, 1) := by decide +kernel
theorem dX7_takeWord_2 : decode cX7_takeWord 2 = .ok (.invokevirtual 68, 3) := by decide +kernel
theorem dX7_takeWord_5 : decode cX7_takeWord 5 = .ok (.ifCond .ne 9, 3) := by decide +kernel
theorem dX7_takeWord_8 : decode cX7_takeWord 8 = .ok (.aload_n 0, 1) := by decide +kernel
theorem dX7_takeWord_9 : decode cX7_takeWord 9 = .ok (.iconst 2, 1) := by decide +kernel
theorem dX7_takeWord_10 : decode cX7_takeWord 10 = .ok (.invokevirtual 72, 3) := by decide +kernel
theorem dX7_takeWord_13 : decode cX7_takeWord 13 = .ok (.ireturn, 1) := by decide +kernel
theorem dX7_takeWord_14 : decode cX7_takeWord 14 = .ok (.aload_n 0, 1) := by decide +kernel
theorem dX7_takeWord_15 : decode cX7_takeWord 15 = .ok (.invokevirtual 43, 3) := by decide +kernel
theorem dX7_takeWord_18 : decode cX7_takeWord 18 = .ok (.iconst 1, 1) := by decide +kernel
theorem dX7_takeWord_19 : decode cX7_takeWord 19 = .ok (.ireturn, 1) := by decide +kernel
theorem kw_3 : Cond.initialized "FootholdWall$Tokens" ∈ gw := gw_of (tb_of 3 (by decide +kernel)) (by decide +kernel)
theorem kw_44 : Cond.fieldLink "FootholdWall$Tokens" 9 "FootholdWall$Tokens" "text" "[B" ∈ gw := gw_of (tb_of 44 (by decide +kernel)) (by decide +kernel)
theorem kw_45 : Cond.fieldLink "FootholdWall$Tokens" 15 "FootholdWall$Tokens" "length" "I" ∈ gw := gw_of (tb_of 45 (by decide +kernel)) (by decide +kernel)
theorem kw_46 : Cond.fieldLink "FootholdWall$Tokens" 19 "FootholdWall$Tokens" "start" "I" ∈ gw := gw_of (tb_of 46 (by decide +kernel)) (by decide +kernel)
theorem kw_47 : Cond.fieldLink "FootholdWall$Tokens" 22 "FootholdWall$Tokens" "end" "I" ∈ gw := gw_of (tb_of 47 (by decide +kernel)) (by decide +kernel)
theorem kw_48 : Cond.fieldLink "FootholdWall$Tokens" 25 "FootholdWall$Tokens" "kind" "I" ∈ gw := gw_of (tb_of 48 (by decide +kernel)) (by decide +kernel)
theorem kw_51 : Cond.fieldLink "FootholdWall$Tokens" 28 "FootholdWall$Tokens" "value" "I" ∈ gw := gw_of (tb_of 51 (by decide +kernel)) (by decide +kernel)
theorem kw_54 : Cond.fieldLink "FootholdWall$Tokens" 31 "FootholdWall$Tokens" "fault" "I" ∈ gw := gw_of (tb_of 54 (by decide +kernel)) (by decide +kernel)
theorem kw_56 : Cond.fieldLink "FootholdWall$Tokens" 34 "FootholdWall$Tokens" "place" "I" ∈ gw := gw_of (tb_of 56 (by decide +kernel)) (by decide +kernel)
theorem kw_449 : Cond.methodLink "FootholdWall$Tokens" 37 Lib.Math.min.name ∈ gw := gw_of (tb_of 449 (by decide +kernel)) (by decide +kernel)
theorem kw_452 : Cond.methodLink "FootholdWall$Tokens" 43 yX7_go ∈ gw := gw_of (tb_of 452 (by decide +kernel)) (by decide +kernel)
theorem kw_453 : Cond.instanceMethod yX7_go ∈ gw := gw_of (tb_of 453 (by decide +kernel)) (by decide +kernel)
theorem kw_454 : Cond.selects "FootholdWall$Tokens" yX7_go yX7_go ∈ gw := gw_of (tb_of 454 (by decide +kernel)) (by decide +kernel)
theorem kw_455 : Cond.code yX7_go cX7_go 1 none ∈ gw := gw_of (tb_of 455 (by decide +kernel)) (by decide +kernel)
theorem kw_456 : Cond.methodLink "FootholdWall$Tokens" 46 yX7_isLetter ∈ gw := gw_of (tb_of 456 (by decide +kernel)) (by decide +kernel)
theorem kw_457 : Cond.static yX7_isLetter ∈ gw := gw_of (tb_of 457 (by decide +kernel)) (by decide +kernel)
theorem kw_458 : Cond.code yX7_isLetter cX7_isLetter 1 (some (.boolean)) ∈ gw := gw_of (tb_of 458 (by decide +kernel)) (by decide +kernel)
theorem kw_459 : Cond.methodLink "FootholdWall$Tokens" 50 yX7_isDigit ∈ gw := gw_of (tb_of 459 (by decide +kernel)) (by decide +kernel)
theorem kw_460 : Cond.static yX7_isDigit ∈ gw := gw_of (tb_of 460 (by decide +kernel)) (by decide +kernel)
theorem kw_461 : Cond.code yX7_isDigit cX7_isDigit 1 (some (.boolean)) ∈ gw := gw_of (tb_of 461 (by decide +kernel)) (by decide +kernel)
theorem kw_463 : Cond.methodLink "FootholdWall$Tokens" 55 yJ0_indexOf_0f7a4 ∈ gw := gw_of (tb_of 463 (by decide +kernel)) (by decide +kernel)
theorem kw_464 : Cond.instanceMethod yJ0_indexOf_0f7a4 ∈ gw := gw_of (tb_of 464 (by decide +kernel)) (by decide +kernel)
theorem kw_465 : Cond.selects "java/lang/String" yJ0_indexOf_0f7a4 yJ0_indexOf_0f7a4 ∈ gw := gw_of (tb_of 465 (by decide +kernel)) (by decide +kernel)
theorem kw_466 : Cond.code yJ0_indexOf_0f7a4 cJ0_indexOf_0f7a4 2 (some (.int)) ∈ gw := gw_of (tb_of 466 (by decide +kernel)) (by decide +kernel)
theorem kw_551 : Cond.instanceMethod yX7_isWord ∈ gw := gw_of (tb_of 551 (by decide +kernel)) (by decide +kernel)
theorem kw_552 : Cond.selects "FootholdWall$Tokens" yX7_isWord yX7_isWord ∈ gw := gw_of (tb_of 552 (by decide +kernel)) (by decide +kernel)
theorem kw_553 : Cond.code yX7_isWord cX7_isWord 3 (some (.boolean)) ∈ gw := gw_of (tb_of 553 (by decide +kernel)) (by decide +kernel)
theorem kw_554 : Cond.methodLink "FootholdWall$Tokens" 61 yJ0_length_8abf5 ∈ gw := gw_of (tb_of 554 (by decide +kernel)) (by decide +kernel)
theorem kw_555 : Cond.methodLink "FootholdWall$Tokens" 64 yJ0_charAt_5068e ∈ gw := gw_of (tb_of 555 (by decide +kernel)) (by decide +kernel)
theorem kw_556 : Cond.instanceMethod yJ0_charAt_5068e ∈ gw := gw_of (tb_of 556 (by decide +kernel)) (by decide +kernel)
theorem kw_557 : Cond.selects "java/lang/String" yJ0_charAt_5068e yJ0_charAt_5068e ∈ gw := gw_of (tb_of 557 (by decide +kernel)) (by decide +kernel)
theorem kw_558 : Cond.code yJ0_charAt_5068e cJ0_charAt_5068e 2 (some (.char)) ∈ gw := gw_of (tb_of 558 (by decide +kernel)) (by decide +kernel)
theorem kw_580 : Cond.instanceMethod yX7_refuse ∈ gw := gw_of (tb_of 580 (by decide +kernel)) (by decide +kernel)
theorem kw_581 : Cond.selects "FootholdWall$Tokens" yX7_refuse yX7_refuse ∈ gw := gw_of (tb_of 581 (by decide +kernel)) (by decide +kernel)
theorem kw_582 : Cond.code yX7_refuse cX7_refuse 2 (some (.boolean)) ∈ gw := gw_of (tb_of 582 (by decide +kernel)) (by decide +kernel)
theorem kw_588 : Cond.methodLink "FootholdWall$Tokens" 72 yX7_refuse ∈ gw := gw_of (tb_of 588 (by decide +kernel)) (by decide +kernel)
theorem kw_607 : Cond.methodLink "FootholdWall$Tokens" 68 yX7_isWord ∈ gw := gw_of (tb_of 607 (by decide +kernel)) (by decide +kernel)
theorem kw_614 : Cond.methodLink "FootholdWall$Tokens" 75 yX7_isSign ∈ gw := gw_of (tb_of 614 (by decide +kernel)) (by decide +kernel)
theorem kw_615 : Cond.instanceMethod yX7_isSign ∈ gw := gw_of (tb_of 615 (by decide +kernel)) (by decide +kernel)
theorem kw_616 : Cond.selects "FootholdWall$Tokens" yX7_isSign yX7_isSign ∈ gw := gw_of (tb_of 616 (by decide +kernel)) (by decide +kernel)
theorem kw_617 : Cond.code yX7_isSign cX7_isSign 2 (some (.boolean)) ∈ gw := gw_of (tb_of 617 (by decide +kernel)) (by decide +kernel)
def fB : FT := fun T v => ∃ a n : Nat, v = .ref a ∧ T a = some (0, n, 0)
def ft7 (_ _ : Nat) : List FT := [fB, fI 0 900, fI 0 900, fI 0 900, fA, fA, fA, fA]
theorem ob7_ok {T : TF} {p q : Nat} {fs : List Value} (h : ob T 7 p q fs) : okL T (ft7 p q) fs := by
  obtain ⟨a, n, x1, x2, x3, x4, x5, x6, x7, rfl, t, b, h1, h2, h3, h4, h5, h6⟩ := h
  exact okL_c ⟨a, n, rfl, t⟩ (okL_c ⟨_, rfl, by omega, by omega⟩ (okL_c ⟨_, rfl, by omega, by omega⟩ (okL_c ⟨_, rfl, by omega, by omega⟩ (okL_c ⟨_, rfl⟩ (okL_c ⟨_, rfl⟩ (okL_c ⟨_, rfl⟩ (okL_c ⟨_, rfl⟩ okL_n)))))))
set_option maxHeartbeats 4000000 in
set_option maxRecDepth 100000 in
theorem s_Tok_isLetter (l : Launch) (D : va_G) (cs : CS) (kf : KF) (T : TF) (O : List Nat) (X : va_W) (x0 : Int32)  (hO : okO T O []) : TK l D cs kf yX7_isLetter cX7_isLetter 1 (some (.boolean)) { frames := 0, cells := 0, slots := 0, locals := 0 } [.int x0] T O X (Ti D cs (fun r u => u = (T, O, X) ∧ 0 ≤ r.toInt ∧ r.toInt ≤ 1)) := by
  refine tk_of (by decide) (Nat.le_of_ble_eq_true rfl) (fun p e s m below meth c ls A H locs hx hb hr hml hown hts hlocks hnm hkb hH hS hA hOX hks hE hl => ?_)
  have hown : s.vm.findClass RX7 = some m.cls := hown
  have hl : lv_has ls 1 [(0, .int x0)] := hl
  refine lv_iload_n hx hb dX7_isLetter_0 rfl (lv_at hl 0 rfl) ?_
  refine lv_bipush (v := 97) hx hb dX7_isLetter_1 (by decide) ?_
  have J17 : ∀ (k17_0 : Int32) (H : Heap) (locs : List Loc) (ls : Array Slot), (0 ≤ k17_0.toInt) → (k17_0.toInt ≤ 1) → HT D cs A T O X H → va_S A s.heap H locs → lv_has ls 1 [] → W p l e { frames := 0, cells := 0, slots := 0, locals := 0 } s m [.int x0].toArray below meth c H locs 0 0 (MQ below (Ti D cs (fun r u => u = (T, O, X) ∧ 0 ≤ r.toInt ∧ r.toInt ≤ 1) A) [.int x0].toArray s 0 0 A) (F0 m 17 ls [.int k17_0]) := by
    intro k17_0 H locs ls l_k17_0 u_k17_0 hH hS hl
    exact te_z hx hb hr hlocks (nar01 (by omega) (by omega)) hH hS (⟨rfl, by omega, by omega⟩) dX7_isLetter_17
  have J16 : ∀  (H : Heap) (locs : List Loc) (ls : Array Slot), HT D cs A T O X H → va_S A s.heap H locs → lv_has ls 1 [] → W p l e { frames := 0, cells := 0, slots := 0, locals := 0 } s m [.int x0].toArray below meth c H locs 0 0 (MQ below (Ti D cs (fun r u => u = (T, O, X) ∧ 0 ≤ r.toInt ∧ r.toInt ≤ 1) A) [.int x0].toArray s 0 0 A) (F0 m 16 ls []) := by
    intro  H locs ls  hH hS hl
    refine lv_iconst (v := 0) hx hb dX7_isLetter_16 (by decide) ?_
    exact J17 0 _ _ _ (by decide) (by decide) hH hS (lv_sub hl [] rfl)
  refine lv_icmp_lt (tgt := 16) hx hb dX7_isLetter_3 (by decide) (fun c3 => ?_) (fun c3 => ?_)
  · skip
    have tc3 := f_lt (k := 97) (by decide) c3
    exact J16  _ _ _  hH hS (lv_sub hl [] rfl)
  · skip
    have tc3 := f_nlt (k := 97) (by decide) c3
    refine lv_iload_n hx hb dX7_isLetter_6 rfl (lv_at hl 0 rfl) ?_
    refine lv_bipush (v := 122) hx hb dX7_isLetter_7 (by decide) ?_
    refine lv_icmp_gt (tgt := 16) hx hb dX7_isLetter_9 (by decide) (fun c9 => ?_) (fun c9 => ?_)
    · skip
      have tc9 := f_gt (k := 122) (by decide) c9
      exact J16  _ _ _  hH hS (lv_sub hl [] rfl)
    · skip
      have tc9 := f_ngt (k := 122) (by decide) c9
      refine lv_iconst (v := 1) hx hb dX7_isLetter_12 (by decide) ?_
      refine lv_goto (tgt := 17) hx hb dX7_isLetter_13 (by decide) ?_
      exact J17 1 _ _ _ (by decide) (by decide) hH hS (lv_sub hl [] rfl)
set_option maxHeartbeats 4000000 in
set_option maxRecDepth 100000 in
theorem s_Tok_isDigit (l : Launch) (D : va_G) (cs : CS) (kf : KF) (T : TF) (O : List Nat) (X : va_W) (x0 : Int32)  (hO : okO T O []) : TK l D cs kf yX7_isDigit cX7_isDigit 1 (some (.boolean)) { frames := 0, cells := 0, slots := 0, locals := 0 } [.int x0] T O X (Ti D cs (fun r u => u = (T, O, X) ∧ 0 ≤ r.toInt ∧ r.toInt ≤ 1)) := by
  refine tk_of (by decide) (Nat.le_of_ble_eq_true rfl) (fun p e s m below meth c ls A H locs hx hb hr hml hown hts hlocks hnm hkb hH hS hA hOX hks hE hl => ?_)
  have hown : s.vm.findClass RX7 = some m.cls := hown
  have hl : lv_has ls 1 [(0, .int x0)] := hl
  refine lv_iload_n hx hb dX7_isDigit_0 rfl (lv_at hl 0 rfl) ?_
  refine lv_bipush (v := 48) hx hb dX7_isDigit_1 (by decide) ?_
  have J17 : ∀ (k17_0 : Int32) (H : Heap) (locs : List Loc) (ls : Array Slot), (0 ≤ k17_0.toInt) → (k17_0.toInt ≤ 1) → HT D cs A T O X H → va_S A s.heap H locs → lv_has ls 1 [] → W p l e { frames := 0, cells := 0, slots := 0, locals := 0 } s m [.int x0].toArray below meth c H locs 0 0 (MQ below (Ti D cs (fun r u => u = (T, O, X) ∧ 0 ≤ r.toInt ∧ r.toInt ≤ 1) A) [.int x0].toArray s 0 0 A) (F0 m 17 ls [.int k17_0]) := by
    intro k17_0 H locs ls l_k17_0 u_k17_0 hH hS hl
    exact te_z hx hb hr hlocks (nar01 (by omega) (by omega)) hH hS (⟨rfl, by omega, by omega⟩) dX7_isDigit_17
  have J16 : ∀  (H : Heap) (locs : List Loc) (ls : Array Slot), HT D cs A T O X H → va_S A s.heap H locs → lv_has ls 1 [] → W p l e { frames := 0, cells := 0, slots := 0, locals := 0 } s m [.int x0].toArray below meth c H locs 0 0 (MQ below (Ti D cs (fun r u => u = (T, O, X) ∧ 0 ≤ r.toInt ∧ r.toInt ≤ 1) A) [.int x0].toArray s 0 0 A) (F0 m 16 ls []) := by
    intro  H locs ls  hH hS hl
    refine lv_iconst (v := 0) hx hb dX7_isDigit_16 (by decide) ?_
    exact J17 0 _ _ _ (by decide) (by decide) hH hS (lv_sub hl [] rfl)
  refine lv_icmp_lt (tgt := 16) hx hb dX7_isDigit_3 (by decide) (fun c3 => ?_) (fun c3 => ?_)
  · skip
    have tc3 := f_lt (k := 48) (by decide) c3
    exact J16  _ _ _  hH hS (lv_sub hl [] rfl)
  · skip
    have tc3 := f_nlt (k := 48) (by decide) c3
    refine lv_iload_n hx hb dX7_isDigit_6 rfl (lv_at hl 0 rfl) ?_
    refine lv_bipush (v := 57) hx hb dX7_isDigit_7 (by decide) ?_
    refine lv_icmp_gt (tgt := 16) hx hb dX7_isDigit_9 (by decide) (fun c9 => ?_) (fun c9 => ?_)
    · skip
      have tc9 := f_gt (k := 57) (by decide) c9
      exact J16  _ _ _  hH hS (lv_sub hl [] rfl)
    · skip
      have tc9 := f_ngt (k := 57) (by decide) c9
      refine lv_iconst (v := 1) hx hb dX7_isDigit_12 (by decide) ?_
      refine lv_goto (tgt := 17) hx hb dX7_isDigit_13 (by decide) ?_
      exact J17 1 _ _ _ (by decide) (by decide) hH hS (lv_sub hl [] rfl)
set_option maxHeartbeats 4000000 in
set_option maxRecDepth 100000 in
theorem s_Tok_isSign (l : Launch) (D : va_G) (cs : CS) (kf : KF) (T : TF) (O : List Nat) (X : va_W) (a0 : Nat) (x1 : Int32) (t_a0 : T a0 = some (17, 0, 0)) (hO : okO T O [17]) : TK l D cs kf yX7_isSign cX7_isSign 2 (some (.boolean)) { frames := 0, cells := 0, slots := 0, locals := 0 } [.ref a0, .int x1] T O X (Ti D cs (fun r u => u = (T, O, X) ∧ 0 ≤ r.toInt ∧ r.toInt ≤ 1)) := by
  refine tk_of (by decide) (Nat.le_of_ble_eq_true rfl) (fun p e s m below meth c ls A H locs hx hb hr hml hown hts hlocks hnm hkb hH hS hA hOX hks hE hl => ?_)
  have hown : s.vm.findClass RX7 = some m.cls := hown
  have hl : lv_has ls 2 [(0, .ref a0), (1, .int x1)] := hl
  have hO0 := hO
  obtain ⟨fs9, ho9, hH⟩ := hH.take t_a0 (hO0.no t_a0 (by decide))
  obtain ⟨q0_0, nq0_0, q0_1, q0_2, q0_3, q0_4, q0_5, q0_6, q0_7, rfl, t_q0_0, b_q0_0, l1_0, u1_0, l2_0, u2_0, l3_0, u3_0⟩ := ho9
  have hH : HT D cs A T (a0 :: O) ((a0, .inr (7, [.ref q0_0, .int q0_1, .int q0_2, .int q0_3, .int q0_4, .int q0_5, .int q0_6, .int q0_7])) :: X) H := hH
  have hO : okO T (a0 :: O) [] := okO.cons (hO0.sub (by decide)) t_a0 (by decide)
  refine lv_aload_n hx hb dX7_isSign_0 rfl (lv_at hl 0 rfl) ?_
  refine x_get (ci := 7) (C := RX7) (F := TX7) (N := 8) (v := .int q0_4) hx hb hts uX7 hown hkb hH rfl 4 (by decide) rfl kw_48 (fun _ h9 => h9) dX7_isSign_1 ?_
  refine lv_iconst (v := 3) hx hb dX7_isSign_4 (by decide) ?_
  have J21 : ∀ (k21_0 : Int32) (H : Heap) (locs : List Loc) (ls : Array Slot), (0 ≤ k21_0.toInt) → (k21_0.toInt ≤ 1) → HT D cs A T (a0 :: O) ((a0, .inr (7, [.ref q0_0, .int q0_1, .int q0_2, .int q0_3, .int q0_4, .int q0_5, .int q0_6, .int q0_7])) :: X) H → va_S A s.heap H locs → lv_has ls 2 [] → W p l e { frames := 0, cells := 0, slots := 0, locals := 0 } s m [.ref a0, .int x1].toArray below meth c H locs 0 0 (MQ below (Ti D cs (fun r u => u = (T, O, X) ∧ 0 ≤ r.toInt ∧ r.toInt ≤ 1) A) [.ref a0, .int x1].toArray s 0 0 A) (F0 m 21 ls [.int k21_0]) := by
    intro k21_0 H locs ls l_k21_0 u_k21_0 hH hS hl
    have hH : HT D cs A T O X H := HT.lay (ci := 7) hH t_a0 (⟨_, _, _, _, _, _, _, _, _, rfl, t_q0_0, by omega, by omega, by omega, by omega, by omega, by omega, by omega⟩)
    have hO := hO0
    exact te_z hx hb hr hlocks (nar01 (by omega) (by omega)) hH hS (⟨rfl, by omega, by omega⟩) dX7_isSign_21
  have J20 : ∀  (H : Heap) (locs : List Loc) (ls : Array Slot), HT D cs A T (a0 :: O) ((a0, .inr (7, [.ref q0_0, .int q0_1, .int q0_2, .int q0_3, .int q0_4, .int q0_5, .int q0_6, .int q0_7])) :: X) H → va_S A s.heap H locs → lv_has ls 2 [] → W p l e { frames := 0, cells := 0, slots := 0, locals := 0 } s m [.ref a0, .int x1].toArray below meth c H locs 0 0 (MQ below (Ti D cs (fun r u => u = (T, O, X) ∧ 0 ≤ r.toInt ∧ r.toInt ≤ 1) A) [.ref a0, .int x1].toArray s 0 0 A) (F0 m 20 ls []) := by
    intro  H locs ls  hH hS hl
    refine lv_iconst (v := 0) hx hb dX7_isSign_20 (by decide) ?_
    exact J21 0 _ _ _ (by decide) (by decide) hH hS (lv_sub hl [] rfl)
  refine lv_icmp_ne (tgt := 20) hx hb dX7_isSign_5 (by decide) (fun c5 => ?_) (fun c5 => ?_)
  · skip
    have tc5 := f_ne (k := 3) (by decide) c5
    exact J20  _ _ _  hH hS (lv_sub hl [] rfl)
  · skip
    have tc5 := f_eq (k := 3) (by decide) c5
    refine lv_aload_n hx hb dX7_isSign_8 rfl (lv_at hl 0 rfl) ?_
    refine x_get (ci := 7) (C := RX7) (F := TX7) (N := 8) (v := .int q0_5) hx hb hts uX7 hown hkb hH rfl 5 (by decide) rfl kw_51 (fun _ h9 => h9) dX7_isSign_9 ?_
    refine lv_iload_n hx hb dX7_isSign_12 rfl (lv_at hl 1 rfl) ?_
    refine lv_icmp_ne (tgt := 20) hx hb dX7_isSign_13 (by decide) (fun c13 => ?_) (fun c13 => ?_)
    · skip
      have fuc13 := full_i q0_5
      have fvc13 := full_i x1
      have tc13 := g_ne c13
      exact J20  _ _ _  hH hS (lv_sub hl [] rfl)
    · skip
      have fuc13 := full_i q0_5
      have fvc13 := full_i x1
      have tc13 := g_eq c13
      refine lv_iconst (v := 1) hx hb dX7_isSign_16 (by decide) ?_
      refine lv_goto (tgt := 21) hx hb dX7_isSign_17 (by decide) ?_
      exact J21 1 _ _ _ (by decide) (by decide) hH hS (lv_sub hl [] rfl)
set_option maxHeartbeats 4000000 in
set_option maxRecDepth 100000 in
theorem s_Tok_refuse (l : Launch) (D : va_G) (cs : CS) (kf : KF) (T : TF) (O : List Nat) (X : va_W) (a0 : Nat) (x1 : Int32) (t_a0 : T a0 = some (17, 0, 0)) (hO : okO T O [17]) : TK l D cs kf yX7_refuse cX7_refuse 2 (some (.boolean)) { frames := 0, cells := 0, slots := 0, locals := 0 } [.ref a0, .int x1] T O X (Ti D cs (fun r u => u = (T, O, X) ∧ 0 ≤ r.toInt ∧ r.toInt ≤ 0)) := by
  refine tk_of (by decide) (Nat.le_of_ble_eq_true rfl) (fun p e s m below meth c ls A H locs hx hb hr hml hown hts hlocks hnm hkb hH hS hA hOX hks hE hl => ?_)
  have hown : s.vm.findClass RX7 = some m.cls := hown
  have hl : lv_has ls 2 [(0, .ref a0), (1, .int x1)] := hl
  have hO0 := hO
  obtain ⟨fs9, ho9, hH⟩ := hH.take t_a0 (hO0.no t_a0 (by decide))
  obtain ⟨q0_0, nq0_0, q0_1, q0_2, q0_3, q0_4, q0_5, q0_6, q0_7, rfl, t_q0_0, b_q0_0, l1_0, u1_0, l2_0, u2_0, l3_0, u3_0⟩ := ho9
  have hH : HT D cs A T (a0 :: O) ((a0, .inr (7, [.ref q0_0, .int q0_1, .int q0_2, .int q0_3, .int q0_4, .int q0_5, .int q0_6, .int q0_7])) :: X) H := hH
  have hO : okO T (a0 :: O) [] := okO.cons (hO0.sub (by decide)) t_a0 (by decide)
  refine lv_aload_n hx hb dX7_refuse_0 rfl (lv_at hl 0 rfl) ?_
  refine lv_aload_n hx hb dX7_refuse_1 rfl (lv_at hl 0 rfl) ?_
  refine x_get (ci := 7) (C := RX7) (F := TX7) (N := 8) (v := .int q0_4) hx hb hts uX7 hown hkb hH rfl 4 (by decide) rfl kw_48 (fun _ h9 => h9) dX7_refuse_2 ?_
  refine lv_iconst (v := 4) hx hb dX7_refuse_5 (by decide) ?_
  have J14 : ∀ (k14_0 : Int32) (H : Heap) (locs : List Loc) (ls : Array Slot), HT D cs A T (a0 :: O) ((a0, .inr (7, [.ref q0_0, .int q0_1, .int q0_2, .int q0_3, .int q0_4, .int q0_5, .int q0_6, .int q0_7])) :: X) H → va_S A s.heap H locs → lv_has ls 2 [(0, .ref a0)] → W p l e { frames := 0, cells := 0, slots := 0, locals := 0 } s m [.ref a0, .int x1].toArray below meth c H locs 0 0 (MQ below (Ti D cs (fun r u => u = (T, O, X) ∧ 0 ≤ r.toInt ∧ r.toInt ≤ 0) A) [.ref a0, .int x1].toArray s 0 0 A) (F0 m 14 ls [.int k14_0, .ref a0]) := by
    intro k14_0 H locs ls  hH hS hl
    refine x_put (ci := 7) (v := .int k14_0) (ty := tyX7 6) (C := RX7) (F := TX7) (N := 8) hx hb hts uX7 tyX7 tyX7_ok nmX7 hown hkb hH hS rfl 6 (by decide) kw_54 (fun _ h9 => h9) rfl (tyX7_ok 6 (by decide)) rfl rfl (Nat.le_of_ble_eq_true rfl) dX7_refuse_14 (fun H locs hH hS => ?_)
    have hH : HT D cs A T (a0 :: O) ((a0, .inr (7, [.ref q0_0, .int q0_1, .int q0_2, .int q0_3, .int q0_4, .int q0_5, .int k14_0, .int q0_7])) :: X) H := hH
    refine lv_aload_n hx hb dX7_refuse_17 rfl (lv_at hl 0 rfl) ?_
    refine lv_aload_n hx hb dX7_refuse_18 rfl (lv_at hl 0 rfl) ?_
    refine x_get (ci := 7) (C := RX7) (F := TX7) (N := 8) (v := .int q0_2) hx hb hts uX7 hown hkb hH rfl 2 (by decide) rfl kw_46 (fun _ h9 => h9) dX7_refuse_19 ?_
    refine x_put (ci := 7) (v := .int q0_2) (ty := tyX7 7) (C := RX7) (F := TX7) (N := 8) hx hb hts uX7 tyX7 tyX7_ok nmX7 hown hkb hH hS rfl 7 (by decide) kw_56 (fun _ h9 => h9) rfl (tyX7_ok 7 (by decide)) rfl rfl (Nat.le_of_ble_eq_true rfl) dX7_refuse_22 (fun H locs hH hS => ?_)
    have hH : HT D cs A T (a0 :: O) ((a0, .inr (7, [.ref q0_0, .int q0_1, .int q0_2, .int q0_3, .int q0_4, .int q0_5, .int k14_0, .int q0_2])) :: X) H := hH
    refine lv_iconst (v := 0) hx hb dX7_refuse_25 (by decide) ?_
    have hH : HT D cs A T O X H := HT.lay (ci := 7) hH t_a0 (⟨_, _, _, _, _, _, _, _, _, rfl, t_q0_0, by omega, by omega, by omega, by omega, by omega, by omega, by omega⟩)
    have hO := hO0
    exact te_z hx hb hr hlocks (by rfl) hH hS (⟨rfl, by decide, by decide⟩) dX7_refuse_26
  refine lv_icmp_ne (tgt := 13) hx hb dX7_refuse_6 (by decide) (fun c6 => ?_) (fun c6 => ?_)
  · skip
    have tc6 := f_ne (k := 4) (by decide) c6
    refine lv_iload_n hx hb dX7_refuse_13 rfl (lv_at hl 1 rfl) ?_
    exact J14 x1 _ _ _  hH hS (lv_sub hl [0] rfl)
  · skip
    have tc6 := f_eq (k := 4) (by decide) c6
    refine lv_iconst (v := 1) hx hb dX7_refuse_9 (by decide) ?_
    refine lv_goto (tgt := 14) hx hb dX7_refuse_10 (by decide) ?_
    exact J14 1 _ _ _  hH hS (lv_sub hl [0] rfl)
set_option maxHeartbeats 4000000 in
set_option maxRecDepth 100000 in
theorem s_Tok_go (l : Launch) (D : va_G) (cs : CS) (kf : KF) (T : TF) (O : List Nat) (X : va_W) (a0 : Nat) (t_a0 : T a0 = some (17, 0, 0)) (hO : okO T O [0, 17]) : TK l D cs kf yX7_go cX7_go 1 none { frames := 4, cells := 0, slots := 0, locals := 91 } [.ref a0] T O X (Tv D cs (fun u => u = (T, O, X))) := by
  refine tk_of (by decide) (Nat.le_of_ble_eq_true rfl) (fun p e s m below meth c ls A H locs hx hb hr hml hown hts hlocks hnm hkb hH hS hA hOX hks hE hl => ?_)
  have hown : s.vm.findClass RX7 = some m.cls := hown
  have hl : lv_has ls 1 [(0, .ref a0)] := hl
  have hO0 := hO
  obtain ⟨fs9, ho9, hH⟩ := hH.take t_a0 (hO0.no t_a0 (by decide))
  obtain ⟨q0_0, nq0_0, q0_1, q0_2, q0_3, q0_4, q0_5, q0_6, q0_7, rfl, t_q0_0, b_q0_0, l1_0, u1_0, l2_0, u2_0, l3_0, u3_0⟩ := ho9
  have hH : HT D cs A T (a0 :: O) ((a0, .inr (7, [.ref q0_0, .int q0_1, .int q0_2, .int q0_3, .int q0_4, .int q0_5, .int q0_6, .int q0_7])) :: X) H := hH
  have hO : okO T (a0 :: O) [0] := okO.cons (hO0.sub (by decide)) t_a0 (by decide)
  refine lv_aload_n hx hb dX7_go_0 rfl (lv_at hl 0 rfl) ?_
  refine lv_aload_n hx hb dX7_go_1 rfl (lv_at hl 0 rfl) ?_
  refine x_get (ci := 7) (C := RX7) (F := TX7) (N := 8) (v := .int q0_3) hx hb hts uX7 hown hkb hH rfl 3 (by decide) rfl kw_47 (fun _ h9 => h9) dX7_go_2 ?_
  have J8 : ∀ (n : Nat) (f8_2 : Int32) (H : Heap) (locs : List Loc) (ls : Array Slot), (900 - f8_2.toInt).toNat = n → (0 ≤ f8_2.toInt) → (f8_2.toInt ≤ 900) → (f8_2.toInt ≤ nq0_0) → HT D cs A T (a0 :: O) ((a0, .inr (7, [.ref q0_0, .int q0_1, .int f8_2, .int q0_3, .int q0_4, .int q0_5, .int q0_6, .int q0_7])) :: X) H → va_S A s.heap H locs → lv_has ls 1 [(0, .ref a0)] → W p l e { frames := 4, cells := 0, slots := 0, locals := 91 } s m [.ref a0].toArray below meth c H locs 0 0 (MQ below (Tv D cs (fun u => u = (T, O, X)) A) [.ref a0].toArray s 0 0 A) (F0 m 8 ls []) := by
    intro n
    induction n using Nat.strongRecOn with
    | _ n ih8 =>
      intro f8_2 H locs ls hm8 l_f8_2 u_f8_2 i8 hH hS hl
      refine lv_aload_n hx hb dX7_go_8 rfl (lv_at hl 0 rfl) ?_
      refine x_get (ci := 7) (C := RX7) (F := TX7) (N := 8) (v := .int f8_2) hx hb hts uX7 hown hkb hH rfl 2 (by decide) rfl kw_46 (fun _ h9 => h9) dX7_go_9 ?_
      refine lv_aload_n hx hb dX7_go_12 rfl (lv_at hl 0 rfl) ?_
      refine x_get (ci := 7) (C := RX7) (F := TX7) (N := 8) (v := .int q0_1) hx hb hts uX7 hown hkb hH rfl 1 (by decide) rfl kw_45 (fun _ h9 => h9) dX7_go_13 ?_
      have J60 : ∀  (H : Heap) (locs : List Loc) (ls : Array Slot), HT D cs A T (a0 :: O) ((a0, .inr (7, [.ref q0_0, .int q0_1, .int f8_2, .int q0_3, .int q0_4, .int q0_5, .int q0_6, .int q0_7])) :: X) H → va_S A s.heap H locs → lv_has ls 1 [(0, .ref a0)] → W p l e { frames := 4, cells := 0, slots := 0, locals := 91 } s m [.ref a0].toArray below meth c H locs 0 0 (MQ below (Tv D cs (fun u => u = (T, O, X)) A) [.ref a0].toArray s 0 0 A) (F0 m 60 ls []) := by
        intro  H locs ls  hH hS hl
        refine lv_aload_n hx hb dX7_go_60 rfl (lv_at hl 0 rfl) ?_
        refine lv_aload_n hx hb dX7_go_61 rfl (lv_at hl 0 rfl) ?_
        refine x_get (ci := 7) (C := RX7) (F := TX7) (N := 8) (v := .int f8_2) hx hb hts uX7 hown hkb hH rfl 2 (by decide) rfl kw_46 (fun _ h9 => h9) dX7_go_62 ?_
        refine x_put (ci := 7) (v := .int f8_2) (ty := tyX7 3) (C := RX7) (F := TX7) (N := 8) hx hb hts uX7 tyX7 tyX7_ok nmX7 hown hkb hH hS rfl 3 (by decide) kw_47 (fun _ h9 => h9) rfl (tyX7_ok 3 (by decide)) rfl rfl (Nat.le_of_ble_eq_true rfl) dX7_go_65 (fun H locs hH hS => ?_)
        have hH : HT D cs A T (a0 :: O) ((a0, .inr (7, [.ref q0_0, .int q0_1, .int f8_2, .int f8_2, .int q0_4, .int q0_5, .int q0_6, .int q0_7])) :: X) H := hH
        refine lv_aload_n hx hb dX7_go_68 rfl (lv_at hl 0 rfl) ?_
        refine x_get (ci := 7) (C := RX7) (F := TX7) (N := 8) (v := .int f8_2) hx hb hts uX7 hown hkb hH rfl 2 (by decide) rfl kw_46 (fun _ h9 => h9) dX7_go_69 ?_
        refine lv_aload_n hx hb dX7_go_72 rfl (lv_at hl 0 rfl) ?_
        refine x_get (ci := 7) (C := RX7) (F := TX7) (N := 8) (v := .int q0_1) hx hb hts uX7 hown hkb hH rfl 1 (by decide) rfl kw_45 (fun _ h9 => h9) dX7_go_73 ?_
        have J303 : ∀ (f303_3 : Int32) (f303_4 : Int32) (f303_5 : Int32) (H : Heap) (locs : List Loc) (ls : Array Slot), (0 ≤ f303_3.toInt) → (f303_3.toInt ≤ 900) → (0 ≤ f303_4.toInt) → (f303_4.toInt ≤ 4) → (f303_3.toInt ≤ nq0_0 ∧ 0 ≤ f303_3.toInt) → HT D cs A T (a0 :: O) ((a0, .inr (7, [.ref q0_0, .int q0_1, .int f8_2, .int f303_3, .int f303_4, .int f303_5, .int q0_6, .int q0_7])) :: X) H → va_S A s.heap H locs → lv_has ls 1 [] → W p l e { frames := 4, cells := 0, slots := 0, locals := 91 } s m [.ref a0].toArray below meth c H locs 0 0 (MQ below (Tv D cs (fun u => u = (T, O, X)) A) [.ref a0].toArray s 0 0 A) (F0 m 303 ls []) := by
          intro f303_3 f303_4 f303_5 H locs ls l_f303_3 u_f303_3 l_f303_4 u_f303_4 i303 hH hS hl
          have hH : HT D cs A T O X H := HT.lay (ci := 7) hH t_a0 (⟨_, _, _, _, _, _, _, _, _, rfl, t_q0_0, by omega, by omega, by omega, by omega, by omega, by omega, by omega⟩)
          have hO := hO0
          exact te_v hx hb hr hlocks hH hS rfl dX7_go_303
        refine lv_icmp_lt (tgt := 87) hx hb dX7_go_76 (by decide) (fun c76 => ?_) (fun c76 => ?_)
        · skip
          have fuc76 := full_i f8_2
          have fvc76 := full_i q0_1
          have tc76 := g_lt c76
          refine lv_aload_n hx hb dX7_go_87 rfl (lv_at hl 0 rfl) ?_
          refine x_get (ci := 7) (C := RX7) (F := TX7) (N := 8) (v := .ref q0_0) hx hb hts uX7 hown hkb hH rfl 0 (by decide) rfl kw_44 (fun _ h9 => h9) dX7_go_88 ?_
          refine lv_aload_n hx hb dX7_go_91 rfl (lv_at hl 0 rfl) ?_
          refine x_get (ci := 7) (C := RX7) (F := TX7) (N := 8) (v := .int f8_2) hx hb hts uX7 hown hkb hH rfl 2 (by decide) rfl kw_46 (fun _ h9 => h9) dX7_go_92 ?_
          refine t_bld hx hb hkb hH t_q0_0 (hO.no t_q0_0 (by decide)) (by omega) (by omega) dX7_go_95 (fun v95 => ?_)
          refine tk_i hH hS hA (tr_S (n := 1) (As := [.int v95]) hx hb hml hown hts hkb hH (ox_c hOX) hks hE hS hA (s_Tok_isLetter l D cs kf T (a0 :: O) ((a0, .inr (7, [.ref q0_0, .int q0_1, .int f8_2, .int f8_2, .int q0_4, .int q0_5, .int q0_6, .int q0_7])) :: X) v95  (hO.sub (by decide))) kw_456 kw_457 kw_3 kw_458 (by decide +kernel) ⟨Nat.le_of_ble_eq_true rfl, Nat.le_of_ble_eq_true rfl⟩ rfl rfl hl.1 (Nat.le_of_ble_eq_true rfl) dX7_go_96 ⟨Nat.le_of_ble_eq_true rfl, Nat.le_of_ble_eq_true rfl⟩) (fun v96 u H locs hz9 hH hS => ?_)
          obtain ⟨rfl, l_v96, u_v96⟩ := hz9
          have hH : HT D cs A T (a0 :: O) ((a0, .inr (7, [.ref q0_0, .int q0_1, .int f8_2, .int f8_2, .int q0_4, .int q0_5, .int q0_6, .int q0_7])) :: X) H := hH
          refine W.widen (k := 0) (n := 0) (Nat.le_of_ble_eq_true rfl) (Nat.le_of_ble_eq_true rfl) ?_
          refine lv_if_eq (tgt := 146) hx hb dX7_go_99 (by decide) (fun c99 => ?_) (fun c99 => ?_)
          · skip
            have tc99 := f_eq (k := 0) (by decide) c99
            refine lv_aload_n hx hb dX7_go_146 rfl (lv_at hl 0 rfl) ?_
            refine x_get (ci := 7) (C := RX7) (F := TX7) (N := 8) (v := .ref q0_0) hx hb hts uX7 hown hkb hH rfl 0 (by decide) rfl kw_44 (fun _ h9 => h9) dX7_go_147 ?_
            refine lv_aload_n hx hb dX7_go_150 rfl (lv_at hl 0 rfl) ?_
            refine x_get (ci := 7) (C := RX7) (F := TX7) (N := 8) (v := .int f8_2) hx hb hts uX7 hown hkb hH rfl 2 (by decide) rfl kw_46 (fun _ h9 => h9) dX7_go_151 ?_
            refine t_bld hx hb hkb hH t_q0_0 (hO.no t_q0_0 (by decide)) (by omega) (by omega) dX7_go_154 (fun v154 => ?_)
            refine tk_i hH hS hA (tr_S (n := 1) (As := [.int v154]) hx hb hml hown hts hkb hH (ox_c hOX) hks hE hS hA (s_Tok_isDigit l D cs kf T (a0 :: O) ((a0, .inr (7, [.ref q0_0, .int q0_1, .int f8_2, .int f8_2, .int q0_4, .int q0_5, .int q0_6, .int q0_7])) :: X) v154  (hO.sub (by decide))) kw_459 kw_460 kw_3 kw_461 (by decide +kernel) ⟨Nat.le_of_ble_eq_true rfl, Nat.le_of_ble_eq_true rfl⟩ rfl rfl hl.1 (Nat.le_of_ble_eq_true rfl) dX7_go_155 ⟨Nat.le_of_ble_eq_true rfl, Nat.le_of_ble_eq_true rfl⟩) (fun v155 u H locs hz9 hH hS => ?_)
            obtain ⟨rfl, l_v155, u_v155⟩ := hz9
            have hH : HT D cs A T (a0 :: O) ((a0, .inr (7, [.ref q0_0, .int q0_1, .int f8_2, .int f8_2, .int q0_4, .int q0_5, .int q0_6, .int q0_7])) :: X) H := hH
            refine W.widen (k := 0) (n := 0) (Nat.le_of_ble_eq_true rfl) (Nat.le_of_ble_eq_true rfl) ?_
            refine lv_if_eq (tgt := 254) hx hb dX7_go_158 (by decide) (fun c158 => ?_) (fun c158 => ?_)
            · skip
              have tc158 := f_eq (k := 0) (by decide) c158
              refine lv_aload_n hx hb dX7_go_254 rfl (lv_at hl 0 rfl) ?_
              refine lv_aload_n hx hb dX7_go_255 rfl (lv_at hl 0 rfl) ?_
              refine x_get (ci := 7) (C := RX7) (F := TX7) (N := 8) (v := .ref q0_0) hx hb hts uX7 hown hkb hH rfl 0 (by decide) rfl kw_44 (fun _ h9 => h9) dX7_go_256 ?_
              refine lv_aload_n hx hb dX7_go_259 rfl (lv_at hl 0 rfl) ?_
              refine x_get (ci := 7) (C := RX7) (F := TX7) (N := 8) (v := .int f8_2) hx hb hts uX7 hown hkb hH rfl 2 (by decide) rfl kw_46 (fun _ h9 => h9) dX7_go_260 ?_
              refine t_bld hx hb hkb hH t_q0_0 (hO.no t_q0_0 (by decide)) (by omega) (by omega) dX7_go_263 (fun v263 => ?_)
              refine lv_sipush (v := 255) hx hb dX7_go_264 (by decide) ?_
              refine lv_iand hx hb dX7_go_267 ?_
              refine lv_topi (fun v267 ev267 => ?_)
              have tv267 : 0 ≤ v267.toInt ∧ v267.toInt ≤ 255 := by rw [ev267]; exact and_r (by decide)
              refine x_put (ci := 7) (v := .int v267) (ty := tyX7 5) (C := RX7) (F := TX7) (N := 8) hx hb hts uX7 tyX7 tyX7_ok nmX7 hown hkb hH hS rfl 5 (by decide) kw_51 (fun _ h9 => h9) rfl (tyX7_ok 5 (by decide)) rfl rfl (Nat.le_of_ble_eq_true rfl) dX7_go_268 (fun H locs hH hS => ?_)
              have hH : HT D cs A T (a0 :: O) ((a0, .inr (7, [.ref q0_0, .int q0_1, .int f8_2, .int f8_2, .int q0_4, .int v267, .int q0_6, .int q0_7])) :: X) H := hH
              refine lv_aload_n hx hb dX7_go_271 rfl (lv_at hl 0 rfl) ?_
              refine va_ldcS (q := kf.1 0) hx hb hown (hks ("FootholdWall$Tokens", 53, ";:+-*()[]=<>", 0) (by decide +kernel)) dX7_go_272 ?_
              refine lv_aload_n hx hb dX7_go_274 rfl (lv_at hl 0 rfl) ?_
              refine x_get (ci := 7) (C := RX7) (F := TX7) (N := 8) (v := .int v267) hx hb hts uX7 hown hkb hH rfl 5 (by decide) rfl kw_51 (fun _ h9 => h9) dX7_go_275 ?_
              refine lv_i2c (v := v267) hx hb dX7_go_278 (i2c_id (by omega) (by omega)) ?_
              refine tk_i hH hS hA (tr_V (n := 1) (As := [.int v267]) hx hb hml hown hts hkb hH (ox_c hOX) hks hE hS hA (s_indexOf1 l D cs kf T (a0 :: O) ((a0, .inr (7, [.ref q0_0, .int q0_1, .int f8_2, .int f8_2, .int q0_4, .int v267, .int q0_6, .int q0_7])) :: X) 0 v267 (by decide) (hO.sub (by decide))) kw_463 kw_464 kw_465 kw_14 kw_466 (by decide +kernel) ⟨Nat.le_of_ble_eq_true rfl, Nat.le_of_ble_eq_true rfl⟩ (vk_recv hE.1 (by decide) hS) rfl rfl hl.1 (Nat.le_of_ble_eq_true rfl) dX7_go_279 ⟨Nat.le_of_ble_eq_true rfl, Nat.le_of_ble_eq_true rfl⟩) (fun v279 u H locs hz9 hH hS => ?_)
              obtain ⟨rfl, l_v279, u_v279⟩ := hz9
              have hH : HT D cs A T (a0 :: O) ((a0, .inr (7, [.ref q0_0, .int q0_1, .int f8_2, .int f8_2, .int q0_4, .int v267, .int q0_6, .int q0_7])) :: X) H := hH
              refine W.widen (k := 0) (n := 0) (Nat.le_of_ble_eq_true rfl) (Nat.le_of_ble_eq_true rfl) ?_
              have J290 : ∀ (k290_0 : Int32) (H : Heap) (locs : List Loc) (ls : Array Slot), (3 ≤ k290_0.toInt) → (k290_0.toInt ≤ 4) → HT D cs A T (a0 :: O) ((a0, .inr (7, [.ref q0_0, .int q0_1, .int f8_2, .int f8_2, .int q0_4, .int v267, .int q0_6, .int q0_7])) :: X) H → va_S A s.heap H locs → lv_has ls 1 [(0, .ref a0)] → W p l e { frames := 4, cells := 0, slots := 0, locals := 91 } s m [.ref a0].toArray below meth c H locs 0 0 (MQ below (Tv D cs (fun u => u = (T, O, X)) A) [.ref a0].toArray s 0 0 A) (F0 m 290 ls [.int k290_0, .ref a0]) := by
                intro k290_0 H locs ls l_k290_0 u_k290_0 hH hS hl
                refine x_put (ci := 7) (v := .int k290_0) (ty := tyX7 4) (C := RX7) (F := TX7) (N := 8) hx hb hts uX7 tyX7 tyX7_ok nmX7 hown hkb hH hS rfl 4 (by decide) kw_48 (fun _ h9 => h9) rfl (tyX7_ok 4 (by decide)) rfl rfl (Nat.le_of_ble_eq_true rfl) dX7_go_290 (fun H locs hH hS => ?_)
                have hH : HT D cs A T (a0 :: O) ((a0, .inr (7, [.ref q0_0, .int q0_1, .int f8_2, .int f8_2, .int k290_0, .int v267, .int q0_6, .int q0_7])) :: X) H := hH
                refine lv_aload_n hx hb dX7_go_293 rfl (lv_at hl 0 rfl) ?_
                refine lv_dup hx hb dX7_go_294 rfl ?_
                refine x_get (ci := 7) (C := RX7) (F := TX7) (N := 8) (v := .int f8_2) hx hb hts uX7 hown hkb hH rfl 3 (by decide) rfl kw_47 (fun _ h9 => h9) dX7_go_295 ?_
                refine lv_iconst (v := 1) hx hb dX7_go_298 (by decide) ?_
                refine lv_iadd hx hb dX7_go_299 ?_
                refine lv_topi (fun v299 ev299 => ?_)
                have tv299 : v299.toInt = f8_2.toInt + (1) := by rw [ev299]; exact add_i rfl (by decide : (1 : Int32).toInt = 1) (by omega) (by omega)
                refine x_put (ci := 7) (v := .int v299) (ty := tyX7 3) (C := RX7) (F := TX7) (N := 8) hx hb hts uX7 tyX7 tyX7_ok nmX7 hown hkb hH hS rfl 3 (by decide) kw_47 (fun _ h9 => h9) rfl (tyX7_ok 3 (by decide)) rfl rfl (Nat.le_of_ble_eq_true rfl) dX7_go_300 (fun H locs hH hS => ?_)
                have hH : HT D cs A T (a0 :: O) ((a0, .inr (7, [.ref q0_0, .int q0_1, .int f8_2, .int v299, .int k290_0, .int v267, .int q0_6, .int q0_7])) :: X) H := hH
                exact J303 v299 k290_0 v267 _ _ _ (by omega) (by omega) (by omega) (by omega) (by omega) hH hS (lv_sub hl [] rfl)
              refine lv_if_lt (tgt := 289) hx hb dX7_go_282 (by decide) (fun c282 => ?_) (fun c282 => ?_)
              · skip
                have tc282 := f_lt (k := 0) (by decide) c282
                refine lv_iconst (v := 4) hx hb dX7_go_289 (by decide) ?_
                exact J290 4 _ _ _ (by decide) (by decide) hH hS (lv_sub hl [0] rfl)
              · skip
                have tc282 := f_nlt (k := 0) (by decide) c282
                refine lv_iconst (v := 3) hx hb dX7_go_285 (by decide) ?_
                refine lv_goto (tgt := 290) hx hb dX7_go_286 (by decide) ?_
                exact J290 3 _ _ _ (by decide) (by decide) hH hS (lv_sub hl [0] rfl)
            · skip
              have tc158 := f_ne (k := 0) (by decide) c158
              refine lv_aload_n hx hb dX7_go_161 rfl (lv_at hl 0 rfl) ?_
              refine lv_iconst (v := 0) hx hb dX7_go_162 (by decide) ?_
              have J166 : ∀ (n : Nat) (f166_3 : Int32) (f166_5 : Int32) (H : Heap) (locs : List Loc) (ls : Array Slot), (900 - f166_3.toInt).toNat = n → (0 ≤ f166_3.toInt) → (f166_3.toInt ≤ 900) → (f166_3.toInt ≤ nq0_0 ∧ 0 ≤ f166_3.toInt) → HT D cs A T (a0 :: O) ((a0, .inr (7, [.ref q0_0, .int q0_1, .int f8_2, .int f166_3, .int q0_4, .int f166_5, .int q0_6, .int q0_7])) :: X) H → va_S A s.heap H locs → lv_has ls 1 [(0, .ref a0)] → W p l e { frames := 4, cells := 0, slots := 0, locals := 91 } s m [.ref a0].toArray below meth c H locs 0 0 (MQ below (Tv D cs (fun u => u = (T, O, X)) A) [.ref a0].toArray s 0 0 A) (F0 m 166 ls []) := by
                intro n
                induction n using Nat.strongRecOn with
                | _ n ih166 =>
                  intro f166_3 f166_5 H locs ls hm166 l_f166_3 u_f166_3 i166 hH hS hl
                  refine lv_aload_n hx hb dX7_go_166 rfl (lv_at hl 0 rfl) ?_
                  refine x_get (ci := 7) (C := RX7) (F := TX7) (N := 8) (v := .int f166_3) hx hb hts uX7 hown hkb hH rfl 3 (by decide) rfl kw_47 (fun _ h9 => h9) dX7_go_167 ?_
                  refine lv_aload_n hx hb dX7_go_170 rfl (lv_at hl 0 rfl) ?_
                  refine x_get (ci := 7) (C := RX7) (F := TX7) (N := 8) (v := .int q0_1) hx hb hts uX7 hown hkb hH rfl 1 (by decide) rfl kw_45 (fun _ h9 => h9) dX7_go_171 ?_
                  have J229 : ∀  (H : Heap) (locs : List Loc) (ls : Array Slot), HT D cs A T (a0 :: O) ((a0, .inr (7, [.ref q0_0, .int q0_1, .int f8_2, .int f166_3, .int q0_4, .int f166_5, .int q0_6, .int q0_7])) :: X) H → va_S A s.heap H locs → lv_has ls 1 [(0, .ref a0)] → W p l e { frames := 4, cells := 0, slots := 0, locals := 91 } s m [.ref a0].toArray below meth c H locs 0 0 (MQ below (Tv D cs (fun u => u = (T, O, X)) A) [.ref a0].toArray s 0 0 A) (F0 m 229 ls []) := by
                    intro  H locs ls  hH hS hl
                    refine lv_aload_n hx hb dX7_go_229 rfl (lv_at hl 0 rfl) ?_
                    refine lv_aload_n hx hb dX7_go_230 rfl (lv_at hl 0 rfl) ?_
                    refine x_get (ci := 7) (C := RX7) (F := TX7) (N := 8) (v := .int f166_3) hx hb hts uX7 hown hkb hH rfl 3 (by decide) rfl kw_47 (fun _ h9 => h9) dX7_go_231 ?_
                    refine lv_aload_n hx hb dX7_go_234 rfl (lv_at hl 0 rfl) ?_
                    refine x_get (ci := 7) (C := RX7) (F := TX7) (N := 8) (v := .int f8_2) hx hb hts uX7 hown hkb hH rfl 2 (by decide) rfl kw_46 (fun _ h9 => h9) dX7_go_235 ?_
                    refine lv_isub hx hb dX7_go_238 ?_
                    refine lv_topi (fun v238 ev238 => ?_)
                    have tv238 : v238.toInt = f166_3.toInt - f8_2.toInt := by rw [ev238]; exact sub_i rfl rfl (by omega) (by omega)
                    refine lv_iconst (v := 3) hx hb dX7_go_239 (by decide) ?_
                    have J248 : ∀ (k248_0 : Int32) (H : Heap) (locs : List Loc) (ls : Array Slot), (2 ≤ k248_0.toInt) → (k248_0.toInt ≤ 4) → HT D cs A T (a0 :: O) ((a0, .inr (7, [.ref q0_0, .int q0_1, .int f8_2, .int f166_3, .int q0_4, .int f166_5, .int q0_6, .int q0_7])) :: X) H → va_S A s.heap H locs → lv_has ls 1 [] → W p l e { frames := 4, cells := 0, slots := 0, locals := 91 } s m [.ref a0].toArray below meth c H locs 0 0 (MQ below (Tv D cs (fun u => u = (T, O, X)) A) [.ref a0].toArray s 0 0 A) (F0 m 248 ls [.int k248_0, .ref a0]) := by
                      intro k248_0 H locs ls l_k248_0 u_k248_0 hH hS hl
                      refine x_put (ci := 7) (v := .int k248_0) (ty := tyX7 4) (C := RX7) (F := TX7) (N := 8) hx hb hts uX7 tyX7 tyX7_ok nmX7 hown hkb hH hS rfl 4 (by decide) kw_48 (fun _ h9 => h9) rfl (tyX7_ok 4 (by decide)) rfl rfl (Nat.le_of_ble_eq_true rfl) dX7_go_248 (fun H locs hH hS => ?_)
                      have hH : HT D cs A T (a0 :: O) ((a0, .inr (7, [.ref q0_0, .int q0_1, .int f8_2, .int f166_3, .int k248_0, .int f166_5, .int q0_6, .int q0_7])) :: X) H := hH
                      refine lv_goto (tgt := 303) hx hb dX7_go_251 (by decide) ?_
                      exact J303 f166_3 k248_0 f166_5 _ _ _ (by omega) (by omega) (by omega) (by omega) (by omega) hH hS (lv_sub hl [] rfl)
                    refine lv_icmp_gt (tgt := 247) hx hb dX7_go_240 (by decide) (fun c240 => ?_) (fun c240 => ?_)
                    · skip
                      have tc240 := f_gt (k := 3) (by decide) c240
                      refine lv_iconst (v := 4) hx hb dX7_go_247 (by decide) ?_
                      exact J248 4 _ _ _ (by decide) (by decide) hH hS (lv_sub hl [] rfl)
                    · skip
                      have tc240 := f_ngt (k := 3) (by decide) c240
                      refine lv_iconst (v := 2) hx hb dX7_go_243 (by decide) ?_
                      refine lv_goto (tgt := 248) hx hb dX7_go_244 (by decide) ?_
                      exact J248 2 _ _ _ (by decide) (by decide) hH hS (lv_sub hl [] rfl)
                  refine lv_icmp_ge (tgt := 229) hx hb dX7_go_174 (by decide) (fun c174 => ?_) (fun c174 => ?_)
                  · skip
                    have fuc174 := full_i f166_3
                    have fvc174 := full_i q0_1
                    have tc174 := g_le c174
                    exact J229  _ _ _  hH hS (lv_sub hl [0] rfl)
                  · skip
                    have fuc174 := full_i f166_3
                    have fvc174 := full_i q0_1
                    have tc174 := g_nle c174
                    refine lv_aload_n hx hb dX7_go_177 rfl (lv_at hl 0 rfl) ?_
                    refine x_get (ci := 7) (C := RX7) (F := TX7) (N := 8) (v := .ref q0_0) hx hb hts uX7 hown hkb hH rfl 0 (by decide) rfl kw_44 (fun _ h9 => h9) dX7_go_178 ?_
                    refine lv_aload_n hx hb dX7_go_181 rfl (lv_at hl 0 rfl) ?_
                    refine x_get (ci := 7) (C := RX7) (F := TX7) (N := 8) (v := .int f166_3) hx hb hts uX7 hown hkb hH rfl 3 (by decide) rfl kw_47 (fun _ h9 => h9) dX7_go_182 ?_
                    refine t_bld hx hb hkb hH t_q0_0 (hO.no t_q0_0 (by decide)) (by omega) (by omega) dX7_go_185 (fun v185 => ?_)
                    refine tk_i hH hS hA (tr_S (n := 1) (As := [.int v185]) hx hb hml hown hts hkb hH (ox_c hOX) hks hE hS hA (s_Tok_isDigit l D cs kf T (a0 :: O) ((a0, .inr (7, [.ref q0_0, .int q0_1, .int f8_2, .int f166_3, .int q0_4, .int f166_5, .int q0_6, .int q0_7])) :: X) v185  (hO.sub (by decide))) kw_459 kw_460 kw_3 kw_461 (by decide +kernel) ⟨Nat.le_of_ble_eq_true rfl, Nat.le_of_ble_eq_true rfl⟩ rfl rfl hl.1 (Nat.le_of_ble_eq_true rfl) dX7_go_186 ⟨Nat.le_of_ble_eq_true rfl, Nat.le_of_ble_eq_true rfl⟩) (fun v186 u H locs hz9 hH hS => ?_)
                    obtain ⟨rfl, l_v186, u_v186⟩ := hz9
                    have hH : HT D cs A T (a0 :: O) ((a0, .inr (7, [.ref q0_0, .int q0_1, .int f8_2, .int f166_3, .int q0_4, .int f166_5, .int q0_6, .int q0_7])) :: X) H := hH
                    refine W.widen (k := 0) (n := 0) (Nat.le_of_ble_eq_true rfl) (Nat.le_of_ble_eq_true rfl) ?_
                    refine lv_if_eq (tgt := 229) hx hb dX7_go_189 (by decide) (fun c189 => ?_) (fun c189 => ?_)
                    · skip
                      have tc189 := f_eq (k := 0) (by decide) c189
                      exact J229  _ _ _  hH hS (lv_sub hl [0] rfl)
                    · skip
                      have tc189 := f_ne (k := 0) (by decide) c189
                      refine lv_aload_n hx hb dX7_go_192 rfl (lv_at hl 0 rfl) ?_
                      refine lv_aload_n hx hb dX7_go_193 rfl (lv_at hl 0 rfl) ?_
                      refine x_get (ci := 7) (C := RX7) (F := TX7) (N := 8) (v := .int f166_5) hx hb hts uX7 hown hkb hH rfl 5 (by decide) rfl kw_51 (fun _ h9 => h9) dX7_go_194 ?_
                      refine lv_bipush (v := 10) hx hb dX7_go_197 (by decide) ?_
                      refine lv_imul hx hb dX7_go_199 ?_
                      refine lv_topi (fun v199 ev199 => ?_)
                      refine lv_aload_n hx hb dX7_go_200 rfl (lv_at hl 0 rfl) ?_
                      refine x_get (ci := 7) (C := RX7) (F := TX7) (N := 8) (v := .ref q0_0) hx hb hts uX7 hown hkb hH rfl 0 (by decide) rfl kw_44 (fun _ h9 => h9) dX7_go_201 ?_
                      refine lv_aload_n hx hb dX7_go_204 rfl (lv_at hl 0 rfl) ?_
                      refine x_get (ci := 7) (C := RX7) (F := TX7) (N := 8) (v := .int f166_3) hx hb hts uX7 hown hkb hH rfl 3 (by decide) rfl kw_47 (fun _ h9 => h9) dX7_go_205 ?_
                      refine t_bld hx hb hkb hH t_q0_0 (hO.no t_q0_0 (by decide)) (by omega) (by omega) dX7_go_208 (fun v208 => ?_)
                      refine lv_bipush (v := 48) hx hb dX7_go_209 (by decide) ?_
                      refine lv_isub hx hb dX7_go_211 ?_
                      refine lv_topi (fun v211 ev211 => ?_)
                      refine lv_iadd hx hb dX7_go_212 ?_
                      refine lv_topi (fun v212 ev212 => ?_)
                      refine x_put (ci := 7) (v := .int v212) (ty := tyX7 5) (C := RX7) (F := TX7) (N := 8) hx hb hts uX7 tyX7 tyX7_ok nmX7 hown hkb hH hS rfl 5 (by decide) kw_51 (fun _ h9 => h9) rfl (tyX7_ok 5 (by decide)) rfl rfl (Nat.le_of_ble_eq_true rfl) dX7_go_213 (fun H locs hH hS => ?_)
                      have hH : HT D cs A T (a0 :: O) ((a0, .inr (7, [.ref q0_0, .int q0_1, .int f8_2, .int f166_3, .int q0_4, .int v212, .int q0_6, .int q0_7])) :: X) H := hH
                      refine lv_aload_n hx hb dX7_go_216 rfl (lv_at hl 0 rfl) ?_
                      refine lv_dup hx hb dX7_go_217 rfl ?_
                      refine x_get (ci := 7) (C := RX7) (F := TX7) (N := 8) (v := .int f166_3) hx hb hts uX7 hown hkb hH rfl 3 (by decide) rfl kw_47 (fun _ h9 => h9) dX7_go_218 ?_
                      refine lv_iconst (v := 1) hx hb dX7_go_221 (by decide) ?_
                      refine lv_iadd hx hb dX7_go_222 ?_
                      refine lv_topi (fun v222 ev222 => ?_)
                      have tv222 : v222.toInt = f166_3.toInt + (1) := by rw [ev222]; exact add_i rfl (by decide : (1 : Int32).toInt = 1) (by omega) (by omega)
                      refine x_put (ci := 7) (v := .int v222) (ty := tyX7 3) (C := RX7) (F := TX7) (N := 8) hx hb hts uX7 tyX7 tyX7_ok nmX7 hown hkb hH hS rfl 3 (by decide) kw_47 (fun _ h9 => h9) rfl (tyX7_ok 3 (by decide)) rfl rfl (Nat.le_of_ble_eq_true rfl) dX7_go_223 (fun H locs hH hS => ?_)
                      have hH : HT D cs A T (a0 :: O) ((a0, .inr (7, [.ref q0_0, .int q0_1, .int f8_2, .int v222, .int q0_4, .int v212, .int q0_6, .int q0_7])) :: X) H := hH
                      refine lv_goto (tgt := 166) hx hb dX7_go_226 (by decide) ?_
                      exact ih166 _ (by omega) v222 v212 _ _ _ rfl (by omega) (by omega) (by omega) hH hS (lv_sub hl [0] rfl)
              refine x_put (ci := 7) (v := .int 0) (ty := tyX7 5) (C := RX7) (F := TX7) (N := 8) hx hb hts uX7 tyX7 tyX7_ok nmX7 hown hkb hH hS rfl 5 (by decide) kw_51 (fun _ h9 => h9) rfl (tyX7_ok 5 (by decide)) rfl rfl (Nat.le_of_ble_eq_true rfl) dX7_go_163 (fun H locs hH hS => ?_)
              have hH : HT D cs A T (a0 :: O) ((a0, .inr (7, [.ref q0_0, .int q0_1, .int f8_2, .int f8_2, .int q0_4, .int 0, .int q0_6, .int q0_7])) :: X) H := hH
              have z_0 : (0 : Int32).toInt = 0 := by decide
              exact J166 _ f8_2 0 _ _ _ rfl (by omega) (by omega) (by omega) hH hS (lv_sub hl [0] rfl)
          · skip
            have tc99 := f_ne (k := 0) (by decide) c99
            refine lv_aload_n hx hb dX7_go_102 rfl (lv_at hl 0 rfl) ?_
            refine lv_iconst (v := 1) hx hb dX7_go_103 (by decide) ?_
            have J107 : ∀ (n : Nat) (f107_3 : Int32) (H : Heap) (locs : List Loc) (ls : Array Slot), (900 - f107_3.toInt).toNat = n → (0 ≤ f107_3.toInt) → (f107_3.toInt ≤ 900) → (f107_3.toInt ≤ nq0_0 ∧ 0 ≤ f107_3.toInt) → HT D cs A T (a0 :: O) ((a0, .inr (7, [.ref q0_0, .int q0_1, .int f8_2, .int f107_3, .int 1, .int q0_5, .int q0_6, .int q0_7])) :: X) H → va_S A s.heap H locs → lv_has ls 1 [(0, .ref a0)] → W p l e { frames := 4, cells := 0, slots := 0, locals := 91 } s m [.ref a0].toArray below meth c H locs 0 0 (MQ below (Tv D cs (fun u => u = (T, O, X)) A) [.ref a0].toArray s 0 0 A) (F0 m 107 ls []) := by
              intro n
              induction n using Nat.strongRecOn with
              | _ n ih107 =>
                intro f107_3 H locs ls hm107 l_f107_3 u_f107_3 i107 hH hS hl
                refine lv_aload_n hx hb dX7_go_107 rfl (lv_at hl 0 rfl) ?_
                refine x_get (ci := 7) (C := RX7) (F := TX7) (N := 8) (v := .int f107_3) hx hb hts uX7 hown hkb hH rfl 3 (by decide) rfl kw_47 (fun _ h9 => h9) dX7_go_108 ?_
                refine lv_aload_n hx hb dX7_go_111 rfl (lv_at hl 0 rfl) ?_
                refine x_get (ci := 7) (C := RX7) (F := TX7) (N := 8) (v := .int q0_1) hx hb hts uX7 hown hkb hH rfl 1 (by decide) rfl kw_45 (fun _ h9 => h9) dX7_go_112 ?_
                refine lv_icmp_ge (tgt := 303) hx hb dX7_go_115 (by decide) (fun c115 => ?_) (fun c115 => ?_)
                · skip
                  have fuc115 := full_i f107_3
                  have fvc115 := full_i q0_1
                  have tc115 := g_le c115
                  have z_1 : (1 : Int32).toInt = 1 := by decide
                  exact J303 f107_3 1 q0_5 _ _ _ (by omega) (by omega) (by decide) (by decide) (by omega) hH hS (lv_sub hl [] rfl)
                · skip
                  have fuc115 := full_i f107_3
                  have fvc115 := full_i q0_1
                  have tc115 := g_nle c115
                  refine lv_aload_n hx hb dX7_go_118 rfl (lv_at hl 0 rfl) ?_
                  refine x_get (ci := 7) (C := RX7) (F := TX7) (N := 8) (v := .ref q0_0) hx hb hts uX7 hown hkb hH rfl 0 (by decide) rfl kw_44 (fun _ h9 => h9) dX7_go_119 ?_
                  refine lv_aload_n hx hb dX7_go_122 rfl (lv_at hl 0 rfl) ?_
                  refine x_get (ci := 7) (C := RX7) (F := TX7) (N := 8) (v := .int f107_3) hx hb hts uX7 hown hkb hH rfl 3 (by decide) rfl kw_47 (fun _ h9 => h9) dX7_go_123 ?_
                  refine t_bld hx hb hkb hH t_q0_0 (hO.no t_q0_0 (by decide)) (by omega) (by omega) dX7_go_126 (fun v126 => ?_)
                  refine tk_i hH hS hA (tr_S (n := 1) (As := [.int v126]) hx hb hml hown hts hkb hH (ox_c hOX) hks hE hS hA (s_Tok_isLetter l D cs kf T (a0 :: O) ((a0, .inr (7, [.ref q0_0, .int q0_1, .int f8_2, .int f107_3, .int 1, .int q0_5, .int q0_6, .int q0_7])) :: X) v126  (hO.sub (by decide))) kw_456 kw_457 kw_3 kw_458 (by decide +kernel) ⟨Nat.le_of_ble_eq_true rfl, Nat.le_of_ble_eq_true rfl⟩ rfl rfl hl.1 (Nat.le_of_ble_eq_true rfl) dX7_go_127 ⟨Nat.le_of_ble_eq_true rfl, Nat.le_of_ble_eq_true rfl⟩) (fun v127 u H locs hz9 hH hS => ?_)
                  obtain ⟨rfl, l_v127, u_v127⟩ := hz9
                  have hH : HT D cs A T (a0 :: O) ((a0, .inr (7, [.ref q0_0, .int q0_1, .int f8_2, .int f107_3, .int 1, .int q0_5, .int q0_6, .int q0_7])) :: X) H := hH
                  refine W.widen (k := 0) (n := 0) (Nat.le_of_ble_eq_true rfl) (Nat.le_of_ble_eq_true rfl) ?_
                  refine lv_if_eq (tgt := 303) hx hb dX7_go_130 (by decide) (fun c130 => ?_) (fun c130 => ?_)
                  · skip
                    have tc130 := f_eq (k := 0) (by decide) c130
                    have z_1 : (1 : Int32).toInt = 1 := by decide
                    exact J303 f107_3 1 q0_5 _ _ _ (by omega) (by omega) (by decide) (by decide) (by omega) hH hS (lv_sub hl [] rfl)
                  · skip
                    have tc130 := f_ne (k := 0) (by decide) c130
                    refine lv_aload_n hx hb dX7_go_133 rfl (lv_at hl 0 rfl) ?_
                    refine lv_dup hx hb dX7_go_134 rfl ?_
                    refine x_get (ci := 7) (C := RX7) (F := TX7) (N := 8) (v := .int f107_3) hx hb hts uX7 hown hkb hH rfl 3 (by decide) rfl kw_47 (fun _ h9 => h9) dX7_go_135 ?_
                    refine lv_iconst (v := 1) hx hb dX7_go_138 (by decide) ?_
                    refine lv_iadd hx hb dX7_go_139 ?_
                    refine lv_topi (fun v139 ev139 => ?_)
                    have tv139 : v139.toInt = f107_3.toInt + (1) := by rw [ev139]; exact add_i rfl (by decide : (1 : Int32).toInt = 1) (by omega) (by omega)
                    refine x_put (ci := 7) (v := .int v139) (ty := tyX7 3) (C := RX7) (F := TX7) (N := 8) hx hb hts uX7 tyX7 tyX7_ok nmX7 hown hkb hH hS rfl 3 (by decide) kw_47 (fun _ h9 => h9) rfl (tyX7_ok 3 (by decide)) rfl rfl (Nat.le_of_ble_eq_true rfl) dX7_go_140 (fun H locs hH hS => ?_)
                    have hH : HT D cs A T (a0 :: O) ((a0, .inr (7, [.ref q0_0, .int q0_1, .int f8_2, .int v139, .int 1, .int q0_5, .int q0_6, .int q0_7])) :: X) H := hH
                    refine lv_goto (tgt := 107) hx hb dX7_go_143 (by decide) ?_
                    exact ih107 _ (by omega) v139 _ _ _ rfl (by omega) (by omega) (by omega) hH hS (lv_sub hl [0] rfl)
            refine x_put (ci := 7) (v := .int 1) (ty := tyX7 4) (C := RX7) (F := TX7) (N := 8) hx hb hts uX7 tyX7 tyX7_ok nmX7 hown hkb hH hS rfl 4 (by decide) kw_48 (fun _ h9 => h9) rfl (tyX7_ok 4 (by decide)) rfl rfl (Nat.le_of_ble_eq_true rfl) dX7_go_104 (fun H locs hH hS => ?_)
            have hH : HT D cs A T (a0 :: O) ((a0, .inr (7, [.ref q0_0, .int q0_1, .int f8_2, .int f8_2, .int 1, .int q0_5, .int q0_6, .int q0_7])) :: X) H := hH
            exact J107 _ f8_2 _ _ _ rfl (by omega) (by omega) (by omega) hH hS (lv_sub hl [0] rfl)
        · skip
          have fuc76 := full_i f8_2
          have fvc76 := full_i q0_1
          have tc76 := g_nlt c76
          refine lv_aload_n hx hb dX7_go_79 rfl (lv_at hl 0 rfl) ?_
          refine lv_iconst (v := 0) hx hb dX7_go_80 (by decide) ?_
          refine x_put (ci := 7) (v := .int 0) (ty := tyX7 4) (C := RX7) (F := TX7) (N := 8) hx hb hts uX7 tyX7 tyX7_ok nmX7 hown hkb hH hS rfl 4 (by decide) kw_48 (fun _ h9 => h9) rfl (tyX7_ok 4 (by decide)) rfl rfl (Nat.le_of_ble_eq_true rfl) dX7_go_81 (fun H locs hH hS => ?_)
          have hH : HT D cs A T (a0 :: O) ((a0, .inr (7, [.ref q0_0, .int q0_1, .int f8_2, .int f8_2, .int 0, .int q0_5, .int q0_6, .int q0_7])) :: X) H := hH
          refine lv_goto (tgt := 303) hx hb dX7_go_84 (by decide) ?_
          have z_0 : (0 : Int32).toInt = 0 := by decide
          exact J303 f8_2 0 q0_5 _ _ _ (by omega) (by omega) (by decide) (by decide) (by omega) hH hS (lv_sub hl [] rfl)
      refine lv_icmp_ge (tgt := 60) hx hb dX7_go_16 (by decide) (fun c16 => ?_) (fun c16 => ?_)
      · skip
        have fuc16 := full_i f8_2
        have fvc16 := full_i q0_1
        have tc16 := g_le c16
        exact J60  _ _ _  hH hS (lv_sub hl [0] rfl)
      · skip
        have fuc16 := full_i f8_2
        have fvc16 := full_i q0_1
        have tc16 := g_nle c16
        refine lv_aload_n hx hb dX7_go_19 rfl (lv_at hl 0 rfl) ?_
        refine x_get (ci := 7) (C := RX7) (F := TX7) (N := 8) (v := .ref q0_0) hx hb hts uX7 hown hkb hH rfl 0 (by decide) rfl kw_44 (fun _ h9 => h9) dX7_go_20 ?_
        refine lv_aload_n hx hb dX7_go_23 rfl (lv_at hl 0 rfl) ?_
        refine x_get (ci := 7) (C := RX7) (F := TX7) (N := 8) (v := .int f8_2) hx hb hts uX7 hown hkb hH rfl 2 (by decide) rfl kw_46 (fun _ h9 => h9) dX7_go_24 ?_
        refine t_bld hx hb hkb hH t_q0_0 (hO.no t_q0_0 (by decide)) (by omega) (by omega) dX7_go_27 (fun v27 => ?_)
        refine lv_bipush (v := 10) hx hb dX7_go_28 (by decide) ?_
        have J47 : ∀  (H : Heap) (locs : List Loc) (ls : Array Slot), HT D cs A T (a0 :: O) ((a0, .inr (7, [.ref q0_0, .int q0_1, .int f8_2, .int q0_3, .int q0_4, .int q0_5, .int q0_6, .int q0_7])) :: X) H → va_S A s.heap H locs → lv_has ls 1 [(0, .ref a0)] → W p l e { frames := 4, cells := 0, slots := 0, locals := 91 } s m [.ref a0].toArray below meth c H locs 0 0 (MQ below (Tv D cs (fun u => u = (T, O, X)) A) [.ref a0].toArray s 0 0 A) (F0 m 47 ls []) := by
          intro  H locs ls  hH hS hl
          refine lv_aload_n hx hb dX7_go_47 rfl (lv_at hl 0 rfl) ?_
          refine lv_dup hx hb dX7_go_48 rfl ?_
          refine x_get (ci := 7) (C := RX7) (F := TX7) (N := 8) (v := .int f8_2) hx hb hts uX7 hown hkb hH rfl 2 (by decide) rfl kw_46 (fun _ h9 => h9) dX7_go_49 ?_
          refine lv_iconst (v := 1) hx hb dX7_go_52 (by decide) ?_
          refine lv_iadd hx hb dX7_go_53 ?_
          refine lv_topi (fun v53 ev53 => ?_)
          have tv53 : v53.toInt = f8_2.toInt + (1) := by rw [ev53]; exact add_i rfl (by decide : (1 : Int32).toInt = 1) (by omega) (by omega)
          refine x_put (ci := 7) (v := .int v53) (ty := tyX7 2) (C := RX7) (F := TX7) (N := 8) hx hb hts uX7 tyX7 tyX7_ok nmX7 hown hkb hH hS rfl 2 (by decide) kw_46 (fun _ h9 => h9) rfl (tyX7_ok 2 (by decide)) rfl rfl (Nat.le_of_ble_eq_true rfl) dX7_go_54 (fun H locs hH hS => ?_)
          have hH : HT D cs A T (a0 :: O) ((a0, .inr (7, [.ref q0_0, .int q0_1, .int v53, .int q0_3, .int q0_4, .int q0_5, .int q0_6, .int q0_7])) :: X) H := hH
          refine lv_goto (tgt := 8) hx hb dX7_go_57 (by decide) ?_
          exact ih8 _ (by omega) v53 _ _ _ rfl (by omega) (by omega) (by omega) hH hS (lv_sub hl [0] rfl)
        refine lv_icmp_eq (tgt := 47) hx hb dX7_go_30 (by decide) (fun c30 => ?_) (fun c30 => ?_)
        · skip
          have tc30 := f_eq (k := 10) (by decide) c30
          exact J47  _ _ _  hH hS (lv_sub hl [0] rfl)
        · skip
          have tc30 := f_ne (k := 10) (by decide) c30
          refine lv_aload_n hx hb dX7_go_33 rfl (lv_at hl 0 rfl) ?_
          refine x_get (ci := 7) (C := RX7) (F := TX7) (N := 8) (v := .ref q0_0) hx hb hts uX7 hown hkb hH rfl 0 (by decide) rfl kw_44 (fun _ h9 => h9) dX7_go_34 ?_
          refine lv_aload_n hx hb dX7_go_37 rfl (lv_at hl 0 rfl) ?_
          refine x_get (ci := 7) (C := RX7) (F := TX7) (N := 8) (v := .int f8_2) hx hb hts uX7 hown hkb hH rfl 2 (by decide) rfl kw_46 (fun _ h9 => h9) dX7_go_38 ?_
          refine t_bld hx hb hkb hH t_q0_0 (hO.no t_q0_0 (by decide)) (by omega) (by omega) dX7_go_41 (fun v41 => ?_)
          refine lv_bipush (v := 32) hx hb dX7_go_42 (by decide) ?_
          refine lv_icmp_ne (tgt := 60) hx hb dX7_go_44 (by decide) (fun c44 => ?_) (fun c44 => ?_)
          · skip
            have tc44 := f_ne (k := 32) (by decide) c44
            exact J60  _ _ _  hH hS (lv_sub hl [0] rfl)
          · skip
            have tc44 := f_eq (k := 32) (by decide) c44
            exact J47  _ _ _  hH hS (lv_sub hl [0] rfl)
  refine x_put (ci := 7) (v := .int q0_3) (ty := tyX7 2) (C := RX7) (F := TX7) (N := 8) hx hb hts uX7 tyX7 tyX7_ok nmX7 hown hkb hH hS rfl 2 (by decide) kw_46 (fun _ h9 => h9) rfl (tyX7_ok 2 (by decide)) rfl rfl (Nat.le_of_ble_eq_true rfl) dX7_go_5 (fun H locs hH hS => ?_)
  have hH : HT D cs A T (a0 :: O) ((a0, .inr (7, [.ref q0_0, .int q0_1, .int q0_3, .int q0_3, .int q0_4, .int q0_5, .int q0_6, .int q0_7])) :: X) H := hH
  exact J8 _ q0_3 _ _ _ rfl (by omega) (by omega) (by omega) hH hS (lv_sub hl [0] rfl)
set_option maxHeartbeats 4000000 in
set_option maxRecDepth 100000 in
theorem s_Tok_begin (l : Launch) (D : va_G) (cs : CS) (kf : KF) (T : TF) (O : List Nat) (X : va_W) (a0 : Nat) (a1 : Nat) (x2 : Int32) (t_a0 : T a0 = some (17, 0, 0)) (t_a1 : T a1 = some (0, 900, 0)) (l_x2 : 0 ≤ x2.toInt) (hO : okO T O [0, 17]) : TK l D cs kf yX7_begin cX7_begin 3 none { frames := 5, cells := 0, slots := 0, locals := 111 } [.ref a0, .ref a1, .int x2] T O X (Tv D cs (fun u => u = (T, O, X))) := by
  refine tk_of (by decide) (Nat.le_of_ble_eq_true rfl) (fun p e s m below meth c ls A H locs hx hb hr hml hown hts hlocks hnm hkb hH hS hA hOX hks hE hl => ?_)
  have hown : s.vm.findClass RX7 = some m.cls := hown
  have hl : lv_has ls 3 [(0, .ref a0), (1, .ref a1), (2, .int x2)] := hl
  have hO0 := hO
  obtain ⟨fs9, ho9, hH⟩ := hH.take t_a0 (hO0.no t_a0 (by decide))
  obtain ⟨q0_0, nq0_0, q0_1, q0_2, q0_3, q0_4, q0_5, q0_6, q0_7, rfl, t_q0_0, b_q0_0, l1_0, u1_0, l2_0, u2_0, l3_0, u3_0⟩ := ho9
  have hH : HT D cs A T (a0 :: O) ((a0, .inr (7, [.ref q0_0, .int q0_1, .int q0_2, .int q0_3, .int q0_4, .int q0_5, .int q0_6, .int q0_7])) :: X) H := hH
  have hO : okO T (a0 :: O) [0] := okO.cons (hO0.sub (by decide)) t_a0 (by decide)
  refine lv_aload_n hx hb dX7_begin_0 rfl (lv_at hl 0 rfl) ?_
  refine lv_aload_n hx hb dX7_begin_1 rfl (lv_at hl 1 rfl) ?_
  refine x_put (ci := 7) (v := .ref a1) (ty := tyX7 0) (C := RX7) (F := TX7) (N := 8) hx hb hts uX7 tyX7 tyX7_ok nmX7 hown hkb hH hS rfl 0 (by decide) kw_44 (fun _ h9 => h9) rfl (tyX7_ok 0 (by decide)) rfl rfl (Nat.le_of_ble_eq_true rfl) dX7_begin_2 (fun H locs hH hS => ?_)
  have hH : HT D cs A T (a0 :: O) ((a0, .inr (7, [.ref a1, .int q0_1, .int q0_2, .int q0_3, .int q0_4, .int q0_5, .int q0_6, .int q0_7])) :: X) H := hH
  refine lv_aload_n hx hb dX7_begin_5 rfl (lv_at hl 0 rfl) ?_
  refine lv_iload_n hx hb dX7_begin_6 rfl (lv_at hl 2 rfl) ?_
  refine lv_aload_n hx hb dX7_begin_7 rfl (lv_at hl 1 rfl) ?_
  refine t_len0 hx hb hkb hH t_a1 (hO.no t_a1 (by decide)) dX7_begin_8 ?_
  refine lv_topc (y := 900) (by rfl) ?_
  refine va_mmin hx hb (by rw [hml]; exact hl.1.symm) hown (hts _ kw_449) (hts _ kw_450) (hts _ kw_6) (hts _ kw_451) (Nat.le_of_ble_eq_true rfl) (Nat.le_of_ble_eq_true rfl) (Nat.le_of_ble_eq_true rfl) (Nat.le_of_ble_eq_true rfl) dX7_begin_9 ?_
  refine lv_topi (fun v9 ev9 => ?_)
  have tv9 : v9.toInt = min x2.toInt (900) := by rw [ev9]; exact min_i rfl (by decide : (900 : Int32).toInt = 900)
  refine x_put (ci := 7) (v := .int v9) (ty := tyX7 1) (C := RX7) (F := TX7) (N := 8) hx hb hts uX7 tyX7 tyX7_ok nmX7 hown hkb hH hS rfl 1 (by decide) kw_45 (fun _ h9 => h9) rfl (tyX7_ok 1 (by decide)) rfl rfl (Nat.le_of_ble_eq_true rfl) dX7_begin_12 (fun H locs hH hS => ?_)
  have hH : HT D cs A T (a0 :: O) ((a0, .inr (7, [.ref a1, .int v9, .int q0_2, .int q0_3, .int q0_4, .int q0_5, .int q0_6, .int q0_7])) :: X) H := hH
  refine lv_aload_n hx hb dX7_begin_15 rfl (lv_at hl 0 rfl) ?_
  refine lv_iconst (v := 0) hx hb dX7_begin_16 (by decide) ?_
  refine x_put (ci := 7) (v := .int 0) (ty := tyX7 3) (C := RX7) (F := TX7) (N := 8) hx hb hts uX7 tyX7 tyX7_ok nmX7 hown hkb hH hS rfl 3 (by decide) kw_47 (fun _ h9 => h9) rfl (tyX7_ok 3 (by decide)) rfl rfl (Nat.le_of_ble_eq_true rfl) dX7_begin_17 (fun H locs hH hS => ?_)
  have hH : HT D cs A T (a0 :: O) ((a0, .inr (7, [.ref a1, .int v9, .int q0_2, .int 0, .int q0_4, .int q0_5, .int q0_6, .int q0_7])) :: X) H := hH
  refine lv_aload_n hx hb dX7_begin_20 rfl (lv_at hl 0 rfl) ?_
  refine lv_iconst (v := 0) hx hb dX7_begin_21 (by decide) ?_
  refine x_put (ci := 7) (v := .int 0) (ty := tyX7 6) (C := RX7) (F := TX7) (N := 8) hx hb hts uX7 tyX7 tyX7_ok nmX7 hown hkb hH hS rfl 6 (by decide) kw_54 (fun _ h9 => h9) rfl (tyX7_ok 6 (by decide)) rfl rfl (Nat.le_of_ble_eq_true rfl) dX7_begin_22 (fun H locs hH hS => ?_)
  have hH : HT D cs A T (a0 :: O) ((a0, .inr (7, [.ref a1, .int v9, .int q0_2, .int 0, .int q0_4, .int q0_5, .int 0, .int q0_7])) :: X) H := hH
  refine lv_aload_n hx hb dX7_begin_25 rfl (lv_at hl 0 rfl) ?_
  refine lv_iconst (v := (-1)) hx hb dX7_begin_26 (by decide) ?_
  refine x_put (ci := 7) (v := .int (-1)) (ty := tyX7 7) (C := RX7) (F := TX7) (N := 8) hx hb hts uX7 tyX7 tyX7_ok nmX7 hown hkb hH hS rfl 7 (by decide) kw_56 (fun _ h9 => h9) rfl (tyX7_ok 7 (by decide)) rfl rfl (Nat.le_of_ble_eq_true rfl) dX7_begin_27 (fun H locs hH hS => ?_)
  have hH : HT D cs A T (a0 :: O) ((a0, .inr (7, [.ref a1, .int v9, .int q0_2, .int 0, .int q0_4, .int q0_5, .int 0, .int (-1)])) :: X) H := hH
  refine lv_aload_n hx hb dX7_begin_30 rfl (lv_at hl 0 rfl) ?_
  have k_0 : (0 : Int32).toInt = 0 := by decide
  have hH : HT D cs A T O X H := HT.lay (ci := 7) hH t_a0 (⟨_, _, _, _, _, _, _, _, _, rfl, t_a1, by omega, by omega, by omega, by omega, by omega, by omega, by omega⟩)
  have hO := hO0
  refine tk_v hH hS hA (tr_V (n := 0) (As := []) hx hb hml hown hts hkb hH hOX hks hE hS hA (s_Tok_go l D cs kf T O X a0 t_a0 (hO.sub (by decide))) kw_452 kw_453 kw_454 kw_3 kw_455 (by decide +kernel) ⟨Nat.le_of_ble_eq_true rfl, Nat.le_of_ble_eq_true rfl⟩ (HT.recv (ci := 7) hkb hH t_a0 (hO.no t_a0 (by decide)) rfl) rfl rfl hl.1 (Nat.le_of_ble_eq_true rfl) dX7_begin_31 ⟨Nat.le_of_ble_eq_true rfl, Nat.le_of_ble_eq_true rfl⟩) (fun u H locs hz9 hH hS => ?_)
  have hz9 : u = (T, O, X) := hz9
  subst hz9
  have hH : HT D cs A T O X H := hH
  obtain ⟨fs9, ho9, hH⟩ := hH.take t_a0 (hO0.no t_a0 (by decide))
  obtain ⟨q31_0, nq31_0, q31_1, q31_2, q31_3, q31_4, q31_5, q31_6, q31_7, rfl, t_q31_0, b_q31_0, l1_31, u1_31, l2_31, u2_31, l3_31, u3_31⟩ := ho9
  have hH : HT D cs A T (a0 :: O) ((a0, .inr (7, [.ref q31_0, .int q31_1, .int q31_2, .int q31_3, .int q31_4, .int q31_5, .int q31_6, .int q31_7])) :: X) H := hH
  have hO : okO T (a0 :: O) [0] := okO.cons (hO0.sub (by decide)) t_a0 (by decide)
  refine W.widen (k := 0) (n := 0) (Nat.le_of_ble_eq_true rfl) (Nat.le_of_ble_eq_true rfl) ?_
  have hH : HT D cs A T O X H := HT.lay (ci := 7) hH t_a0 (⟨_, _, _, _, _, _, _, _, _, rfl, t_q31_0, by omega, by omega, by omega, by omega, by omega, by omega, by omega⟩)
  have hO := hO0
  exact te_v hx hb hr hlocks hH hS rfl dX7_begin_34
set_option maxHeartbeats 4000000 in
set_option maxRecDepth 100000 in
theorem s_Tok_isWord (l : Launch) (D : va_G) (cs : CS) (kf : KF) (T : TF) (O : List Nat) (X : va_W) (a0 : Nat) (a1 : Nat) (t_a0 : T a0 = some (17, 0, 0)) (t_a1 : a1 < 21) (hO : okO T O [0, 17]) : TK l D cs kf yX7_isWord cX7_isWord 3 (some (.boolean)) { frames := 4, cells := 0, slots := 0, locals := 85 } [.ref a0, .ref (kf.1 a1)] T O X (Ti D cs (fun r u => u = (T, O, X) ∧ 0 ≤ r.toInt ∧ r.toInt ≤ 1)) := by
  refine tk_of (by decide) (Nat.le_of_ble_eq_true rfl) (fun p e s m below meth c ls A H locs hx hb hr hml hown hts hlocks hnm hkb hH hS hA hOX hks hE hl => ?_)
  have hown : s.vm.findClass RX7 = some m.cls := hown
  have hl : lv_has ls 3 [(0, .ref a0), (1, .ref (kf.1 a1))] := hl
  have hO0 := hO
  obtain ⟨fs9, ho9, hH⟩ := hH.take t_a0 (hO0.no t_a0 (by decide))
  obtain ⟨q0_0, nq0_0, q0_1, q0_2, q0_3, q0_4, q0_5, q0_6, q0_7, rfl, t_q0_0, b_q0_0, l1_0, u1_0, l2_0, u2_0, l3_0, u3_0⟩ := ho9
  have hH : HT D cs A T (a0 :: O) ((a0, .inr (7, [.ref q0_0, .int q0_1, .int q0_2, .int q0_3, .int q0_4, .int q0_5, .int q0_6, .int q0_7])) :: X) H := hH
  have hO : okO T (a0 :: O) [0] := okO.cons (hO0.sub (by decide)) t_a0 (by decide)
  refine lv_aload_n hx hb dX7_isWord_0 rfl (lv_at hl 0 rfl) ?_
  refine x_get (ci := 7) (C := RX7) (F := TX7) (N := 8) (v := .int q0_4) hx hb hts uX7 hown hkb hH rfl 4 (by decide) rfl kw_48 (fun _ h9 => h9) dX7_isWord_1 ?_
  refine lv_iconst (v := 1) hx hb dX7_isWord_4 (by decide) ?_
  have J24 : ∀  (H : Heap) (locs : List Loc) (ls : Array Slot), HT D cs A T (a0 :: O) ((a0, .inr (7, [.ref q0_0, .int q0_1, .int q0_2, .int q0_3, .int q0_4, .int q0_5, .int q0_6, .int q0_7])) :: X) H → va_S A s.heap H locs → lv_has ls 3 [] → W p l e { frames := 4, cells := 0, slots := 0, locals := 85 } s m [.ref a0, .ref (kf.1 a1)].toArray below meth c H locs 0 0 (MQ below (Ti D cs (fun r u => u = (T, O, X) ∧ 0 ≤ r.toInt ∧ r.toInt ≤ 1) A) [.ref a0, .ref (kf.1 a1)].toArray s 0 0 A) (F0 m 24 ls []) := by
    intro  H locs ls  hH hS hl
    refine lv_iconst (v := 0) hx hb dX7_isWord_24 (by decide) ?_
    have hH : HT D cs A T O X H := HT.lay (ci := 7) hH t_a0 (⟨_, _, _, _, _, _, _, _, _, rfl, t_q0_0, by omega, by omega, by omega, by omega, by omega, by omega, by omega⟩)
    have hO := hO0
    exact te_z hx hb hr hlocks (by rfl) hH hS (⟨rfl, by decide, by decide⟩) dX7_isWord_25
  refine lv_icmp_ne (tgt := 24) hx hb dX7_isWord_5 (by decide) (fun c5 => ?_) (fun c5 => ?_)
  · skip
    have tc5 := f_ne (k := 1) (by decide) c5
    exact J24  _ _ _  hH hS (lv_sub hl [] rfl)
  · skip
    have tc5 := f_eq (k := 1) (by decide) c5
    refine lv_aload_n hx hb dX7_isWord_8 rfl (lv_at hl 0 rfl) ?_
    refine x_get (ci := 7) (C := RX7) (F := TX7) (N := 8) (v := .int q0_3) hx hb hts uX7 hown hkb hH rfl 3 (by decide) rfl kw_47 (fun _ h9 => h9) dX7_isWord_9 ?_
    refine lv_aload_n hx hb dX7_isWord_12 rfl (lv_at hl 0 rfl) ?_
    refine x_get (ci := 7) (C := RX7) (F := TX7) (N := 8) (v := .int q0_2) hx hb hts uX7 hown hkb hH rfl 2 (by decide) rfl kw_46 (fun _ h9 => h9) dX7_isWord_13 ?_
    refine lv_isub hx hb dX7_isWord_16 ?_
    refine lv_topi (fun v16 ev16 => ?_)
    have tv16 : v16.toInt = q0_3.toInt - q0_2.toInt := by rw [ev16]; exact sub_i rfl rfl (by omega) (by omega)
    refine lv_aload_n hx hb dX7_isWord_17 rfl (lv_at hl 1 rfl) ?_
    refine tk_i hH hS hA (tr_V (n := 0) (As := []) hx hb hml hown hts hkb hH (ox_c hOX) hks hE hS hA (s_length l D cs kf T (a0 :: O) ((a0, .inr (7, [.ref q0_0, .int q0_1, .int q0_2, .int q0_3, .int q0_4, .int q0_5, .int q0_6, .int q0_7])) :: X) a1 t_a1 (hO.sub (by decide))) kw_554 kw_478 kw_479 kw_14 kw_480 (by decide +kernel) ⟨Nat.le_of_ble_eq_true rfl, Nat.le_of_ble_eq_true rfl⟩ (vk_recv hE.1 t_a1 hS) rfl rfl hl.1 (Nat.le_of_ble_eq_true rfl) dX7_isWord_18 ⟨Nat.le_of_ble_eq_true rfl, Nat.le_of_ble_eq_true rfl⟩) (fun v18 u H locs hz9 hH hS => ?_)
    obtain ⟨rfl, l_v18, u_v18, x_v180⟩ := hz9
    have hH : HT D cs A T (a0 :: O) ((a0, .inr (7, [.ref q0_0, .int q0_1, .int q0_2, .int q0_3, .int q0_4, .int q0_5, .int q0_6, .int q0_7])) :: X) H := hH
    refine W.widen (k := 0) (n := 0) (Nat.le_of_ble_eq_true rfl) (Nat.le_of_ble_eq_true rfl) ?_
    refine lv_icmp_eq (tgt := 26) hx hb dX7_isWord_21 (by decide) (fun c21 => ?_) (fun c21 => ?_)
    · skip
      have fuc21 := full_i v16
      have fvc21 := full_i v18
      have tc21 := g_eq c21
      refine lv_iconst (v := 0) hx hb dX7_isWord_26 (by decide) ?_
      have J28 : ∀ (n : Nat) (p28_2 : Int32) (H : Heap) (locs : List Loc) (ls : Array Slot), (99 - p28_2.toInt).toNat = n → (0 ≤ p28_2.toInt) → (p28_2.toInt ≤ 99) → HT D cs A T (a0 :: O) ((a0, .inr (7, [.ref q0_0, .int q0_1, .int q0_2, .int q0_3, .int q0_4, .int q0_5, .int q0_6, .int q0_7])) :: X) H → va_S A s.heap H locs → lv_has ls 3 [(2, .int p28_2), (0, .ref a0), (1, .ref (kf.1 a1))] → W p l e { frames := 4, cells := 0, slots := 0, locals := 85 } s m [.ref a0, .ref (kf.1 a1)].toArray below meth c H locs 0 0 (MQ below (Ti D cs (fun r u => u = (T, O, X) ∧ 0 ≤ r.toInt ∧ r.toInt ≤ 1) A) [.ref a0, .ref (kf.1 a1)].toArray s 0 0 A) (F0 m 28 ls []) := by
        intro n
        induction n using Nat.strongRecOn with
        | _ n ih28 =>
          intro p28_2 H locs ls hm28 l_p28_2 u_p28_2 hH hS hl
          refine lv_iload_n hx hb dX7_isWord_28 rfl (lv_at hl 0 rfl) ?_
          refine lv_aload_n hx hb dX7_isWord_29 rfl (lv_at hl 2 rfl) ?_
          refine tk_i hH hS hA (tr_V (n := 0) (As := []) hx hb hml hown hts hkb hH (ox_c hOX) hks hE hS hA (s_length l D cs kf T (a0 :: O) ((a0, .inr (7, [.ref q0_0, .int q0_1, .int q0_2, .int q0_3, .int q0_4, .int q0_5, .int q0_6, .int q0_7])) :: X) a1 t_a1 (hO.sub (by decide))) kw_554 kw_478 kw_479 kw_14 kw_480 (by decide +kernel) ⟨Nat.le_of_ble_eq_true rfl, Nat.le_of_ble_eq_true rfl⟩ (vk_recv hE.1 t_a1 hS) rfl rfl hl.1 (Nat.le_of_ble_eq_true rfl) dX7_isWord_30 ⟨Nat.le_of_ble_eq_true rfl, Nat.le_of_ble_eq_true rfl⟩) (fun v30 u H locs hz9 hH hS => ?_)
          obtain ⟨rfl, l_v30, u_v30, x_v300⟩ := hz9
          have hH : HT D cs A T (a0 :: O) ((a0, .inr (7, [.ref q0_0, .int q0_1, .int q0_2, .int q0_3, .int q0_4, .int q0_5, .int q0_6, .int q0_7])) :: X) H := hH
          refine W.widen (k := 0) (n := 0) (Nat.le_of_ble_eq_true rfl) (Nat.le_of_ble_eq_true rfl) ?_
          refine lv_icmp_ge (tgt := 63) hx hb dX7_isWord_33 (by decide) (fun c33 => ?_) (fun c33 => ?_)
          · skip
            have fuc33 := full_i p28_2
            have fvc33 := full_i v30
            have tc33 := g_le c33
            refine lv_iconst (v := 1) hx hb dX7_isWord_63 (by decide) ?_
            have hH : HT D cs A T O X H := HT.lay (ci := 7) hH t_a0 (⟨_, _, _, _, _, _, _, _, _, rfl, t_q0_0, by omega, by omega, by omega, by omega, by omega, by omega, by omega⟩)
            have hO := hO0
            exact te_z hx hb hr hlocks (by rfl) hH hS (⟨rfl, by decide, by decide⟩) dX7_isWord_64
          · skip
            have fuc33 := full_i p28_2
            have fvc33 := full_i v30
            have tc33 := g_nle c33
            refine lv_aload_n hx hb dX7_isWord_36 rfl (lv_at hl 1 rfl) ?_
            refine x_get (ci := 7) (C := RX7) (F := TX7) (N := 8) (v := .ref q0_0) hx hb hts uX7 hown hkb hH rfl 0 (by decide) rfl kw_44 (fun _ h9 => h9) dX7_isWord_37 ?_
            refine lv_aload_n hx hb dX7_isWord_40 rfl (lv_at hl 1 rfl) ?_
            refine x_get (ci := 7) (C := RX7) (F := TX7) (N := 8) (v := .int q0_2) hx hb hts uX7 hown hkb hH rfl 2 (by decide) rfl kw_46 (fun _ h9 => h9) dX7_isWord_41 ?_
            refine lv_iload_n hx hb dX7_isWord_44 rfl (lv_at hl 0 rfl) ?_
            refine lv_iadd hx hb dX7_isWord_45 ?_
            refine lv_topi (fun v45 ev45 => ?_)
            have tv45 : v45.toInt = q0_2.toInt + p28_2.toInt := by rw [ev45]; exact add_i rfl rfl (by omega) (by omega)
            refine t_bld hx hb hkb hH t_q0_0 (hO.no t_q0_0 (by decide)) (by omega) (by omega) dX7_isWord_46 (fun v46 => ?_)
            refine lv_aload_n hx hb dX7_isWord_47 rfl (lv_at hl 2 rfl) ?_
            refine lv_iload_n hx hb dX7_isWord_48 rfl (lv_at hl 0 rfl) ?_
            refine tk_i hH hS hA (tr_V (n := 1) (As := [.int p28_2]) hx hb hml hown hts hkb hH (ox_c hOX) hks hE hS hA (s_charAt l D cs kf T (a0 :: O) ((a0, .inr (7, [.ref q0_0, .int q0_1, .int q0_2, .int q0_3, .int q0_4, .int q0_5, .int q0_6, .int q0_7])) :: X) a1 p28_2 t_a1 (by omega) (by omega) (hO.sub (by decide))) kw_555 kw_556 kw_557 kw_14 kw_558 (by decide +kernel) ⟨Nat.le_of_ble_eq_true rfl, Nat.le_of_ble_eq_true rfl⟩ (vk_recv hE.1 t_a1 hS) rfl rfl hl.1 (Nat.le_of_ble_eq_true rfl) dX7_isWord_49 ⟨Nat.le_of_ble_eq_true rfl, Nat.le_of_ble_eq_true rfl⟩) (fun v49 u H locs hz9 hH hS => ?_)
            obtain ⟨rfl, l_v49, u_v49⟩ := hz9
            have hH : HT D cs A T (a0 :: O) ((a0, .inr (7, [.ref q0_0, .int q0_1, .int q0_2, .int q0_3, .int q0_4, .int q0_5, .int q0_6, .int q0_7])) :: X) H := hH
            refine W.widen (k := 0) (n := 0) (Nat.le_of_ble_eq_true rfl) (Nat.le_of_ble_eq_true rfl) ?_
            refine lv_icmp_eq (tgt := 57) hx hb dX7_isWord_52 (by decide) (fun c52 => ?_) (fun c52 => ?_)
            · skip
              have fuc52 := full_i v46
              have fvc52 := full_i v49
              have tc52 := g_eq c52
              obtain ⟨v57, ev57⟩ : ∃ y : Int32, y = p28_2 + 1 := ⟨_, rfl⟩
              have tv57 : v57.toInt = p28_2.toInt + (1) := by rw [ev57]; exact add_i rfl (by decide) (by omega) (by omega)
              refine lv_iinc (v := v57) (lv' := [(2, .int v57), (0, .ref a0), (1, .ref (kf.1 a1))]) hx hb dX7_isWord_57 hl (k := 0) rfl (by rw [ev57]; rfl) (by decide) rfl (fun ls hl => ?_)
              refine lv_goto (tgt := 28) hx hb dX7_isWord_60 (by decide) ?_
              exact ih28 _ (by omega) v57 _ _ _ rfl (by omega) (by omega) hH hS (lv_sub hl [0, 1, 2] rfl)
            · skip
              have fuc52 := full_i v46
              have fvc52 := full_i v49
              have tc52 := g_ne c52
              refine lv_iconst (v := 0) hx hb dX7_isWord_55 (by decide) ?_
              have hH : HT D cs A T O X H := HT.lay (ci := 7) hH t_a0 (⟨_, _, _, _, _, _, _, _, _, rfl, t_q0_0, by omega, by omega, by omega, by omega, by omega, by omega, by omega⟩)
              have hO := hO0
              exact te_z hx hb hr hlocks (by rfl) hH hS (⟨rfl, by decide, by decide⟩) dX7_isWord_56
      refine lv_istore_n (lv' := [(2, .int 0), (0, .ref a0), (1, .ref (kf.1 a1))]) hx hb dX7_isWord_27 rfl hl (by decide) rfl (fun ls hl => ?_)
      exact J28 _ 0 _ _ _ rfl (by decide) (by decide) hH hS (lv_sub hl [0, 1, 2] rfl)
    · skip
      have fuc21 := full_i v16
      have fvc21 := full_i v18
      have tc21 := g_ne c21
      exact J24  _ _ _  hH hS (lv_sub hl [] rfl)
set_option maxHeartbeats 4000000 in
set_option maxRecDepth 100000 in
theorem s_Tok_takeWord (l : Launch) (D : va_G) (cs : CS) (kf : KF) (T : TF) (O : List Nat) (X : va_W) (a0 : Nat) (a1 : Nat) (t_a0 : T a0 = some (17, 0, 0)) (t_a1 : a1 < 21) (hO : okO T O [0, 17]) : TK l D cs kf yX7_takeWord cX7_takeWord 2 (some (.boolean)) { frames := 5, cells := 0, slots := 0, locals := 111 } [.ref a0, .ref (kf.1 a1)] T O X (Ti D cs (fun r u => u = (T, O, X) ∧ 0 ≤ r.toInt ∧ r.toInt ≤ 1)) := by
  refine tk_of (by decide) (Nat.le_of_ble_eq_true rfl) (fun p e s m below meth c ls A H locs hx hb hr hml hown hts hlocks hnm hkb hH hS hA hOX hks hE hl => ?_)
  have hown : s.vm.findClass RX7 = some m.cls := hown
  have hl : lv_has ls 2 [(0, .ref a0), (1, .ref (kf.1 a1))] := hl
  refine lv_aload_n hx hb dX7_takeWord_0 rfl (lv_at hl 0 rfl) ?_
  refine lv_aload_n hx hb dX7_takeWord_1 rfl (lv_at hl 1 rfl) ?_
  refine tk_i hH hS hA (tr_V (n := 1) (As := [.ref (kf.1 a1)]) hx hb hml hown hts hkb hH hOX hks hE hS hA (s_Tok_isWord l D cs kf T O X a0 a1 t_a0 t_a1 (hO.sub (by decide))) kw_607 kw_551 kw_552 kw_3 kw_553 (by decide +kernel) ⟨Nat.le_of_ble_eq_true rfl, Nat.le_of_ble_eq_true rfl⟩ (HT.recv (ci := 7) hkb hH t_a0 (hO.no t_a0 (by decide)) rfl) rfl rfl hl.1 (Nat.le_of_ble_eq_true rfl) dX7_takeWord_2 ⟨Nat.le_of_ble_eq_true rfl, Nat.le_of_ble_eq_true rfl⟩) (fun v2 u H locs hz9 hH hS => ?_)
  obtain ⟨rfl, l_v2, u_v2⟩ := hz9
  have hH : HT D cs A T O X H := hH
  refine W.widen (k := 0) (n := 0) (Nat.le_of_ble_eq_true rfl) (Nat.le_of_ble_eq_true rfl) ?_
  refine lv_if_ne (tgt := 14) hx hb dX7_takeWord_5 (by decide) (fun c5 => ?_) (fun c5 => ?_)
  · skip
    have tc5 := f_ne (k := 0) (by decide) c5
    refine lv_aload_n hx hb dX7_takeWord_14 rfl (lv_at hl 0 rfl) ?_
    refine tk_v hH hS hA (tr_V (n := 0) (As := []) hx hb hml hown hts hkb hH hOX hks hE hS hA (s_Tok_go l D cs kf T O X a0 t_a0 (hO.sub (by decide))) kw_452 kw_453 kw_454 kw_3 kw_455 (by decide +kernel) ⟨Nat.le_of_ble_eq_true rfl, Nat.le_of_ble_eq_true rfl⟩ (HT.recv (ci := 7) hkb hH t_a0 (hO.no t_a0 (by decide)) rfl) rfl rfl hl.1 (Nat.le_of_ble_eq_true rfl) dX7_takeWord_15 ⟨Nat.le_of_ble_eq_true rfl, Nat.le_of_ble_eq_true rfl⟩) (fun u H locs hz9 hH hS => ?_)
    have hz9 : u = (T, O, X) := hz9
    subst hz9
    have hH : HT D cs A T O X H := hH
    refine W.widen (k := 0) (n := 0) (Nat.le_of_ble_eq_true rfl) (Nat.le_of_ble_eq_true rfl) ?_
    refine lv_iconst (v := 1) hx hb dX7_takeWord_18 (by decide) ?_
    exact te_z hx hb hr hlocks (by rfl) hH hS (⟨rfl, by decide, by decide⟩) dX7_takeWord_19
  · skip
    have tc5 := f_eq (k := 0) (by decide) c5
    refine lv_aload_n hx hb dX7_takeWord_8 rfl (lv_at hl 0 rfl) ?_
    refine lv_iconst (v := 2) hx hb dX7_takeWord_9 (by decide) ?_
    refine tk_i hH hS hA (tr_V (n := 1) (As := [.int 2]) hx hb hml hown hts hkb hH hOX hks hE hS hA (s_Tok_refuse l D cs kf T O X a0 (2) t_a0 (hO.sub (by decide))) kw_588 kw_580 kw_581 kw_3 kw_582 (by decide +kernel) ⟨Nat.le_of_ble_eq_true rfl, Nat.le_of_ble_eq_true rfl⟩ (HT.recv (ci := 7) hkb hH t_a0 (hO.no t_a0 (by decide)) rfl) rfl rfl hl.1 (Nat.le_of_ble_eq_true rfl) dX7_takeWord_10 ⟨Nat.le_of_ble_eq_true rfl, Nat.le_of_ble_eq_true rfl⟩) (fun v10 u H locs hz9 hH hS => ?_)
    obtain ⟨rfl, l_v10, u_v10⟩ := hz9
    have hH : HT D cs A T O X H := hH
    refine W.widen (k := 0) (n := 0) (Nat.le_of_ble_eq_true rfl) (Nat.le_of_ble_eq_true rfl) ?_
    exact te_z hx hb hr hlocks (nar01 (by omega) (by omega)) hH hS (⟨rfl, by omega, by omega⟩) dX7_takeWord_13
set_option maxHeartbeats 4000000 in
set_option maxRecDepth 100000 in
theorem s_Tok_takeSign (l : Launch) (D : va_G) (cs : CS) (kf : KF) (T : TF) (O : List Nat) (X : va_W) (a0 : Nat) (x1 : Int32) (t_a0 : T a0 = some (17, 0, 0)) (hO : okO T O [0, 17]) : TK l D cs kf yX7_takeSign cX7_takeSign 2 (some (.boolean)) { frames := 5, cells := 0, slots := 0, locals := 111 } [.ref a0, .int x1] T O X (Ti D cs (fun r u => u = (T, O, X) ∧ 0 ≤ r.toInt ∧ r.toInt ≤ 1)) := by
  refine tk_of (by decide) (Nat.le_of_ble_eq_true rfl) (fun p e s m below meth c ls A H locs hx hb hr hml hown hts hlocks hnm hkb hH hS hA hOX hks hE hl => ?_)
  have hown : s.vm.findClass RX7 = some m.cls := hown
  have hl : lv_has ls 2 [(0, .ref a0), (1, .int x1)] := hl
  refine lv_aload_n hx hb dX7_takeSign_0 rfl (lv_at hl 0 rfl) ?_
  refine lv_iload_n hx hb dX7_takeSign_1 rfl (lv_at hl 1 rfl) ?_
  refine tk_i hH hS hA (tr_V (n := 1) (As := [.int x1]) hx hb hml hown hts hkb hH hOX hks hE hS hA (s_Tok_isSign l D cs kf T O X a0 x1 t_a0 (hO.sub (by decide))) kw_614 kw_615 kw_616 kw_3 kw_617 (by decide +kernel) ⟨Nat.le_of_ble_eq_true rfl, Nat.le_of_ble_eq_true rfl⟩ (HT.recv (ci := 7) hkb hH t_a0 (hO.no t_a0 (by decide)) rfl) rfl rfl hl.1 (Nat.le_of_ble_eq_true rfl) dX7_takeSign_2 ⟨Nat.le_of_ble_eq_true rfl, Nat.le_of_ble_eq_true rfl⟩) (fun v2 u H locs hz9 hH hS => ?_)
  obtain ⟨rfl, l_v2, u_v2⟩ := hz9
  have hH : HT D cs A T O X H := hH
  refine W.widen (k := 0) (n := 0) (Nat.le_of_ble_eq_true rfl) (Nat.le_of_ble_eq_true rfl) ?_
  refine lv_if_ne (tgt := 14) hx hb dX7_takeSign_5 (by decide) (fun c5 => ?_) (fun c5 => ?_)
  · skip
    have tc5 := f_ne (k := 0) (by decide) c5
    refine lv_aload_n hx hb dX7_takeSign_14 rfl (lv_at hl 0 rfl) ?_
    refine tk_v hH hS hA (tr_V (n := 0) (As := []) hx hb hml hown hts hkb hH hOX hks hE hS hA (s_Tok_go l D cs kf T O X a0 t_a0 (hO.sub (by decide))) kw_452 kw_453 kw_454 kw_3 kw_455 (by decide +kernel) ⟨Nat.le_of_ble_eq_true rfl, Nat.le_of_ble_eq_true rfl⟩ (HT.recv (ci := 7) hkb hH t_a0 (hO.no t_a0 (by decide)) rfl) rfl rfl hl.1 (Nat.le_of_ble_eq_true rfl) dX7_takeSign_15 ⟨Nat.le_of_ble_eq_true rfl, Nat.le_of_ble_eq_true rfl⟩) (fun u H locs hz9 hH hS => ?_)
    have hz9 : u = (T, O, X) := hz9
    subst hz9
    have hH : HT D cs A T O X H := hH
    refine W.widen (k := 0) (n := 0) (Nat.le_of_ble_eq_true rfl) (Nat.le_of_ble_eq_true rfl) ?_
    refine lv_iconst (v := 1) hx hb dX7_takeSign_18 (by decide) ?_
    exact te_z hx hb hr hlocks (by rfl) hH hS (⟨rfl, by decide, by decide⟩) dX7_takeSign_19
  · skip
    have tc5 := f_eq (k := 0) (by decide) c5
    refine lv_aload_n hx hb dX7_takeSign_8 rfl (lv_at hl 0 rfl) ?_
    refine lv_iconst (v := 2) hx hb dX7_takeSign_9 (by decide) ?_
    refine tk_i hH hS hA (tr_V (n := 1) (As := [.int 2]) hx hb hml hown hts hkb hH hOX hks hE hS hA (s_Tok_refuse l D cs kf T O X a0 (2) t_a0 (hO.sub (by decide))) kw_588 kw_580 kw_581 kw_3 kw_582 (by decide +kernel) ⟨Nat.le_of_ble_eq_true rfl, Nat.le_of_ble_eq_true rfl⟩ (HT.recv (ci := 7) hkb hH t_a0 (hO.no t_a0 (by decide)) rfl) rfl rfl hl.1 (Nat.le_of_ble_eq_true rfl) dX7_takeSign_10 ⟨Nat.le_of_ble_eq_true rfl, Nat.le_of_ble_eq_true rfl⟩) (fun v10 u H locs hz9 hH hS => ?_)
    obtain ⟨rfl, l_v10, u_v10⟩ := hz9
    have hH : HT D cs A T O X H := hH
    refine W.widen (k := 0) (n := 0) (Nat.le_of_ble_eq_true rfl) (Nat.le_of_ble_eq_true rfl) ?_
    exact te_z hx hb hr hlocks (nar01 (by omega) (by omega)) hH hS (⟨rfl, by omega, by omega⟩) dX7_takeSign_13
set_option maxHeartbeats 4000000 in
set_option maxRecDepth 100000 in
theorem s_Tok_takeNumber (l : Launch) (D : va_G) (cs : CS) (kf : KF) (T : TF) (O : List Nat) (X : va_W) (a0 : Nat) (x1 : Int32) (t_a0 : T a0 = some (17, 0, 0)) (hO : okO T O [0, 17]) : TK l D cs kf yX7_takeNumber cX7_takeNumber 3 (some (.int)) { frames := 5, cells := 0, slots := 0, locals := 111 } [.ref a0, .int x1] T O X (Ti D cs (fun r u => u = (T, O, X))) := by
  refine tk_of (by decide) (Nat.le_of_ble_eq_true rfl) (fun p e s m below meth c ls A H locs hx hb hr hml hown hts hlocks hnm hkb hH hS hA hOX hks hE hl => ?_)
  have hown : s.vm.findClass RX7 = some m.cls := hown
  have hl : lv_has ls 3 [(0, .ref a0), (1, .int x1)] := hl
  have hO0 := hO
  obtain ⟨fs9, ho9, hH⟩ := hH.take t_a0 (hO0.no t_a0 (by decide))
  obtain ⟨q0_0, nq0_0, q0_1, q0_2, q0_3, q0_4, q0_5, q0_6, q0_7, rfl, t_q0_0, b_q0_0, l1_0, u1_0, l2_0, u2_0, l3_0, u3_0⟩ := ho9
  have hH : HT D cs A T (a0 :: O) ((a0, .inr (7, [.ref q0_0, .int q0_1, .int q0_2, .int q0_3, .int q0_4, .int q0_5, .int q0_6, .int q0_7])) :: X) H := hH
  have hO : okO T (a0 :: O) [0] := okO.cons (hO0.sub (by decide)) t_a0 (by decide)
  refine lv_aload_n hx hb dX7_takeNumber_0 rfl (lv_at hl 0 rfl) ?_
  refine x_get (ci := 7) (C := RX7) (F := TX7) (N := 8) (v := .int q0_4) hx hb hts uX7 hown hkb hH rfl 4 (by decide) rfl kw_48 (fun _ h9 => h9) dX7_takeNumber_1 ?_
  refine lv_iconst (v := 2) hx hb dX7_takeNumber_4 (by decide) ?_
  have J16 : ∀  (H : Heap) (locs : List Loc) (ls : Array Slot), HT D cs A T (a0 :: O) ((a0, .inr (7, [.ref q0_0, .int q0_1, .int q0_2, .int q0_3, .int q0_4, .int q0_5, .int q0_6, .int q0_7])) :: X) H → va_S A s.heap H locs → lv_has ls 3 [(0, .ref a0)] → W p l e { frames := 5, cells := 0, slots := 0, locals := 111 } s m [.ref a0, .int x1].toArray below meth c H locs 0 0 (MQ below (Ti D cs (fun r u => u = (T, O, X)) A) [.ref a0, .int x1].toArray s 0 0 A) (F0 m 16 ls []) := by
    intro  H locs ls  hH hS hl
    refine lv_aload_n hx hb dX7_takeNumber_16 rfl (lv_at hl 0 rfl) ?_
    refine lv_aload_n hx hb dX7_takeNumber_17 rfl (lv_at hl 0 rfl) ?_
    refine x_get (ci := 7) (C := RX7) (F := TX7) (N := 8) (v := .int q0_4) hx hb hts uX7 hown hkb hH rfl 4 (by decide) rfl kw_48 (fun _ h9 => h9) dX7_takeNumber_18 ?_
    refine lv_iconst (v := 2) hx hb dX7_takeNumber_21 (by decide) ?_
    have J30 : ∀ (k30_0 : Int32) (H : Heap) (locs : List Loc) (ls : Array Slot), (2 ≤ k30_0.toInt) → (k30_0.toInt ≤ 3) → HT D cs A T (a0 :: O) ((a0, .inr (7, [.ref q0_0, .int q0_1, .int q0_2, .int q0_3, .int q0_4, .int q0_5, .int q0_6, .int q0_7])) :: X) H → va_S A s.heap H locs → lv_has ls 3 [] → W p l e { frames := 5, cells := 0, slots := 0, locals := 111 } s m [.ref a0, .int x1].toArray below meth c H locs 0 0 (MQ below (Ti D cs (fun r u => u = (T, O, X)) A) [.ref a0, .int x1].toArray s 0 0 A) (F0 m 30 ls [.int k30_0, .ref a0]) := by
      intro k30_0 H locs ls l_k30_0 u_k30_0 hH hS hl
      have hH : HT D cs A T O X H := HT.lay (ci := 7) hH t_a0 (⟨_, _, _, _, _, _, _, _, _, rfl, t_q0_0, by omega, by omega, by omega, by omega, by omega, by omega, by omega⟩)
      have hO := hO0
      refine tk_i hH hS hA (tr_V (n := 1) (As := [.int k30_0]) hx hb hml hown hts hkb hH hOX hks hE hS hA (s_Tok_refuse l D cs kf T O X a0 k30_0 t_a0 (hO.sub (by decide))) kw_588 kw_580 kw_581 kw_3 kw_582 (by decide +kernel) ⟨Nat.le_of_ble_eq_true rfl, Nat.le_of_ble_eq_true rfl⟩ (HT.recv (ci := 7) hkb hH t_a0 (hO.no t_a0 (by decide)) rfl) rfl rfl hl.1 (Nat.le_of_ble_eq_true rfl) dX7_takeNumber_30 ⟨Nat.le_of_ble_eq_true rfl, Nat.le_of_ble_eq_true rfl⟩) (fun v30 u H locs hz9 hH hS => ?_)
      obtain ⟨rfl, l_v30, u_v30⟩ := hz9
      have hH : HT D cs A T O X H := hH
      obtain ⟨fs9, ho9, hH⟩ := hH.take t_a0 (hO0.no t_a0 (by decide))
      obtain ⟨q30_0, nq30_0, q30_1, q30_2, q30_3, q30_4, q30_5, q30_6, q30_7, rfl, t_q30_0, b_q30_0, l1_30, u1_30, l2_30, u2_30, l3_30, u3_30⟩ := ho9
      have hH : HT D cs A T (a0 :: O) ((a0, .inr (7, [.ref q30_0, .int q30_1, .int q30_2, .int q30_3, .int q30_4, .int q30_5, .int q30_6, .int q30_7])) :: X) H := hH
      have hO : okO T (a0 :: O) [0] := okO.cons (hO0.sub (by decide)) t_a0 (by decide)
      refine W.widen (k := 0) (n := 0) (Nat.le_of_ble_eq_true rfl) (Nat.le_of_ble_eq_true rfl) ?_
      refine lv_pop hx hb dX7_takeNumber_33 rfl ?_
      refine lv_iconst (v := (-1)) hx hb dX7_takeNumber_34 (by decide) ?_
      have hH : HT D cs A T O X H := HT.lay (ci := 7) hH t_a0 (⟨_, _, _, _, _, _, _, _, _, rfl, t_q30_0, by omega, by omega, by omega, by omega, by omega, by omega, by omega⟩)
      have hO := hO0
      exact te_i hx hb hr hlocks hH hS (rfl) dX7_takeNumber_35
    refine lv_icmp_ne (tgt := 29) hx hb dX7_takeNumber_22 (by decide) (fun c22 => ?_) (fun c22 => ?_)
    · skip
      have tc22 := f_ne (k := 2) (by decide) c22
      refine lv_iconst (v := 2) hx hb dX7_takeNumber_29 (by decide) ?_
      exact J30 2 _ _ _ (by decide) (by decide) hH hS (lv_sub hl [] rfl)
    · skip
      have tc22 := f_eq (k := 2) (by decide) c22
      refine lv_iconst (v := 3) hx hb dX7_takeNumber_25 (by decide) ?_
      refine lv_goto (tgt := 30) hx hb dX7_takeNumber_26 (by decide) ?_
      exact J30 3 _ _ _ (by decide) (by decide) hH hS (lv_sub hl [] rfl)
  refine lv_icmp_ne (tgt := 16) hx hb dX7_takeNumber_5 (by decide) (fun c5 => ?_) (fun c5 => ?_)
  · skip
    have tc5 := f_ne (k := 2) (by decide) c5
    exact J16  _ _ _  hH hS (lv_sub hl [0] rfl)
  · skip
    have tc5 := f_eq (k := 2) (by decide) c5
    refine lv_aload_n hx hb dX7_takeNumber_8 rfl (lv_at hl 0 rfl) ?_
    refine x_get (ci := 7) (C := RX7) (F := TX7) (N := 8) (v := .int q0_5) hx hb hts uX7 hown hkb hH rfl 5 (by decide) rfl kw_51 (fun _ h9 => h9) dX7_takeNumber_9 ?_
    refine lv_iload_n hx hb dX7_takeNumber_12 rfl (lv_at hl 1 rfl) ?_
    refine lv_icmp_le (tgt := 36) hx hb dX7_takeNumber_13 (by decide) (fun c13 => ?_) (fun c13 => ?_)
    · skip
      have fuc13 := full_i q0_5
      have fvc13 := full_i x1
      have tc13 := g_le c13
      refine lv_aload_n hx hb dX7_takeNumber_36 rfl (lv_at hl 0 rfl) ?_
      refine x_get (ci := 7) (C := RX7) (F := TX7) (N := 8) (v := .int q0_5) hx hb hts uX7 hown hkb hH rfl 5 (by decide) rfl kw_51 (fun _ h9 => h9) dX7_takeNumber_37 ?_
      refine lv_istore_n (lv' := [(2, .int q0_5), (0, .ref a0), (1, .int x1)]) hx hb dX7_takeNumber_40 rfl hl (by decide) rfl (fun ls hl => ?_)
      refine lv_aload_n hx hb dX7_takeNumber_41 rfl (lv_at hl 1 rfl) ?_
      have hH : HT D cs A T O X H := HT.lay (ci := 7) hH t_a0 (⟨_, _, _, _, _, _, _, _, _, rfl, t_q0_0, by omega, by omega, by omega, by omega, by omega, by omega, by omega⟩)
      have hO := hO0
      refine tk_v hH hS hA (tr_V (n := 0) (As := []) hx hb hml hown hts hkb hH hOX hks hE hS hA (s_Tok_go l D cs kf T O X a0 t_a0 (hO.sub (by decide))) kw_452 kw_453 kw_454 kw_3 kw_455 (by decide +kernel) ⟨Nat.le_of_ble_eq_true rfl, Nat.le_of_ble_eq_true rfl⟩ (HT.recv (ci := 7) hkb hH t_a0 (hO.no t_a0 (by decide)) rfl) rfl rfl hl.1 (Nat.le_of_ble_eq_true rfl) dX7_takeNumber_42 ⟨Nat.le_of_ble_eq_true rfl, Nat.le_of_ble_eq_true rfl⟩) (fun u H locs hz9 hH hS => ?_)
      have hz9 : u = (T, O, X) := hz9
      subst hz9
      have hH : HT D cs A T O X H := hH
      obtain ⟨fs9, ho9, hH⟩ := hH.take t_a0 (hO0.no t_a0 (by decide))
      obtain ⟨q42_0, nq42_0, q42_1, q42_2, q42_3, q42_4, q42_5, q42_6, q42_7, rfl, t_q42_0, b_q42_0, l1_42, u1_42, l2_42, u2_42, l3_42, u3_42⟩ := ho9
      have hH : HT D cs A T (a0 :: O) ((a0, .inr (7, [.ref q42_0, .int q42_1, .int q42_2, .int q42_3, .int q42_4, .int q42_5, .int q42_6, .int q42_7])) :: X) H := hH
      have hO : okO T (a0 :: O) [0] := okO.cons (hO0.sub (by decide)) t_a0 (by decide)
      refine W.widen (k := 0) (n := 0) (Nat.le_of_ble_eq_true rfl) (Nat.le_of_ble_eq_true rfl) ?_
      refine lv_iload_n hx hb dX7_takeNumber_45 rfl (lv_at hl 0 rfl) ?_
      have hH : HT D cs A T O X H := HT.lay (ci := 7) hH t_a0 (⟨_, _, _, _, _, _, _, _, _, rfl, t_q42_0, by omega, by omega, by omega, by omega, by omega, by omega, by omega⟩)
      have hO := hO0
      exact te_i hx hb hr hlocks hH hS (rfl) dX7_takeNumber_46
    · skip
      have fuc13 := full_i q0_5
      have fvc13 := full_i x1
      have tc13 := g_nle c13
      exact J16  _ _ _  hH hS (lv_sub hl [0] rfl)
theorem dX3_aimSkip_0 : decode cX3_aimSkip 0 = .ok (.iload_n 1, 1) := by decide +kernel
theorem dX3_aimSkip_1 : decode cX3_aimSkip 1 = .ok (.ifCond .lt 32, 3) := by decide +kernel
theorem dX3_aimSkip_4 : decode cX3_aimSkip 4 = .ok (.iload_n 1, 1) := by decide +kernel
theorem dX3_aimSkip_5 : decode cX3_aimSkip 5 = .ok (.sipush 900, 3) := by decide +kernel
theorem dX3_aimSkip_8 : decode cX3_aimSkip 8 = .ok (.if_icmp .ge 25, 3) := by decide +kernel
theorem dX3_aimSkip_11 : decode cX3_aimSkip 11 = .ok (.aload_n 0, 1) := by decide +kernel
theorem dX3_aimSkip_12 : decode cX3_aimSkip 12 = .ok (.getfield 9, 3) := by decide +kernel
theorem dX3_aimSkip_15 : decode cX3_aimSkip 15 = .ok (.iload_n 1, 1) := by decide +kernel
theorem dX3_aimSkip_16 : decode cX3_aimSkip 16 = .ok (.aload_n 0, 1) := by decide +kernel
theorem dX3_aimSkip_17 : decode cX3_aimSkip 17 = .ok (.getfield 9, 3) := by decide +kernel
theorem dX3_aimSkip_20 : decode cX3_aimSkip 20 = .ok (.iload_n 1, 1) := by decide +kernel
theorem dX3_aimSkip_21 : decode cX3_aimSkip 21 = .ok (.iaload, 1) := by decide +kernel
theorem dX3_aimSkip_22 : decode cX3_aimSkip 22 = .ok (.bipush 15, 2) := by decide +kernel
theorem dX3_aimSkip_24 : decode cX3_aimSkip 24 = .ok (.iand, 1) := by decide +kernel
theorem dX3_aimSkip_25 : decode cX3_aimSkip 25 = .ok (.aload_n 0, 1) := by decide +kernel
theorem dX3_aimSkip_26 : decode cX3_aimSkip 26 = .ok (.getfield 15, 3) := by decide +kernel
theorem dX3_aimSkip_29 : decode cX3_aimSkip 29 = .ok (.iconst 4, 1) := by decide +kernel
theorem dX3_aimSkip_30 : decode cX3_aimSkip 30 = .ok (.ishl, 1) := by decide +kernel
theorem dX3_aimSkip_31 : decode cX3_aimSkip 31 = .ok (.ior, 1) := by decide +kernel
theorem dX3_aimSkip_32 : decode cX3_aimSkip 32 = .ok (.iastore, 1) := by decide +kernel
theorem dX3_aimSkip_33 : decode cX3_aimSkip 33 = .ok (.return_, 1) := by decide +kernel
theorem dX3_enter_0 : decode cX3_enter 0 = .ok (.iload_n 1, 1) := by decide +kernel
theorem dX3_enter_1 : decode cX3_enter 1 = .ok (.bipush 6, 2) := by decide +kernel
theorem dX3_enter_3 : decode cX3_enter 3 = .ok (.if_icmp .lt 12, 3) := by decide +kernel
theorem dX3_enter_6 : decode cX3_enter 6 = .ok (.aload_n 0, 1) := by decide +kernel
theorem dX3_enter_7 : decode cX3_enter 7 = .ok (.getfield 19, 3) := by decide +kernel
theorem dX3_enter_10 : decode cX3_enter 10 = .ok (.iconst 4, 1) := by decide +kernel
theorem dX3_enter_11 : decode cX3_enter 11 = .ok (.invokevirtual 80, 3) := by decide +kernel
theorem dX3_enter_14 : decode cX3_enter 14 = .ok (.ireturn, 1) := by decide +kernel
theorem dX3_enter_15 : decode cX3_enter 15 = .ok (.aload_n 0, 1) := by decide +kernel
theorem dX3_enter_16 : decode cX3_enter 16 = .ok (.getfield 19, 3) := by decide +kernel
theorem dX3_enter_19 : decode cX3_enter 19 = .ok (.invokevirtual 49, 3) := by decide +kernel
theorem dX3_enter_22 : decode cX3_enter 22 = .ok (.iconst 1, 1) := by decide +kernel
theorem dX3_enter_23 : decode cX3_enter 23 = .ok (.ireturn, 1) := by decide +kernel
theorem dX3_factHere_0 : decode cX3_factHere 0 = .ok (.aload_n 0, 1) := by decide +kernel
theorem dX3_factHere_1 : decode cX3_factHere 1 = .ok (.getfield 19, 3) := by decide +kernel
theorem dX3_factHere_4 : decode cX3_factHere 4 = .ok (.ldc 99, 2) := by decide +kernel
theorem dX3_factHere_6 : decode cX3_factHere 6 = .ok (.invokevirtual 43, 3) := by decide +kernel
theorem dX3_factHere_9 : decode cX3_factHere 9 = .ok (.ifCond .eq 5, 3) := by decide +kernel
theorem dX3_factHere_12 : decode cX3_factHere 12 = .ok (.iconst 0, 1) := by decide +kernel
theorem dX3_factHere_13 : decode cX3_factHere 13 = .ok (.ireturn, 1) := by decide +kernel
theorem dX3_factHere_14 : decode cX3_factHere 14 = .ok (.aload_n 0, 1) := by decide +kernel
theorem dX3_factHere_15 : decode cX3_factHere 15 = .ok (.getfield 19, 3) := by decide +kernel
theorem dX3_factHere_18 : decode cX3_factHere 18 = .ok (.ldc 101, 2) := by decide +kernel
theorem dX3_factHere_20 : decode cX3_factHere 20 = .ok (.invokevirtual 43, 3) := by decide +kernel
theorem dX3_factHere_23 : decode cX3_factHere 23 = .ok (.ifCond .eq 5, 3) := by decide +kernel
theorem dX3_factHere_26 : decode cX3_factHere 26 = .ok (.iconst 1, 1) := by decide +kernel
theorem dX3_factHere_27 : decode cX3_factHere 27 = .ok (.ireturn, 1) := by decide +kernel
theorem dX3_factHere_28 : decode cX3_factHere 28 = .ok (.aload_n 0, 1) := by decide +kernel
theorem dX3_factHere_29 : decode cX3_factHere 29 = .ok (.getfield 19, 3) := by decide +kernel
theorem dX3_factHere_32 : decode cX3_factHere 32 = .ok (.ldc 103, 2) := by decide +kernel
theorem dX3_factHere_34 : decode cX3_factHere 34 = .ok (.invokevirtual 43, 3) := by decide +kernel
theorem dX3_factHere_37 : decode cX3_factHere 37 = .ok (.ifCond .eq 5, 3) := by decide +kernel
theorem dX3_factHere_40 : decode cX3_factHere 40 = .ok (.iconst 2, 1) := by decide +kernel
theorem dX3_factHere_41 : decode cX3_factHere 41 = .ok (.ireturn, 1) := by decide +kernel
theorem dX3_factHere_42 : decode cX3_factHere 42 = .ok (.aload_n 0, 1) := by decide +kernel
theorem dX3_factHere_43 : decode cX3_factHere 43 = .ok (.getfield 19, 3) := by decide +kernel
theorem dX3_factHere_46 : decode cX3_factHere 46 = .ok (.ldc 105, 2) := by decide +kernel
theorem dX3_factHere_48 : decode cX3_factHere 48 = .ok (.invokevirtual 43, 3) := by decide +kernel
theorem dX3_factHere_51 : decode cX3_factHere 51 = .ok (.ifCond .eq 5, 3) := by decide +kernel
theorem dX3_factHere_54 : decode cX3_factHere 54 = .ok (.iconst 3, 1) := by decide +kernel
theorem dX3_factHere_55 : decode cX3_factHere 55 = .ok (.ireturn, 1) := by decide +kernel
theorem dX3_factHere_56 : decode cX3_factHere 56 = .ok (.aload_n 0, 1) := by decide +kernel
theorem dX3_factHere_57 : decode cX3_factHere 57 = .ok (.getfield 19, 3) := by decide +kernel
theorem dX3_factHere_60 : decode cX3_factHere 60 = .ok (.ldc 107, 2) := by decide +kernel
theorem dX3_factHere_62 : decode cX3_factHere 62 = .ok (.invokevirtual 43, 3) := by decide +kernel
theorem dX3_factHere_65 : decode cX3_factHere 65 = .ok (.ifCond .eq 5, 3) := by decide +kernel
theorem dX3_factHere_68 : decode cX3_factHere 68 = .ok (.iconst 4, 1) := by decide +kernel
theorem dX3_factHere_69 : decode cX3_factHere 69 = .ok (.ireturn, 1) := by decide +kernel
theorem dX3_factHere_70 : decode cX3_factHere 70 = .ok (.aload_n 0, 1) := by decide +kernel
theorem dX3_factHere_71 : decode cX3_factHere 71 = .ok (.getfield 19, 3) := by decide +kernel
theorem dX3_factHere_74 : decode cX3_factHere 74 = .ok (.ldc 109, 2) := by decide +kernel
theorem dX3_factHere_76 : decode cX3_factHere 76 = .ok (.invokevirtual 43, 3) := by decide +kernel
theorem dX3_factHere_79 : decode cX3_factHere 79 = .ok (.ifCond .eq 5, 3) := by decide +kernel
theorem dX3_factHere_82 : decode cX3_factHere 82 = .ok (.iconst 5, 1) := by decide +kernel
theorem dX3_factHere_83 : decode cX3_factHere 83 = .ok (.ireturn, 1) := by decide +kernel
theorem dX3_factHere_84 : decode cX3_factHere 84 = .ok (.aload_n 0, 1) := by decide +kernel
theorem dX3_factHere_85 : decode cX3_factHere 85 = .ok (.getfield 19, 3) := by decide +kernel
theorem dX3_factHere_88 : decode cX3_factHere 88 = .ok (.ldc 111, 2) := by decide +kernel
theorem dX3_factHere_90 : decode cX3_factHere 90 = .ok (.invokevirtual 43, 3) := by decide +kernel
theorem dX3_factHere_93 : decode cX3_factHere 93 = .ok (.ifCond .eq 8, 3) := by decide +kernel
theorem dX3_factHere_96 : decode cX3_factHere 96 = .ok (.bipush 6, 2) := by decide +kernel
theorem dX3_factHere_98 : decode cX3_factHere 98 = .ok (.goto 4, 3) := by decide +kernel
theorem dX3_factHere_101 : decode cX3_factHere 101 = .ok (.iconst (-1), 1) := by decide +kernel
theorem dX3_factHere_102 : decode cX3_factHere 102 = .ok (.ireturn, 1) := by decide +kernel
theorem dX3_put_0 : decode cX3_put 0 = .ok (.aload_n 0, 1) := by decide +kernel
theorem dX3_put_1 : decode cX3_put 1 = .ok (.getfield 15, 3) := by decide +kernel
theorem dX3_put_4 : decode cX3_put 4 = .ok (.sipush 900, 3) := by decide +kernel
theorem dX3_put_7 : decode cX3_put 7 = .ok (.if_icmp .ge 27, 3) := by decide +kernel
theorem dX3_put_10 : decode cX3_put 10 = .ok (.aload_n 0, 1) := by decide +kernel
theorem dX3_put_11 : decode cX3_put 11 = .ok (.getfield 9, 3) := by decide +kernel
theorem dX3_put_14 : decode cX3_put 14 = .ok (.aload_n 0, 1) := by decide +kernel
theorem dX3_put_15 : decode cX3_put 15 = .ok (.getfield 15, 3) := by decide +kernel
theorem dX3_put_18 : decode cX3_put 18 = .ok (.iload_n 1, 1) := by decide +kernel
theorem dX3_put_19 : decode cX3_put 19 = .ok (.iload_n 2, 1) := by decide +kernel
theorem dX3_put_20 : decode cX3_put 20 = .ok (.iconst 4, 1) := by decide +kernel
theorem dX3_put_21 : decode cX3_put 21 = .ok (.ishl, 1) := by decide +kernel
theorem dX3_put_22 : decode cX3_put 22 = .ok (.ior, 1) := by decide +kernel
theorem dX3_put_23 : decode cX3_put 23 = .ok (.iastore, 1) := by decide +kernel
theorem dX3_put_24 : decode cX3_put 24 = .ok (.aload_n 0, 1) := by decide +kernel
theorem dX3_put_25 : decode cX3_put 25 = .ok (.dup, 1) := by decide +kernel
theorem dX3_put_26 : decode cX3_put 26 = .ok (.getfield 15, 3) := by decide +kernel
theorem dX3_put_29 : decode cX3_put 29 = .ok (.iconst 1, 1) := by decide +kernel
theorem dX3_put_30 : decode cX3_put 30 = .ok (.iadd, 1) := by decide +kernel
theorem dX3_put_31 : decode cX3_put 31 = .ok (.putfield 15, 3) := by decide +kernel
theorem dX3_put_34 : decode cX3_put 34 = .ok (.return_, 1) := by decide +kernel
theorem dX3_read_0 : decode cX3_read 0 = .ok (.aload_n 0, 1) := by decide +kernel
theorem dX3_read_1 : decode cX3_read 1 = .ok (.iconst 0, 1) := by decide +kernel
theorem dX3_read_2 : decode cX3_read 2 = .ok (.putfield 15, 3) := by decide +kernel
theorem dX3_read_5 : decode cX3_read 5 = .ok (.aload_n 0, 1) := by decide +kernel
theorem dX3_read_6 : decode cX3_read 6 = .ok (.iconst 0, 1) := by decide +kernel
theorem dX3_read_7 : decode cX3_read 7 = .ok (.invokevirtual 23, 3) := by decide +kernel
theorem dX3_read_10 : decode cX3_read 10 = .ok (.ireturn, 1) := by decide +kernel
theorem dX3_readAtom_0 : decode cX3_readAtom 0 = .ok (.aload_n 0, 1) := by decide +kernel
theorem dX3_readAtom_1 : decode cX3_readAtom 1 = .ok (.getfield 19, 3) := by decide +kernel
theorem dX3_readAtom_4 : decode cX3_readAtom 4 = .ok (.bipush 40, 2) := by decide +kernel
theorem dX3_readAtom_6 : decode cX3_readAtom 6 = .ok (.invokevirtual 70, 3) := by decide +kernel
theorem dX3_readAtom_9 : decode cX3_readAtom 9 = .ok (.ifCond .eq 39, 3) := by decide +kernel
theorem dX3_readAtom_12 : decode cX3_readAtom 12 = .ok (.aload_n 0, 1) := by decide +kernel
theorem dX3_readAtom_13 : decode cX3_readAtom 13 = .ok (.iload_n 1, 1) := by decide +kernel
theorem dX3_readAtom_14 : decode cX3_readAtom 14 = .ok (.invokevirtual 67, 3) := by decide +kernel
theorem dX3_readAtom_17 : decode cX3_readAtom 17 = .ok (.ifCond .eq 29, 3) := by decide +kernel
theorem dX3_readAtom_20 : decode cX3_readAtom 20 = .ok (.aload_n 0, 1) := by decide +kernel
theorem dX3_readAtom_21 : decode cX3_readAtom 21 = .ok (.iload_n 1, 1) := by decide +kernel
theorem dX3_readAtom_22 : decode cX3_readAtom 22 = .ok (.iconst 1, 1) := by decide +kernel
theorem dX3_readAtom_23 : decode cX3_readAtom 23 = .ok (.iadd, 1) := by decide +kernel
theorem dX3_readAtom_24 : decode cX3_readAtom 24 = .ok (.invokevirtual 77, 3) := by decide +kernel
theorem dX3_readAtom_27 : decode cX3_readAtom 27 = .ok (.ifCond .eq 19, 3) := by decide +kernel
theorem dX3_readAtom_30 : decode cX3_readAtom 30 = .ok (.aload_n 0, 1) := by decide +kernel
theorem dX3_readAtom_31 : decode cX3_readAtom 31 = .ok (.getfield 19, 3) := by decide +kernel
theorem dX3_readAtom_34 : decode cX3_readAtom 34 = .ok (.bipush 41, 2) := by decide +kernel
theorem dX3_readAtom_36 : decode cX3_readAtom 36 = .ok (.invokevirtual 74, 3) := by decide +kernel
theorem dX3_readAtom_39 : decode cX3_readAtom 39 = .ok (.ifCond .eq 7, 3) := by decide +kernel
theorem dX3_readAtom_42 : decode cX3_readAtom 42 = .ok (.iconst 1, 1) := by decide +kernel
theorem dX3_readAtom_43 : decode cX3_readAtom 43 = .ok (.goto 4, 3) := by decide +kernel
theorem dX3_readAtom_46 : decode cX3_readAtom 46 = .ok (.iconst 0, 1) := by decide +kernel
theorem dX3_readAtom_47 : decode cX3_readAtom 47 = .ok (.ireturn, 1) := by decide +kernel
theorem dX3_readAtom_48 : decode cX3_readAtom 48 = .ok (.aload_n 0, 1) := by decide +kernel
theorem dX3_readAtom_49 : decode cX3_readAtom 49 = .ok (.getfield 19, 3) := by decide +kernel
theorem dX3_readAtom_52 : decode cX3_readAtom 52 = .ok (.getfield 89, 3) := by decide +kernel
theorem dX3_readAtom_55 : decode cX3_readAtom 55 = .ok (.iconst 2, 1) := by decide +kernel
theorem dX3_readAtom_56 : decode cX3_readAtom 56 = .ok (.if_icmp .ne 24, 3) := by decide +kernel
theorem dX3_readAtom_59 : decode cX3_readAtom 59 = .ok (.aload_n 0, 1) := by decide +kernel
theorem dX3_readAtom_60 : decode cX3_readAtom 60 = .ok (.iconst 0, 1) := by decide +kernel
theorem dX3_readAtom_61 : decode cX3_readAtom 61 = .ok (.aload_n 0, 1) := by decide +kernel
theorem dX3_readAtom_62 : decode cX3_readAtom 62 = .ok (.getfield 19, 3) := by decide +kernel
theorem dX3_readAtom_65 : decode cX3_readAtom 65 = .ok (.getfield 92, 3) := by decide +kernel
theorem dX3_readAtom_68 : decode cX3_readAtom 68 = .ok (.invokevirtual 52, 3) := by decide +kernel
theorem dX3_readAtom_71 : decode cX3_readAtom 71 = .ok (.aload_n 0, 1) := by decide +kernel
theorem dX3_readAtom_72 : decode cX3_readAtom 72 = .ok (.getfield 19, 3) := by decide +kernel
theorem dX3_readAtom_75 : decode cX3_readAtom 75 = .ok (.invokevirtual 49, 3) := by decide +kernel
theorem dX3_readAtom_78 : decode cX3_readAtom 78 = .ok (.iconst 1, 1) := by decide +kernel
theorem dX3_readAtom_79 : decode cX3_readAtom 79 = .ok (.ireturn, 1) := by decide +kernel
theorem dX3_readAtom_80 : decode cX3_readAtom 80 = .ok (.aload_n 0, 1) := by decide +kernel
theorem dX3_readAtom_81 : decode cX3_readAtom 81 = .ok (.invokevirtual 95, 3) := by decide +kernel
theorem dX3_readAtom_84 : decode cX3_readAtom 84 = .ok (.istore_n 2, 1) := by decide +kernel
theorem dX3_readAtom_85 : decode cX3_readAtom 85 = .ok (.iload_n 2, 1) := by decide +kernel
theorem dX3_readAtom_86 : decode cX3_readAtom 86 = .ok (.iconst (-1), 1) := by decide +kernel
theorem dX3_readAtom_87 : decode cX3_readAtom 87 = .ok (.if_icmp .ne 12, 3) := by decide +kernel
theorem dX3_readAtom_90 : decode cX3_readAtom 90 = .ok (.aload_n 0, 1) := by decide +kernel
theorem dX3_readAtom_91 : decode cX3_readAtom 91 = .ok (.getfield 19, 3) := by decide +kernel
theorem dX3_readAtom_94 : decode cX3_readAtom 94 = .ok (.iconst 2, 1) := by decide +kernel
theorem dX3_readAtom_95 : decode cX3_readAtom 95 = .ok (.invokevirtual 80, 3) := by decide +kernel
theorem dX3_readAtom_98 : decode cX3_readAtom 98 = .ok (.ireturn, 1) := by decide +kernel
theorem dX3_readAtom_99 : decode cX3_readAtom 99 = .ok (.aload_n 0, 1) := by decide +kernel
theorem dX3_readAtom_100 : decode cX3_readAtom 100 = .ok (.iconst 1, 1) := by decide +kernel
theorem dX3_readAtom_101 : decode cX3_readAtom 101 = .ok (.iload_n 2, 1) := by decide +kernel
theorem dX3_readAtom_102 : decode cX3_readAtom 102 = .ok (.invokevirtual 52, 3) := by decide +kernel
theorem dX3_readAtom_105 : decode cX3_readAtom 105 = .ok (.aload_n 0, 1) := by decide +kernel
theorem dX3_readAtom_106 : decode cX3_readAtom 106 = .ok (.getfield 19, 3) := by decide +kernel
theorem dX3_readAtom_109 : decode cX3_readAtom 109 = .ok (.invokevirtual 49, 3) := by decide +kernel
theorem dX3_readAtom_112 : decode cX3_readAtom 112 = .ok (.iconst 1, 1) := by decide +kernel
theorem dX3_readAtom_113 : decode cX3_readAtom 113 = .ok (.ireturn, 1) := by decide +kernel
theorem dX3_readBoth_0 : decode cX3_readBoth 0 = .ok (.aload_n 0, 1) := by decide +kernel
theorem dX3_readBoth_1 : decode cX3_readBoth 1 = .ok (.iload_n 1, 1) := by decide +kernel
theorem dX3_readBoth_2 : decode cX3_readBoth 2 = .ok (.invokevirtual 60, 3) := by decide +kernel
theorem dX3_readBoth_5 : decode cX3_readBoth 5 = .ok (.istore_n 2, 1) := by decide +kernel
theorem dX3_readBoth_6 : decode cX3_readBoth 6 = .ok (.iconst 0, 1) := by decide +kernel
theorem dX3_readBoth_7 : decode cX3_readBoth 7 = .ok (.istore_n 3, 1) := by decide +kernel
theorem dX3_readBoth_8 : decode cX3_readBoth 8 = .ok (.iload_n 3, 1) := by decide +kernel
theorem dX3_readBoth_9 : decode cX3_readBoth 9 = .ok (.sipush 900, 3) := by decide +kernel
theorem dX3_readBoth_12 : decode cX3_readBoth 12 = .ok (.if_icmp .ge 56, 3) := by decide +kernel
theorem dX3_readBoth_15 : decode cX3_readBoth 15 = .ok (.iload_n 2, 1) := by decide +kernel
theorem dX3_readBoth_16 : decode cX3_readBoth 16 = .ok (.ifCond .eq 52, 3) := by decide +kernel
theorem dX3_readBoth_19 : decode cX3_readBoth 19 = .ok (.aload_n 0, 1) := by decide +kernel
theorem dX3_readBoth_20 : decode cX3_readBoth 20 = .ok (.getfield 19, 3) := by decide +kernel
theorem dX3_readBoth_23 : decode cX3_readBoth 23 = .ok (.ldc 63, 2) := by decide +kernel
theorem dX3_readBoth_25 : decode cX3_readBoth 25 = .ok (.invokevirtual 43, 3) := by decide +kernel
theorem dX3_readBoth_28 : decode cX3_readBoth 28 = .ok (.ifCond .eq 40, 3) := by decide +kernel
theorem dX3_readBoth_31 : decode cX3_readBoth 31 = .ok (.aload_n 0, 1) := by decide +kernel
theorem dX3_readBoth_32 : decode cX3_readBoth 32 = .ok (.getfield 19, 3) := by decide +kernel
theorem dX3_readBoth_35 : decode cX3_readBoth 35 = .ok (.invokevirtual 49, 3) := by decide +kernel
theorem dX3_readBoth_38 : decode cX3_readBoth 38 = .ok (.aload_n 0, 1) := by decide +kernel
theorem dX3_readBoth_39 : decode cX3_readBoth 39 = .ok (.getfield 15, 3) := by decide +kernel
theorem dX3_readBoth_42 : decode cX3_readBoth 42 = .ok (.istore 4, 2) := by decide +kernel
theorem dX3_readBoth_44 : decode cX3_readBoth 44 = .ok (.aload_n 0, 1) := by decide +kernel
theorem dX3_readBoth_45 : decode cX3_readBoth 45 = .ok (.iconst 3, 1) := by decide +kernel
theorem dX3_readBoth_46 : decode cX3_readBoth 46 = .ok (.iconst 0, 1) := by decide +kernel
theorem dX3_readBoth_47 : decode cX3_readBoth 47 = .ok (.invokevirtual 52, 3) := by decide +kernel
theorem dX3_readBoth_50 : decode cX3_readBoth 50 = .ok (.aload_n 0, 1) := by decide +kernel
theorem dX3_readBoth_51 : decode cX3_readBoth 51 = .ok (.iload_n 1, 1) := by decide +kernel
theorem dX3_readBoth_52 : decode cX3_readBoth 52 = .ok (.invokevirtual 60, 3) := by decide +kernel
theorem dX3_readBoth_55 : decode cX3_readBoth 55 = .ok (.istore_n 2, 1) := by decide +kernel
theorem dX3_readBoth_56 : decode cX3_readBoth 56 = .ok (.aload_n 0, 1) := by decide +kernel
theorem dX3_readBoth_57 : decode cX3_readBoth 57 = .ok (.iload 4, 2) := by decide +kernel
theorem dX3_readBoth_59 : decode cX3_readBoth 59 = .ok (.invokevirtual 56, 3) := by decide +kernel
theorem dX3_readBoth_62 : decode cX3_readBoth 62 = .ok (.iinc 3 1, 3) := by decide +kernel
theorem dX3_readBoth_65 : decode cX3_readBoth 65 = .ok (.goto (-57), 3) := by decide +kernel
theorem dX3_readBoth_68 : decode cX3_readBoth 68 = .ok (.iload_n 2, 1) := by decide +kernel
theorem dX3_readBoth_69 : decode cX3_readBoth 69 = .ok (.ireturn, 1) := by decide +kernel
theorem dX3_readSum_0 : decode cX3_readSum 0 = .ok (.aload_n 0, 1) := by decide +kernel
theorem dX3_readSum_1 : decode cX3_readSum 1 = .ok (.iload_n 1, 1) := by decide +kernel
theorem dX3_readSum_2 : decode cX3_readSum 2 = .ok (.invokevirtual 83, 3) := by decide +kernel
theorem dX3_readSum_5 : decode cX3_readSum 5 = .ok (.istore_n 2, 1) := by decide +kernel
theorem dX3_readSum_6 : decode cX3_readSum 6 = .ok (.iconst 0, 1) := by decide +kernel
theorem dX3_readSum_7 : decode cX3_readSum 7 = .ok (.istore_n 3, 1) := by decide +kernel
theorem dX3_readSum_8 : decode cX3_readSum 8 = .ok (.iload_n 3, 1) := by decide +kernel
theorem dX3_readSum_9 : decode cX3_readSum 9 = .ok (.sipush 900, 3) := by decide +kernel
theorem dX3_readSum_12 : decode cX3_readSum 12 = .ok (.if_icmp .ge 77, 3) := by decide +kernel
theorem dX3_readSum_15 : decode cX3_readSum 15 = .ok (.iload_n 2, 1) := by decide +kernel
theorem dX3_readSum_16 : decode cX3_readSum 16 = .ok (.ifCond .eq 73, 3) := by decide +kernel
theorem dX3_readSum_19 : decode cX3_readSum 19 = .ok (.aload_n 0, 1) := by decide +kernel
theorem dX3_readSum_20 : decode cX3_readSum 20 = .ok (.getfield 19, 3) := by decide +kernel
theorem dX3_readSum_23 : decode cX3_readSum 23 = .ok (.bipush 43, 2) := by decide +kernel
theorem dX3_readSum_25 : decode cX3_readSum 25 = .ok (.invokevirtual 70, 3) := by decide +kernel
theorem dX3_readSum_28 : decode cX3_readSum 28 = .ok (.ifCond .ne 15, 3) := by decide +kernel
theorem dX3_readSum_31 : decode cX3_readSum 31 = .ok (.aload_n 0, 1) := by decide +kernel
theorem dX3_readSum_32 : decode cX3_readSum 32 = .ok (.getfield 19, 3) := by decide +kernel
theorem dX3_readSum_35 : decode cX3_readSum 35 = .ok (.bipush 45, 2) := by decide +kernel
theorem dX3_readSum_37 : decode cX3_readSum 37 = .ok (.invokevirtual 70, 3) := by decide +kernel
theorem dX3_readSum_40 : decode cX3_readSum 40 = .ok (.ifCond .eq 49, 3) := by decide +kernel
theorem dX3_readSum_43 : decode cX3_readSum 43 = .ok (.aload_n 0, 1) := by decide +kernel
theorem dX3_readSum_44 : decode cX3_readSum 44 = .ok (.getfield 19, 3) := by decide +kernel
theorem dX3_readSum_47 : decode cX3_readSum 47 = .ok (.bipush 43, 2) := by decide +kernel
theorem dX3_readSum_49 : decode cX3_readSum 49 = .ok (.invokevirtual 70, 3) := by decide +kernel
theorem dX3_readSum_52 : decode cX3_readSum 52 = .ok (.ifCond .eq 7, 3) := by decide +kernel
theorem dX3_readSum_55 : decode cX3_readSum 55 = .ok (.iconst 5, 1) := by decide +kernel
theorem dX3_readSum_56 : decode cX3_readSum 56 = .ok (.goto 5, 3) := by decide +kernel
theorem dX3_readSum_59 : decode cX3_readSum 59 = .ok (.bipush 6, 2) := by decide +kernel
theorem dX3_readSum_61 : decode cX3_readSum 61 = .ok (.istore 4, 2) := by decide +kernel
theorem dX3_readSum_63 : decode cX3_readSum 63 = .ok (.aload_n 0, 1) := by decide +kernel
theorem dX3_readSum_64 : decode cX3_readSum 64 = .ok (.getfield 19, 3) := by decide +kernel
theorem dX3_readSum_67 : decode cX3_readSum 67 = .ok (.invokevirtual 49, 3) := by decide +kernel
theorem dX3_readSum_70 : decode cX3_readSum 70 = .ok (.aload_n 0, 1) := by decide +kernel
theorem dX3_readSum_71 : decode cX3_readSum 71 = .ok (.iload_n 1, 1) := by decide +kernel
theorem dX3_readSum_72 : decode cX3_readSum 72 = .ok (.invokevirtual 83, 3) := by decide +kernel
theorem dX3_readSum_75 : decode cX3_readSum 75 = .ok (.istore_n 2, 1) := by decide +kernel
theorem dX3_readSum_76 : decode cX3_readSum 76 = .ok (.aload_n 0, 1) := by decide +kernel
theorem dX3_readSum_77 : decode cX3_readSum 77 = .ok (.iload 4, 2) := by decide +kernel
theorem dX3_readSum_79 : decode cX3_readSum 79 = .ok (.iconst 0, 1) := by decide +kernel
theorem dX3_readSum_80 : decode cX3_readSum 80 = .ok (.invokevirtual 52, 3) := by decide +kernel
theorem dX3_readSum_83 : decode cX3_readSum 83 = .ok (.iinc 3 1, 3) := by decide +kernel
theorem dX3_readSum_86 : decode cX3_readSum 86 = .ok (.goto (-78), 3) := by decide +kernel
theorem dX3_readSum_89 : decode cX3_readSum 89 = .ok (.iload_n 2, 1) := by decide +kernel
theorem dX3_readSum_90 : decode cX3_readSum 90 = .ok (.ireturn, 1) := by decide +kernel
theorem dX3_readTerm_0 : decode cX3_readTerm 0 = .ok (.aload_n 0, 1) := by decide +kernel
theorem dX3_readTerm_1 : decode cX3_readTerm 1 = .ok (.iload_n 1, 1) := by decide +kernel
theorem dX3_readTerm_2 : decode cX3_readTerm 2 = .ok (.invokevirtual 86, 3) := by decide +kernel
theorem dX3_readTerm_5 : decode cX3_readTerm 5 = .ok (.istore_n 2, 1) := by decide +kernel
theorem dX3_readTerm_6 : decode cX3_readTerm 6 = .ok (.iconst 0, 1) := by decide +kernel
theorem dX3_readTerm_7 : decode cX3_readTerm 7 = .ok (.istore_n 3, 1) := by decide +kernel
theorem dX3_readTerm_8 : decode cX3_readTerm 8 = .ok (.iload_n 3, 1) := by decide +kernel
theorem dX3_readTerm_9 : decode cX3_readTerm 9 = .ok (.sipush 900, 3) := by decide +kernel
theorem dX3_readTerm_12 : decode cX3_readTerm 12 = .ok (.if_icmp .ge 45, 3) := by decide +kernel
theorem dX3_readTerm_15 : decode cX3_readTerm 15 = .ok (.iload_n 2, 1) := by decide +kernel
theorem dX3_readTerm_16 : decode cX3_readTerm 16 = .ok (.ifCond .eq 41, 3) := by decide +kernel
theorem dX3_readTerm_19 : decode cX3_readTerm 19 = .ok (.aload_n 0, 1) := by decide +kernel
theorem dX3_readTerm_20 : decode cX3_readTerm 20 = .ok (.getfield 19, 3) := by decide +kernel
theorem dX3_readTerm_23 : decode cX3_readTerm 23 = .ok (.bipush 42, 2) := by decide +kernel
theorem dX3_readTerm_25 : decode cX3_readTerm 25 = .ok (.invokevirtual 70, 3) := by decide +kernel
theorem dX3_readTerm_28 : decode cX3_readTerm 28 = .ok (.ifCond .eq 29, 3) := by decide +kernel
theorem dX3_readTerm_31 : decode cX3_readTerm 31 = .ok (.aload_n 0, 1) := by decide +kernel
theorem dX3_readTerm_32 : decode cX3_readTerm 32 = .ok (.getfield 19, 3) := by decide +kernel
theorem dX3_readTerm_35 : decode cX3_readTerm 35 = .ok (.invokevirtual 49, 3) := by decide +kernel
theorem dX3_readTerm_38 : decode cX3_readTerm 38 = .ok (.aload_n 0, 1) := by decide +kernel
theorem dX3_readTerm_39 : decode cX3_readTerm 39 = .ok (.iload_n 1, 1) := by decide +kernel
theorem dX3_readTerm_40 : decode cX3_readTerm 40 = .ok (.invokevirtual 86, 3) := by decide +kernel
theorem dX3_readTerm_43 : decode cX3_readTerm 43 = .ok (.istore_n 2, 1) := by decide +kernel
theorem dX3_readTerm_44 : decode cX3_readTerm 44 = .ok (.aload_n 0, 1) := by decide +kernel
theorem dX3_readTerm_45 : decode cX3_readTerm 45 = .ok (.bipush 7, 2) := by decide +kernel
theorem dX3_readTerm_47 : decode cX3_readTerm 47 = .ok (.iconst 0, 1) := by decide +kernel
theorem dX3_readTerm_48 : decode cX3_readTerm 48 = .ok (.invokevirtual 52, 3) := by decide +kernel
theorem dX3_readTerm_51 : decode cX3_readTerm 51 = .ok (.iinc 3 1, 3) := by decide +kernel
theorem dX3_readTerm_54 : decode cX3_readTerm 54 = .ok (.goto (-46), 3) := by decide +kernel
theorem dX3_readTerm_57 : decode cX3_readTerm 57 = .ok (.iload_n 2, 1) := by decide +kernel
theorem dX3_readTerm_58 : decode cX3_readTerm 58 = .ok (.ireturn, 1) := by decide +kernel
theorem dX3_readTruth_0 : decode cX3_readTruth 0 = .ok (.aload_n 0, 1) := by decide +kernel
theorem dX3_readTruth_1 : decode cX3_readTruth 1 = .ok (.iload_n 1, 1) := by decide +kernel
theorem dX3_readTruth_2 : decode cX3_readTruth 2 = .ok (.invokevirtual 38, 3) := by decide +kernel
theorem dX3_readTruth_5 : decode cX3_readTruth 5 = .ok (.istore_n 2, 1) := by decide +kernel
theorem dX3_readTruth_6 : decode cX3_readTruth 6 = .ok (.iconst 0, 1) := by decide +kernel
theorem dX3_readTruth_7 : decode cX3_readTruth 7 = .ok (.istore_n 3, 1) := by decide +kernel
theorem dX3_readTruth_8 : decode cX3_readTruth 8 = .ok (.iload_n 3, 1) := by decide +kernel
theorem dX3_readTruth_9 : decode cX3_readTruth 9 = .ok (.sipush 900, 3) := by decide +kernel
theorem dX3_readTruth_12 : decode cX3_readTruth 12 = .ok (.if_icmp .ge 56, 3) := by decide +kernel
theorem dX3_readTruth_15 : decode cX3_readTruth 15 = .ok (.iload_n 2, 1) := by decide +kernel
theorem dX3_readTruth_16 : decode cX3_readTruth 16 = .ok (.ifCond .eq 52, 3) := by decide +kernel
theorem dX3_readTruth_19 : decode cX3_readTruth 19 = .ok (.aload_n 0, 1) := by decide +kernel
theorem dX3_readTruth_20 : decode cX3_readTruth 20 = .ok (.getfield 19, 3) := by decide +kernel
theorem dX3_readTruth_23 : decode cX3_readTruth 23 = .ok (.ldc 41, 2) := by decide +kernel
theorem dX3_readTruth_25 : decode cX3_readTruth 25 = .ok (.invokevirtual 43, 3) := by decide +kernel
theorem dX3_readTruth_28 : decode cX3_readTruth 28 = .ok (.ifCond .eq 40, 3) := by decide +kernel
theorem dX3_readTruth_31 : decode cX3_readTruth 31 = .ok (.aload_n 0, 1) := by decide +kernel
theorem dX3_readTruth_32 : decode cX3_readTruth 32 = .ok (.getfield 19, 3) := by decide +kernel
theorem dX3_readTruth_35 : decode cX3_readTruth 35 = .ok (.invokevirtual 49, 3) := by decide +kernel
theorem dX3_readTruth_38 : decode cX3_readTruth 38 = .ok (.aload_n 0, 1) := by decide +kernel
theorem dX3_readTruth_39 : decode cX3_readTruth 39 = .ok (.getfield 15, 3) := by decide +kernel
theorem dX3_readTruth_42 : decode cX3_readTruth 42 = .ok (.istore 4, 2) := by decide +kernel
theorem dX3_readTruth_44 : decode cX3_readTruth 44 = .ok (.aload_n 0, 1) := by decide +kernel
theorem dX3_readTruth_45 : decode cX3_readTruth 45 = .ok (.iconst 4, 1) := by decide +kernel
theorem dX3_readTruth_46 : decode cX3_readTruth 46 = .ok (.iconst 0, 1) := by decide +kernel
theorem dX3_readTruth_47 : decode cX3_readTruth 47 = .ok (.invokevirtual 52, 3) := by decide +kernel
theorem dX3_readTruth_50 : decode cX3_readTruth 50 = .ok (.aload_n 0, 1) := by decide +kernel
theorem dX3_readTruth_51 : decode cX3_readTruth 51 = .ok (.iload_n 1, 1) := by decide +kernel
theorem dX3_readTruth_52 : decode cX3_readTruth 52 = .ok (.invokevirtual 38, 3) := by decide +kernel
theorem dX3_readTruth_55 : decode cX3_readTruth 55 = .ok (.istore_n 2, 1) := by decide +kernel
theorem dX3_readTruth_56 : decode cX3_readTruth 56 = .ok (.aload_n 0, 1) := by decide +kernel
theorem dX3_readTruth_57 : decode cX3_readTruth 57 = .ok (.iload 4, 2) := by decide +kernel
theorem dX3_readTruth_59 : decode cX3_readTruth 59 = .ok (.invokevirtual 56, 3) := by decide +kernel
theorem dX3_readTruth_62 : decode cX3_readTruth 62 = .ok (.iinc 3 1, 3) := by decide +kernel
theorem dX3_readTruth_65 : decode cX3_readTruth 65 = .ok (.goto (-57), 3) := by decide +kernel
theorem dX3_readTruth_68 : decode cX3_readTruth 68 = .ok (.iload_n 2, 1) := by decide +kernel
theorem dX3_readTruth_69 : decode cX3_readTruth 69 = .ok (.ireturn, 1) := by decide +kernel
theorem dX3_readUnit_0 : decode cX3_readUnit 0 = .ok (.aload_n 0, 1) := by decide +kernel
theorem dX3_readUnit_1 : decode cX3_readUnit 1 = .ok (.getfield 19, 3) := by decide +kernel
theorem dX3_readUnit_4 : decode cX3_readUnit 4 = .ok (.ldc 65, 2) := by decide +kernel
theorem dX3_readUnit_6 : decode cX3_readUnit 6 = .ok (.invokevirtual 43, 3) := by decide +kernel
theorem dX3_readUnit_9 : decode cX3_readUnit 9 = .ok (.ifCond .eq 31, 3) := by decide +kernel
theorem dX3_readUnit_12 : decode cX3_readUnit 12 = .ok (.aload_n 0, 1) := by decide +kernel
theorem dX3_readUnit_13 : decode cX3_readUnit 13 = .ok (.iload_n 1, 1) := by decide +kernel
theorem dX3_readUnit_14 : decode cX3_readUnit 14 = .ok (.invokevirtual 67, 3) := by decide +kernel
theorem dX3_readUnit_17 : decode cX3_readUnit 17 = .ok (.ifCond .eq 13, 3) := by decide +kernel
theorem dX3_readUnit_20 : decode cX3_readUnit 20 = .ok (.aload_n 0, 1) := by decide +kernel
theorem dX3_readUnit_21 : decode cX3_readUnit 21 = .ok (.iload_n 1, 1) := by decide +kernel
theorem dX3_readUnit_22 : decode cX3_readUnit 22 = .ok (.iconst 1, 1) := by decide +kernel
theorem dX3_readUnit_23 : decode cX3_readUnit 23 = .ok (.iadd, 1) := by decide +kernel
theorem dX3_readUnit_24 : decode cX3_readUnit 24 = .ok (.invokevirtual 60, 3) := by decide +kernel
theorem dX3_readUnit_27 : decode cX3_readUnit 27 = .ok (.ifCond .ne 5, 3) := by decide +kernel
theorem dX3_readUnit_30 : decode cX3_readUnit 30 = .ok (.iconst 0, 1) := by decide +kernel
theorem dX3_readUnit_31 : decode cX3_readUnit 31 = .ok (.ireturn, 1) := by decide +kernel
theorem dX3_readUnit_32 : decode cX3_readUnit 32 = .ok (.aload_n 0, 1) := by decide +kernel
theorem dX3_readUnit_33 : decode cX3_readUnit 33 = .ok (.iconst 2, 1) := by decide +kernel
theorem dX3_readUnit_34 : decode cX3_readUnit 34 = .ok (.iconst 0, 1) := by decide +kernel
theorem dX3_readUnit_35 : decode cX3_readUnit 35 = .ok (.invokevirtual 52, 3) := by decide +kernel
theorem dX3_readUnit_38 : decode cX3_readUnit 38 = .ok (.iconst 1, 1) := by decide +kernel
theorem dX3_readUnit_39 : decode cX3_readUnit 39 = .ok (.ireturn, 1) := by decide +kernel
theorem dX3_readUnit_40 : decode cX3_readUnit 40 = .ok (.aload_n 0, 1) := by decide +kernel
theorem dX3_readUnit_41 : decode cX3_readUnit 41 = .ok (.getfield 19, 3) := by decide +kernel
theorem dX3_readUnit_44 : decode cX3_readUnit 44 = .ok (.bipush 91, 2) := by decide +kernel
theorem dX3_readUnit_46 : decode cX3_readUnit 46 = .ok (.invokevirtual 70, 3) := by decide +kernel
theorem dX3_readUnit_49 : decode cX3_readUnit 49 = .ok (.ifCond .eq 39, 3) := by decide +kernel
theorem dX3_readUnit_52 : decode cX3_readUnit 52 = .ok (.aload_n 0, 1) := by decide +kernel
theorem dX3_readUnit_53 : decode cX3_readUnit 53 = .ok (.iload_n 1, 1) := by decide +kernel
theorem dX3_readUnit_54 : decode cX3_readUnit 54 = .ok (.invokevirtual 67, 3) := by decide +kernel
theorem dX3_readUnit_57 : decode cX3_readUnit 57 = .ok (.ifCond .eq 29, 3) := by decide +kernel
theorem dX3_readUnit_60 : decode cX3_readUnit 60 = .ok (.aload_n 0, 1) := by decide +kernel
theorem dX3_readUnit_61 : decode cX3_readUnit 61 = .ok (.iload_n 1, 1) := by decide +kernel
theorem dX3_readUnit_62 : decode cX3_readUnit 62 = .ok (.iconst 1, 1) := by decide +kernel
theorem dX3_readUnit_63 : decode cX3_readUnit 63 = .ok (.iadd, 1) := by decide +kernel
theorem dX3_readUnit_64 : decode cX3_readUnit 64 = .ok (.invokevirtual 23, 3) := by decide +kernel
theorem dX3_readUnit_67 : decode cX3_readUnit 67 = .ok (.ifCond .eq 19, 3) := by decide +kernel
theorem dX3_readUnit_70 : decode cX3_readUnit 70 = .ok (.aload_n 0, 1) := by decide +kernel
theorem dX3_readUnit_71 : decode cX3_readUnit 71 = .ok (.getfield 19, 3) := by decide +kernel
theorem dX3_readUnit_74 : decode cX3_readUnit 74 = .ok (.bipush 93, 2) := by decide +kernel
theorem dX3_readUnit_76 : decode cX3_readUnit 76 = .ok (.invokevirtual 74, 3) := by decide +kernel
theorem dX3_readUnit_79 : decode cX3_readUnit 79 = .ok (.ifCond .eq 7, 3) := by decide +kernel
theorem dX3_readUnit_82 : decode cX3_readUnit 82 = .ok (.iconst 1, 1) := by decide +kernel
theorem dX3_readUnit_83 : decode cX3_readUnit 83 = .ok (.goto 4, 3) := by decide +kernel
theorem dX3_readUnit_86 : decode cX3_readUnit 86 = .ok (.iconst 0, 1) := by decide +kernel
theorem dX3_readUnit_87 : decode cX3_readUnit 87 = .ok (.ireturn, 1) := by decide +kernel
theorem dX3_readUnit_88 : decode cX3_readUnit 88 = .ok (.aload_n 0, 1) := by decide +kernel
theorem dX3_readUnit_89 : decode cX3_readUnit 89 = .ok (.iload_n 1, 1) := by decide +kernel
theorem dX3_readUnit_90 : decode cX3_readUnit 90 = .ok (.invokevirtual 77, 3) := by decide +kernel
theorem dX3_readUnit_93 : decode cX3_readUnit 93 = .ok (.ifCond .ne 5, 3) := by decide +kernel
theorem dX3_readUnit_96 : decode cX3_readUnit 96 = .ok (.iconst 0, 1) := by decide +kernel
theorem dX3_readUnit_97 : decode cX3_readUnit 97 = .ok (.ireturn, 1) := by decide +kernel
theorem dX3_readUnit_98 : decode cX3_readUnit 98 = .ok (.aload_n 0, 1) := by decide +kernel
theorem dX3_readUnit_99 : decode cX3_readUnit 99 = .ok (.getfield 19, 3) := by decide +kernel
theorem dX3_readUnit_102 : decode cX3_readUnit 102 = .ok (.bipush 61, 2) := by decide +kernel
theorem dX3_readUnit_104 : decode cX3_readUnit 104 = .ok (.invokevirtual 70, 3) := by decide +kernel
theorem dX3_readUnit_107 : decode cX3_readUnit 107 = .ok (.ifCond .eq 8, 3) := by decide +kernel
theorem dX3_readUnit_110 : decode cX3_readUnit 110 = .ok (.bipush 8, 2) := by decide +kernel
theorem dX3_readUnit_112 : decode cX3_readUnit 112 = .ok (.goto 22, 3) := by decide +kernel
theorem dX3_readUnit_115 : decode cX3_readUnit 115 = .ok (.aload_n 0, 1) := by decide +kernel
theorem dX3_readUnit_116 : decode cX3_readUnit 116 = .ok (.getfield 19, 3) := by decide +kernel
theorem dX3_readUnit_119 : decode cX3_readUnit 119 = .ok (.bipush 60, 2) := by decide +kernel
theorem dX3_readUnit_121 : decode cX3_readUnit 121 = .ok (.invokevirtual 70, 3) := by decide +kernel
theorem dX3_readUnit_124 : decode cX3_readUnit 124 = .ok (.ifCond .eq 8, 3) := by decide +kernel
theorem dX3_readUnit_127 : decode cX3_readUnit 127 = .ok (.bipush 9, 2) := by decide +kernel
theorem dX3_readUnit_129 : decode cX3_readUnit 129 = .ok (.goto 5, 3) := by decide +kernel
theorem dX3_readUnit_132 : decode cX3_readUnit 132 = .ok (.bipush 10, 2) := by decide +kernel
theorem dX3_readUnit_134 : decode cX3_readUnit 134 = .ok (.istore_n 2, 1) := by decide +kernel
theorem dX3_readUnit_135 : decode cX3_readUnit 135 = .ok (.iload_n 2, 1) := by decide +kernel
theorem dX3_readUnit_136 : decode cX3_readUnit 136 = .ok (.bipush 10, 2) := by decide +kernel
theorem dX3_readUnit_138 : decode cX3_readUnit 138 = .ok (.if_icmp .ne 24, 3) := by decide +kernel
theorem dX3_readUnit_141 : decode cX3_readUnit 141 = .ok (.aload_n 0, 1) := by decide +kernel
theorem dX3_readUnit_142 : decode cX3_readUnit 142 = .ok (.getfield 19, 3) := by decide +kernel
theorem dX3_readUnit_145 : decode cX3_readUnit 145 = .ok (.bipush 62, 2) := by decide +kernel
theorem dX3_readUnit_147 : decode cX3_readUnit 147 = .ok (.invokevirtual 70, 3) := by decide +kernel
theorem dX3_readUnit_150 : decode cX3_readUnit 150 = .ok (.ifCond .ne 12, 3) := by decide +kernel
theorem dX3_readUnit_153 : decode cX3_readUnit 153 = .ok (.aload_n 0, 1) := by decide +kernel
theorem dX3_readUnit_154 : decode cX3_readUnit 154 = .ok (.getfield 19, 3) := by decide +kernel
theorem dX3_readUnit_157 : decode cX3_readUnit 157 = .ok (.iconst 2, 1) := by decide +kernel
theorem dX3_readUnit_158 : decode cX3_readUnit 158 = .ok (.invokevirtual 80, 3) := by decide +kernel
theorem dX3_readUnit_161 : decode cX3_readUnit 161 = .ok (.ireturn, 1) := by decide +kernel
theorem dX3_readUnit_162 : decode cX3_readUnit 162 = .ok (.aload_n 0, 1) := by decide +kernel
theorem dX3_readUnit_163 : decode cX3_readUnit 163 = .ok (.getfield 19, 3) := by decide +kernel
theorem dX3_readUnit_166 : decode cX3_readUnit 166 = .ok (.invokevirtual 49, 3) := by decide +kernel
theorem dX3_readUnit_169 : decode cX3_readUnit 169 = .ok (.aload_n 0, 1) := by decide +kernel
theorem dX3_readUnit_170 : decode cX3_readUnit 170 = .ok (.iload_n 1, 1) := by decide +kernel
theorem dX3_readUnit_171 : decode cX3_readUnit 171 = .ok (.invokevirtual 77, 3) := by decide +kernel
theorem dX3_readUnit_174 : decode cX3_readUnit 174 = .ok (.ifCond .ne 5, 3) := by decide +kernel
theorem dX3_readUnit_177 : decode cX3_readUnit 177 = .ok (.iconst 0, 1) := by decide +kernel
theorem dX3_readUnit_178 : decode cX3_readUnit 178 = .ok (.ireturn, 1) := by decide +kernel
theorem dX3_readUnit_179 : decode cX3_readUnit 179 = .ok (.aload_n 0, 1) := by decide +kernel
theorem dX3_readUnit_180 : decode cX3_readUnit 180 = .ok (.iload_n 2, 1) := by decide +kernel
theorem dX3_readUnit_181 : decode cX3_readUnit 181 = .ok (.iconst 0, 1) := by decide +kernel
theorem dX3_readUnit_182 : decode cX3_readUnit 182 = .ok (.invokevirtual 52, 3) := by decide +kernel
theorem dX3_readUnit_185 : decode cX3_readUnit 185 = .ok (.iconst 1, 1) := by decide +kernel
theorem dX3_readUnit_186 : decode cX3_readUnit 186 = .ok (.ireturn, 1) := by decide +kernel
theorem kw_4 : Cond.initialized "FootholdWall$LawReader" ∈ gw := gw_of (tb_of 4 (by decide +kernel)) (by decide +kernel)
theorem kw_50 : Cond.fieldLink "FootholdWall$LawReader" 89 "FootholdWall$Tokens" "kind" "I" ∈ gw := gw_of (tb_of 50 (by decide +kernel)) (by decide +kernel)
theorem kw_53 : Cond.fieldLink "FootholdWall$LawReader" 92 "FootholdWall$Tokens" "value" "I" ∈ gw := gw_of (tb_of 53 (by decide +kernel)) (by decide +kernel)
theorem kw_82 : Cond.fieldLink "FootholdWall$LawReader" 19 "FootholdWall$LawReader" "tokens" "LFootholdWall$Tokens;" ∈ gw := gw_of (tb_of 82 (by decide +kernel)) (by decide +kernel)
theorem kw_83 : Cond.fieldLink "FootholdWall$LawReader" 9 "FootholdWall$LawReader" "code" "[I" ∈ gw := gw_of (tb_of 83 (by decide +kernel)) (by decide +kernel)
theorem kw_84 : Cond.fieldLink "FootholdWall$LawReader" 15 "FootholdWall$LawReader" "length" "I" ∈ gw := gw_of (tb_of 84 (by decide +kernel)) (by decide +kernel)
theorem kw_611 : Cond.instanceMethod yX7_takeSign ∈ gw := gw_of (tb_of 611 (by decide +kernel)) (by decide +kernel)
theorem kw_612 : Cond.selects "FootholdWall$Tokens" yX7_takeSign yX7_takeSign ∈ gw := gw_of (tb_of 612 (by decide +kernel)) (by decide +kernel)
theorem kw_613 : Cond.code yX7_takeSign cX7_takeSign 2 (some (.boolean)) ∈ gw := gw_of (tb_of 613 (by decide +kernel)) (by decide +kernel)
theorem kw_622 : Cond.methodLink "FootholdWall$LawReader" 23 yX3_readTruth ∈ gw := gw_of (tb_of 622 (by decide +kernel)) (by decide +kernel)
theorem kw_624 : Cond.instanceMethod yX3_readTruth ∈ gw := gw_of (tb_of 624 (by decide +kernel)) (by decide +kernel)
theorem kw_625 : Cond.code yX3_readTruth cX3_readTruth 5 (some (.boolean)) ∈ gw := gw_of (tb_of 625 (by decide +kernel)) (by decide +kernel)
theorem kw_626 : Cond.methodLink "FootholdWall$LawReader" 38 yX3_readBoth ∈ gw := gw_of (tb_of 626 (by decide +kernel)) (by decide +kernel)
theorem kw_628 : Cond.instanceMethod yX3_readBoth ∈ gw := gw_of (tb_of 628 (by decide +kernel)) (by decide +kernel)
theorem kw_629 : Cond.code yX3_readBoth cX3_readBoth 5 (some (.boolean)) ∈ gw := gw_of (tb_of 629 (by decide +kernel)) (by decide +kernel)
theorem kw_630 : Cond.methodLink "FootholdWall$LawReader" 60 yX3_readUnit ∈ gw := gw_of (tb_of 630 (by decide +kernel)) (by decide +kernel)
theorem kw_632 : Cond.instanceMethod yX3_readUnit ∈ gw := gw_of (tb_of 632 (by decide +kernel)) (by decide +kernel)
theorem kw_633 : Cond.code yX3_readUnit cX3_readUnit 3 (some (.boolean)) ∈ gw := gw_of (tb_of 633 (by decide +kernel)) (by decide +kernel)
theorem kw_635 : Cond.methodLink "FootholdWall$LawReader" 43 yX7_isWord ∈ gw := gw_of (tb_of 635 (by decide +kernel)) (by decide +kernel)
theorem kw_636 : Cond.methodLink "FootholdWall$LawReader" 67 yX3_enter ∈ gw := gw_of (tb_of 636 (by decide +kernel)) (by decide +kernel)
theorem kw_638 : Cond.instanceMethod yX3_enter ∈ gw := gw_of (tb_of 638 (by decide +kernel)) (by decide +kernel)
theorem kw_639 : Cond.code yX3_enter cX3_enter 2 (some (.boolean)) ∈ gw := gw_of (tb_of 639 (by decide +kernel)) (by decide +kernel)
theorem kw_640 : Cond.methodLink "FootholdWall$LawReader" 80 yX7_refuse ∈ gw := gw_of (tb_of 640 (by decide +kernel)) (by decide +kernel)
theorem kw_641 : Cond.methodLink "FootholdWall$LawReader" 49 yX7_go ∈ gw := gw_of (tb_of 641 (by decide +kernel)) (by decide +kernel)
theorem kw_642 : Cond.methodLink "FootholdWall$LawReader" 52 yX3_put ∈ gw := gw_of (tb_of 642 (by decide +kernel)) (by decide +kernel)
theorem kw_644 : Cond.instanceMethod yX3_put ∈ gw := gw_of (tb_of 644 (by decide +kernel)) (by decide +kernel)
theorem kw_645 : Cond.code yX3_put cX3_put 3 none ∈ gw := gw_of (tb_of 645 (by decide +kernel)) (by decide +kernel)
theorem kw_646 : Cond.methodLink "FootholdWall$LawReader" 70 yX7_isSign ∈ gw := gw_of (tb_of 646 (by decide +kernel)) (by decide +kernel)
theorem kw_647 : Cond.methodLink "FootholdWall$LawReader" 74 yX7_takeSign ∈ gw := gw_of (tb_of 647 (by decide +kernel)) (by decide +kernel)
theorem kw_648 : Cond.methodLink "FootholdWall$LawReader" 77 yX3_readSum ∈ gw := gw_of (tb_of 648 (by decide +kernel)) (by decide +kernel)
theorem kw_650 : Cond.instanceMethod yX3_readSum ∈ gw := gw_of (tb_of 650 (by decide +kernel)) (by decide +kernel)
theorem kw_651 : Cond.code yX3_readSum cX3_readSum 5 (some (.boolean)) ∈ gw := gw_of (tb_of 651 (by decide +kernel)) (by decide +kernel)
theorem kw_652 : Cond.methodLink "FootholdWall$LawReader" 83 yX3_readTerm ∈ gw := gw_of (tb_of 652 (by decide +kernel)) (by decide +kernel)
theorem kw_654 : Cond.instanceMethod yX3_readTerm ∈ gw := gw_of (tb_of 654 (by decide +kernel)) (by decide +kernel)
theorem kw_655 : Cond.code yX3_readTerm cX3_readTerm 4 (some (.boolean)) ∈ gw := gw_of (tb_of 655 (by decide +kernel)) (by decide +kernel)
theorem kw_656 : Cond.methodLink "FootholdWall$LawReader" 86 yX3_readAtom ∈ gw := gw_of (tb_of 656 (by decide +kernel)) (by decide +kernel)
theorem kw_658 : Cond.instanceMethod yX3_readAtom ∈ gw := gw_of (tb_of 658 (by decide +kernel)) (by decide +kernel)
theorem kw_659 : Cond.code yX3_readAtom cX3_readAtom 3 (some (.boolean)) ∈ gw := gw_of (tb_of 659 (by decide +kernel)) (by decide +kernel)
theorem kw_660 : Cond.methodLink "FootholdWall$LawReader" 95 yX3_factHere ∈ gw := gw_of (tb_of 660 (by decide +kernel)) (by decide +kernel)
theorem kw_662 : Cond.instanceMethod yX3_factHere ∈ gw := gw_of (tb_of 662 (by decide +kernel)) (by decide +kernel)
theorem kw_663 : Cond.code yX3_factHere cX3_factHere 1 (some (.int)) ∈ gw := gw_of (tb_of 663 (by decide +kernel)) (by decide +kernel)
theorem kw_672 : Cond.methodLink "FootholdWall$LawReader" 56 yX3_aimSkip ∈ gw := gw_of (tb_of 672 (by decide +kernel)) (by decide +kernel)
theorem kw_674 : Cond.instanceMethod yX3_aimSkip ∈ gw := gw_of (tb_of 674 (by decide +kernel)) (by decide +kernel)
theorem kw_675 : Cond.code yX3_aimSkip cX3_aimSkip 2 none ∈ gw := gw_of (tb_of 675 (by decide +kernel)) (by decide +kernel)
theorem ks_5 : Cond.selects RX3 yX3_readTruth yX3_readTruth ∈ gw := gw_of (pv_of 5 (by decide +kernel)) (by decide +kernel)
theorem ks_6 : Cond.selects RX3 yX3_readBoth yX3_readBoth ∈ gw := gw_of (pv_of 6 (by decide +kernel)) (by decide +kernel)
theorem ks_7 : Cond.selects RX3 yX3_readUnit yX3_readUnit ∈ gw := gw_of (pv_of 7 (by decide +kernel)) (by decide +kernel)
theorem ks_8 : Cond.selects RX3 yX3_enter yX3_enter ∈ gw := gw_of (pv_of 8 (by decide +kernel)) (by decide +kernel)
theorem ks_9 : Cond.selects RX3 yX3_put yX3_put ∈ gw := gw_of (pv_of 9 (by decide +kernel)) (by decide +kernel)
theorem ks_10 : Cond.selects RX3 yX3_readSum yX3_readSum ∈ gw := gw_of (pv_of 10 (by decide +kernel)) (by decide +kernel)
theorem ks_11 : Cond.selects RX3 yX3_readTerm yX3_readTerm ∈ gw := gw_of (pv_of 11 (by decide +kernel)) (by decide +kernel)
theorem ks_12 : Cond.selects RX3 yX3_readAtom yX3_readAtom ∈ gw := gw_of (pv_of 12 (by decide +kernel)) (by decide +kernel)
theorem ks_13 : Cond.selects RX3 yX3_factHere yX3_factHere ∈ gw := gw_of (pv_of 13 (by decide +kernel)) (by decide +kernel)
theorem ks_14 : Cond.selects RX3 yX3_aimSkip yX3_aimSkip ∈ gw := gw_of (pv_of 14 (by decide +kernel)) (by decide +kernel)
