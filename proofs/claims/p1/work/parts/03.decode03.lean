theorem dX11_image_34 : decode cX11_image 34 = .ok (.ireturn, 1) := by decide +kernel
theorem dX11_inTurn_0 : decode cX11_inTurn 0 = .ok (.iload_n 1, 1) := by decide +kernel
theorem dX11_inTurn_1 : decode cX11_inTurn 1 = .ok (.aload_n 0, 1) := by decide +kernel
theorem dX11_inTurn_2 : decode cX11_inTurn 2 = .ok (.getfield 29, 3) := by decide +kernel
theorem dX11_inTurn_5 : decode cX11_inTurn 5 = .ok (.getfield 216, 3) := by decide +kernel
theorem dX11_inTurn_8 : decode cX11_inTurn 8 = .ok (.iushr, 1) := by decide +kernel
theorem dX11_inTurn_9 : decode cX11_inTurn 9 = .ok (.ifCond .eq 6, 3) := by decide +kernel
theorem dX11_inTurn_12 : decode cX11_inTurn 12 = .ok (.bipush (-3), 2) := by decide +kernel
theorem dX11_inTurn_14 : decode cX11_inTurn 14 = .ok (.ireturn, 1) := by decide +kernel
theorem dX11_inTurn_15 : decode cX11_inTurn 15 = .ok (.iload_n 2, 1) := by decide +kernel
theorem dX11_inTurn_16 : decode cX11_inTurn 16 = .ok (.iconst 5, 1) := by decide +kernel
theorem dX11_inTurn_17 : decode cX11_inTurn 17 = .ok (.invokestatic 299, 3) := by decide +kernel
theorem dX11_inTurn_20 : decode cX11_inTurn 20 = .ok (.ifCond .ne 6, 3) := by decide +kernel
theorem dX11_inTurn_23 : decode cX11_inTurn 23 = .ok (.bipush (-2), 2) := by decide +kernel
theorem dX11_inTurn_25 : decode cX11_inTurn 25 = .ok (.ireturn, 1) := by decide +kernel
theorem dX11_inTurn_26 : decode cX11_inTurn 26 = .ok (.aload_n 0, 1) := by decide +kernel
theorem dX11_inTurn_27 : decode cX11_inTurn 27 = .ok (.iconst (-1), 1) := by decide +kernel
theorem dX11_inTurn_28 : decode cX11_inTurn 28 = .ok (.putfield 107, 3) := by decide +kernel
theorem dX11_inTurn_31 : decode cX11_inTurn 31 = .ok (.aload_n 0, 1) := by decide +kernel
theorem dX11_inTurn_32 : decode cX11_inTurn 32 = .ok (.iconst 0, 1) := by decide +kernel
theorem dX11_inTurn_33 : decode cX11_inTurn 33 = .ok (.iload_n 1, 1) := by decide +kernel
theorem dX11_inTurn_34 : decode cX11_inTurn 34 = .ok (.aload_n 0, 1) := by decide +kernel
theorem dX11_inTurn_35 : decode cX11_inTurn 35 = .ok (.invokevirtual 206, 3) := by decide +kernel
theorem dX11_inTurn_38 : decode cX11_inTurn 38 = .ok (.iconst 0, 1) := by decide +kernel
theorem dX11_inTurn_39 : decode cX11_inTurn 39 = .ok (.invokevirtual 352, 3) := by decide +kernel
theorem dX11_inTurn_42 : decode cX11_inTurn 42 = .ok (.iload_n 2, 1) := by decide +kernel
theorem dX11_inTurn_43 : decode cX11_inTurn 43 = .ok (.ifCond .ne 8, 3) := by decide +kernel
theorem dX11_inTurn_46 : decode cX11_inTurn 46 = .ok (.aload_n 0, 1) := by decide +kernel
theorem dX11_inTurn_47 : decode cX11_inTurn 47 = .ok (.getfield 107, 3) := by decide +kernel
theorem dX11_inTurn_50 : decode cX11_inTurn 50 = .ok (.ireturn, 1) := by decide +kernel
theorem dX11_inTurn_51 : decode cX11_inTurn 51 = .ok (.aload_n 0, 1) := by decide +kernel
theorem dX11_inTurn_52 : decode cX11_inTurn 52 = .ok (.getfield 104, 3) := by decide +kernel
theorem dX11_inTurn_55 : decode cX11_inTurn 55 = .ok (.iload_n 1, 1) := by decide +kernel
theorem dX11_inTurn_56 : decode cX11_inTurn 56 = .ok (.invokestatic 243, 3) := by decide +kernel
theorem dX11_inTurn_59 : decode cX11_inTurn 59 = .ok (.iload_n 2, 1) := by decide +kernel
theorem dX11_inTurn_60 : decode cX11_inTurn 60 = .ok (.invokestatic 306, 3) := by decide +kernel
theorem dX11_inTurn_63 : decode cX11_inTurn 63 = .ok (.ireturn, 1) := by decide +kernel
theorem dX11_init_0 : decode cX11_init 0 = .ok (.aload_n 0, 1) := by decide +kernel
theorem dX11_init_1 : decode cX11_init 1 = .ok (.invokespecial 1, 3) := by decide +kernel
theorem dX11_init_4 : decode cX11_init 4 = .ok (.aload_n 0, 1) := by decide +kernel
theorem dX11_init_5 : decode cX11_init 5 = .ok (.sipush 900, 3) := by decide +kernel
theorem dX11_init_8 : decode cX11_init 8 = .ok (.newarray .byte, 2) := by decide +kernel
theorem dX11_init_10 : decode cX11_init 10 = .ok (.putfield 9, 3) := by decide +kernel
theorem dX11_init_13 : decode cX11_init 13 = .ok (.aload_n 0, 1) := by decide +kernel
theorem dX11_init_14 : decode cX11_init 14 = .ok (.iconst 0, 1) := by decide +kernel
theorem dX11_init_15 : decode cX11_init 15 = .ok (.putfield 13, 3) := by decide +kernel
theorem dX11_init_18 : decode cX11_init 18 = .ok (.aload_n 0, 1) := by decide +kernel
theorem dX11_init_19 : decode cX11_init 19 = .ok (.new 17, 3) := by decide +kernel
theorem dX11_init_22 : decode cX11_init 22 = .ok (.dup, 1) := by decide +kernel
theorem dX11_init_23 : decode cX11_init 23 = .ok (.invokespecial 19, 3) := by decide +kernel
theorem dX11_init_26 : decode cX11_init 26 = .ok (.putfield 20, 3) := by decide +kernel
theorem dX11_init_29 : decode cX11_init 29 = .ok (.aload_n 0, 1) := by decide +kernel
theorem dX11_init_30 : decode cX11_init 30 = .ok (.new 24, 3) := by decide +kernel
theorem dX11_init_33 : decode cX11_init 33 = .ok (.dup, 1) := by decide +kernel
theorem dX11_init_34 : decode cX11_init 34 = .ok (.iconst 0, 1) := by decide +kernel
theorem dX11_init_35 : decode cX11_init 35 = .ok (.iconst 0, 1) := by decide +kernel
theorem dX11_init_36 : decode cX11_init 36 = .ok (.aconst_null, 1) := by decide +kernel
theorem dX11_init_37 : decode cX11_init 37 = .ok (.invokespecial 26, 3) := by decide +kernel
theorem dX11_init_40 : decode cX11_init 40 = .ok (.putfield 29, 3) := by decide +kernel
theorem dX11_init_43 : decode cX11_init 43 = .ok (.aload_n 0, 1) := by decide +kernel
theorem dX11_init_44 : decode cX11_init 44 = .ok (.new 33, 3) := by decide +kernel
theorem dX11_init_47 : decode cX11_init 47 = .ok (.dup, 1) := by decide +kernel
theorem dX11_init_48 : decode cX11_init 48 = .ok (.invokespecial 35, 3) := by decide +kernel
theorem dX11_init_51 : decode cX11_init 51 = .ok (.putfield 36, 3) := by decide +kernel
theorem dX11_init_54 : decode cX11_init 54 = .ok (.aload_n 0, 1) := by decide +kernel
theorem dX11_init_55 : decode cX11_init 55 = .ok (.new 33, 3) := by decide +kernel
theorem dX11_init_58 : decode cX11_init 58 = .ok (.dup, 1) := by decide +kernel
theorem dX11_init_59 : decode cX11_init 59 = .ok (.invokespecial 35, 3) := by decide +kernel
theorem dX11_init_62 : decode cX11_init 62 = .ok (.putfield 40, 3) := by decide +kernel
theorem dX11_init_65 : decode cX11_init 65 = .ok (.aload_n 0, 1) := by decide +kernel
theorem dX11_init_66 : decode cX11_init 66 = .ok (.bipush 10, 2) := by decide +kernel
theorem dX11_init_68 : decode cX11_init 68 = .ok (.anewarray 33, 3) := by decide +kernel
theorem dX11_init_71 : decode cX11_init 71 = .ok (.putfield 43, 3) := by decide +kernel
theorem dX11_init_74 : decode cX11_init 74 = .ok (.aload_n 0, 1) := by decide +kernel
theorem dX11_init_75 : decode cX11_init 75 = .ok (.iconst 0, 1) := by decide +kernel
theorem dX11_init_76 : decode cX11_init 76 = .ok (.putfield 47, 3) := by decide +kernel
theorem dX11_init_79 : decode cX11_init 79 = .ok (.aload_n 0, 1) := by decide +kernel
theorem dX11_init_80 : decode cX11_init 80 = .ok (.iconst 0, 1) := by decide +kernel
theorem dX11_init_81 : decode cX11_init 81 = .ok (.putfield 50, 3) := by decide +kernel
theorem dX11_init_84 : decode cX11_init 84 = .ok (.aload_n 0, 1) := by decide +kernel
theorem dX11_init_85 : decode cX11_init 85 = .ok (.iconst 2, 1) := by decide +kernel
theorem dX11_init_86 : decode cX11_init 86 = .ok (.anewarray 24, 3) := by decide +kernel
theorem dX11_init_89 : decode cX11_init 89 = .ok (.putfield 53, 3) := by decide +kernel
theorem dX11_init_92 : decode cX11_init 92 = .ok (.aload_n 0, 1) := by decide +kernel
theorem dX11_init_93 : decode cX11_init 93 = .ok (.iconst 2, 1) := by decide +kernel
theorem dX11_init_94 : decode cX11_init 94 = .ok (.anewarray 33, 3) := by decide +kernel
theorem dX11_init_97 : decode cX11_init 97 = .ok (.putfield 57, 3) := by decide +kernel
theorem dX11_init_100 : decode cX11_init 100 = .ok (.aload_n 0, 1) := by decide +kernel
theorem dX11_init_101 : decode cX11_init 101 = .ok (.iconst 4, 1) := by decide +kernel
theorem dX11_init_102 : decode cX11_init 102 = .ok (.anewarray 60, 3) := by decide +kernel
theorem dX11_init_105 : decode cX11_init 105 = .ok (.putfield 62, 3) := by decide +kernel
theorem dX11_init_108 : decode cX11_init 108 = .ok (.aload_n 0, 1) := by decide +kernel
theorem dX11_init_109 : decode cX11_init 109 = .ok (.iconst 5, 1) := by decide +kernel
theorem dX11_init_110 : decode cX11_init 110 = .ok (.anewarray 66, 3) := by decide +kernel
theorem dX11_init_113 : decode cX11_init 113 = .ok (.putfield 68, 3) := by decide +kernel
theorem dX11_init_116 : decode cX11_init 116 = .ok (.aload_n 0, 1) := by decide +kernel
theorem dX11_init_117 : decode cX11_init 117 = .ok (.new 66, 3) := by decide +kernel
theorem dX11_init_120 : decode cX11_init 120 = .ok (.dup, 1) := by decide +kernel
theorem dX11_init_121 : decode cX11_init 121 = .ok (.aload_n 0, 1) := by decide +kernel
theorem dX11_init_122 : decode cX11_init 122 = .ok (.getfield 29, 3) := by decide +kernel
theorem dX11_init_125 : decode cX11_init 125 = .ok (.invokespecial 72, 3) := by decide +kernel
theorem dX11_init_128 : decode cX11_init 128 = .ok (.putfield 75, 3) := by decide +kernel
theorem dX11_init_131 : decode cX11_init 131 = .ok (.aload_n 0, 1) := by decide +kernel
theorem dX11_init_132 : decode cX11_init 132 = .ok (.new 79, 3) := by decide +kernel
theorem dX11_init_135 : decode cX11_init 135 = .ok (.dup, 1) := by decide +kernel
theorem dX11_init_136 : decode cX11_init 136 = .ok (.invokespecial 81, 3) := by decide +kernel
theorem dX11_init_139 : decode cX11_init 139 = .ok (.putfield 82, 3) := by decide +kernel
theorem dX11_init_142 : decode cX11_init 142 = .ok (.aload_n 0, 1) := by decide +kernel
theorem dX11_init_143 : decode cX11_init 143 = .ok (.new 86, 3) := by decide +kernel
theorem dX11_init_146 : decode cX11_init 146 = .ok (.dup, 1) := by decide +kernel
theorem dX11_init_147 : decode cX11_init 147 = .ok (.invokespecial 88, 3) := by decide +kernel
theorem dX11_init_150 : decode cX11_init 150 = .ok (.putfield 89, 3) := by decide +kernel
theorem dX11_init_153 : decode cX11_init 153 = .ok (.aload_n 0, 1) := by decide +kernel
theorem dX11_init_154 : decode cX11_init 154 = .ok (.new 93, 3) := by decide +kernel
theorem dX11_init_157 : decode cX11_init 157 = .ok (.dup, 1) := by decide +kernel
theorem dX11_init_158 : decode cX11_init 158 = .ok (.invokespecial 95, 3) := by decide +kernel
theorem dX11_init_161 : decode cX11_init 161 = .ok (.putfield 96, 3) := by decide +kernel
theorem dX11_init_164 : decode cX11_init 164 = .ok (.aload_n 0, 1) := by decide +kernel
theorem dX11_init_165 : decode cX11_init 165 = .ok (.iconst 5, 1) := by decide +kernel
theorem dX11_init_166 : decode cX11_init 166 = .ok (.newarray .int, 2) := by decide +kernel
theorem dX11_init_168 : decode cX11_init 168 = .ok (.putfield 100, 3) := by decide +kernel
theorem dX11_init_171 : decode cX11_init 171 = .ok (.aload_n 0, 1) := by decide +kernel
theorem dX11_init_172 : decode cX11_init 172 = .ok (.iconst 5, 1) := by decide +kernel
theorem dX11_init_173 : decode cX11_init 173 = .ok (.newarray .int, 2) := by decide +kernel
theorem dX11_init_175 : decode cX11_init 175 = .ok (.putfield 104, 3) := by decide +kernel
theorem dX11_init_178 : decode cX11_init 178 = .ok (.aload_n 0, 1) := by decide +kernel
theorem dX11_init_179 : decode cX11_init 179 = .ok (.iconst (-1), 1) := by decide +kernel
theorem dX11_init_180 : decode cX11_init 180 = .ok (.putfield 107, 3) := by decide +kernel
theorem dX11_init_183 : decode cX11_init 183 = .ok (.iconst 0, 1) := by decide +kernel
theorem dX11_init_184 : decode cX11_init 184 = .ok (.istore_n 1, 1) := by decide +kernel
theorem dX11_init_185 : decode cX11_init 185 = .ok (.iload_n 1, 1) := by decide +kernel
theorem dX11_init_186 : decode cX11_init 186 = .ok (.bipush 10, 2) := by decide +kernel
theorem dX11_init_188 : decode cX11_init 188 = .ok (.if_icmp .ge 22, 3) := by decide +kernel
theorem dX11_init_191 : decode cX11_init 191 = .ok (.aload_n 0, 1) := by decide +kernel
theorem dX11_init_192 : decode cX11_init 192 = .ok (.getfield 43, 3) := by decide +kernel
theorem dX11_init_195 : decode cX11_init 195 = .ok (.iload_n 1, 1) := by decide +kernel
theorem dX11_init_196 : decode cX11_init 196 = .ok (.new 33, 3) := by decide +kernel
theorem dX11_init_199 : decode cX11_init 199 = .ok (.dup, 1) := by decide +kernel
theorem dX11_init_200 : decode cX11_init 200 = .ok (.invokespecial 35, 3) := by decide +kernel
theorem dX11_init_203 : decode cX11_init 203 = .ok (.aastore, 1) := by decide +kernel
theorem dX11_init_204 : decode cX11_init 204 = .ok (.iinc 1 1, 3) := by decide +kernel
theorem dX11_init_207 : decode cX11_init 207 = .ok (.goto (-22), 3) := by decide +kernel
theorem dX11_init_210 : decode cX11_init 210 = .ok (.iconst 0, 1) := by decide +kernel
theorem dX11_init_211 : decode cX11_init 211 = .ok (.istore_n 1, 1) := by decide +kernel
theorem dX11_init_212 : decode cX11_init 212 = .ok (.iload_n 1, 1) := by decide +kernel
theorem dX11_init_213 : decode cX11_init 213 = .ok (.iconst 2, 1) := by decide +kernel
theorem dX11_init_214 : decode cX11_init 214 = .ok (.if_icmp .ge 22, 3) := by decide +kernel
theorem dX11_init_217 : decode cX11_init 217 = .ok (.aload_n 0, 1) := by decide +kernel
theorem dX11_init_218 : decode cX11_init 218 = .ok (.getfield 57, 3) := by decide +kernel
theorem dX11_init_221 : decode cX11_init 221 = .ok (.iload_n 1, 1) := by decide +kernel
theorem dX11_init_222 : decode cX11_init 222 = .ok (.new 33, 3) := by decide +kernel
theorem dX11_init_225 : decode cX11_init 225 = .ok (.dup, 1) := by decide +kernel
theorem dX11_init_226 : decode cX11_init 226 = .ok (.invokespecial 35, 3) := by decide +kernel
theorem dX11_init_229 : decode cX11_init 229 = .ok (.aastore, 1) := by decide +kernel
theorem dX11_init_230 : decode cX11_init 230 = .ok (.iinc 1 1, 3) := by decide +kernel
theorem dX11_init_233 : decode cX11_init 233 = .ok (.goto (-21), 3) := by decide +kernel
theorem dX11_init_236 : decode cX11_init 236 = .ok (.iconst 0, 1) := by decide +kernel
theorem dX11_init_237 : decode cX11_init 237 = .ok (.istore_n 1, 1) := by decide +kernel
theorem dX11_init_238 : decode cX11_init 238 = .ok (.iload_n 1, 1) := by decide +kernel
theorem dX11_init_239 : decode cX11_init 239 = .ok (.iconst 4, 1) := by decide +kernel
theorem dX11_init_240 : decode cX11_init 240 = .ok (.if_icmp .ge 22, 3) := by decide +kernel
theorem dX11_init_243 : decode cX11_init 243 = .ok (.aload_n 0, 1) := by decide +kernel
theorem dX11_init_244 : decode cX11_init 244 = .ok (.getfield 62, 3) := by decide +kernel
theorem dX11_init_247 : decode cX11_init 247 = .ok (.iload_n 1, 1) := by decide +kernel
theorem dX11_init_248 : decode cX11_init 248 = .ok (.new 60, 3) := by decide +kernel
theorem dX11_init_251 : decode cX11_init 251 = .ok (.dup, 1) := by decide +kernel
theorem dX11_init_252 : decode cX11_init 252 = .ok (.invokespecial 110, 3) := by decide +kernel
theorem dX11_init_255 : decode cX11_init 255 = .ok (.aastore, 1) := by decide +kernel
theorem dX11_init_256 : decode cX11_init 256 = .ok (.iinc 1 1, 3) := by decide +kernel
theorem dX11_init_259 : decode cX11_init 259 = .ok (.goto (-21), 3) := by decide +kernel
theorem dX11_init_262 : decode cX11_init 262 = .ok (.iconst 0, 1) := by decide +kernel
theorem dX11_init_263 : decode cX11_init 263 = .ok (.istore_n 1, 1) := by decide +kernel
theorem dX11_init_264 : decode cX11_init 264 = .ok (.iload_n 1, 1) := by decide +kernel
theorem dX11_init_265 : decode cX11_init 265 = .ok (.iconst 5, 1) := by decide +kernel
theorem dX11_init_266 : decode cX11_init 266 = .ok (.if_icmp .ge 26, 3) := by decide +kernel
theorem dX11_init_269 : decode cX11_init 269 = .ok (.aload_n 0, 1) := by decide +kernel
theorem dX11_init_270 : decode cX11_init 270 = .ok (.getfield 68, 3) := by decide +kernel
theorem dX11_init_273 : decode cX11_init 273 = .ok (.iload_n 1, 1) := by decide +kernel
theorem dX11_init_274 : decode cX11_init 274 = .ok (.new 66, 3) := by decide +kernel
theorem dX11_init_277 : decode cX11_init 277 = .ok (.dup, 1) := by decide +kernel
theorem dX11_init_278 : decode cX11_init 278 = .ok (.aload_n 0, 1) := by decide +kernel
theorem dX11_init_279 : decode cX11_init 279 = .ok (.getfield 29, 3) := by decide +kernel
theorem dX11_init_282 : decode cX11_init 282 = .ok (.invokespecial 72, 3) := by decide +kernel
theorem dX11_init_285 : decode cX11_init 285 = .ok (.aastore, 1) := by decide +kernel
theorem dX11_init_286 : decode cX11_init 286 = .ok (.iinc 1 1, 3) := by decide +kernel
theorem dX11_init_289 : decode cX11_init 289 = .ok (.goto (-25), 3) := by decide +kernel
theorem dX11_init_292 : decode cX11_init 292 = .ok (.return_, 1) := by decide +kernel
theorem dX11_isGuide_0 : decode cX11_isGuide 0 = .ok (.iload_n 1, 1) := by decide +kernel
theorem dX11_isGuide_1 : decode cX11_isGuide 1 = .ok (.ifCond .lt 18, 3) := by decide +kernel
theorem dX11_isGuide_4 : decode cX11_isGuide 4 = .ok (.iload_n 1, 1) := by decide +kernel
theorem dX11_isGuide_5 : decode cX11_isGuide 5 = .ok (.aload_n 0, 1) := by decide +kernel
theorem dX11_isGuide_6 : decode cX11_isGuide 6 = .ok (.getfield 29, 3) := by decide +kernel
theorem dX11_isGuide_9 : decode cX11_isGuide 9 = .ok (.getfield 216, 3) := by decide +kernel
theorem dX11_isGuide_12 : decode cX11_isGuide 12 = .ok (.if_icmp .ge 7, 3) := by decide +kernel
theorem dX11_isGuide_19 : decode cX11_isGuide 19 = .ok (.iconst 0, 1) := by decide +kernel
theorem dX11_isGuide_20 : decode cX11_isGuide 20 = .ok (.ireturn, 1) := by decide +kernel
theorem dX11_isHold_0 : decode cX11_isHold 0 = .ok (.iload_n 1, 1) := by decide +kernel
theorem dX11_isHold_1 : decode cX11_isHold 1 = .ok (.ifCond .lt 18, 3) := by decide +kernel
theorem dX11_isHold_4 : decode cX11_isHold 4 = .ok (.iload_n 1, 1) := by decide +kernel
theorem dX11_isHold_5 : decode cX11_isHold 5 = .ok (.aload_n 0, 1) := by decide +kernel
theorem dX11_isHold_6 : decode cX11_isHold 6 = .ok (.getfield 29, 3) := by decide +kernel
theorem dX11_isHold_9 : decode cX11_isHold 9 = .ok (.getfield 213, 3) := by decide +kernel
theorem dX11_isHold_12 : decode cX11_isHold 12 = .ok (.if_icmp .ge 7, 3) := by decide +kernel
theorem dX11_isHold_19 : decode cX11_isHold 19 = .ok (.iconst 0, 1) := by decide +kernel
theorem dX11_isHold_20 : decode cX11_isHold 20 = .ok (.ireturn, 1) := by decide +kernel
theorem dX11_isImage_0 : decode cX11_isImage 0 = .ok (.iload_n 0, 1) := by decide +kernel
theorem dX11_isImage_1 : decode cX11_isImage 1 = .ok (.ifCond .lt 12, 3) := by decide +kernel
theorem dX11_isImage_4 : decode cX11_isImage 4 = .ok (.iload_n 0, 1) := by decide +kernel
theorem dX11_isImage_5 : decode cX11_isImage 5 = .ok (.iconst 2, 1) := by decide +kernel
theorem dX11_isImage_6 : decode cX11_isImage 6 = .ok (.if_icmp .ge 7, 3) := by decide +kernel
theorem dX11_isImage_9 : decode cX11_isImage 9 = .ok (.iconst 1, 1) := by decide +kernel
theorem dX11_isImage_10 : decode cX11_isImage 10 = .ok (.goto 4, 3) := by decide +kernel
theorem dX11_isImage_13 : decode cX11_isImage 13 = .ok (.iconst 0, 1) := by decide +kernel
theorem dX11_isImage_14 : decode cX11_isImage 14 = .ok (.ireturn, 1) := by decide +kernel
theorem dX11_isTray_0 : decode cX11_isTray 0 = .ok (.iload_n 0, 1) := by decide +kernel
theorem dX11_isTray_1 : decode cX11_isTray 1 = .ok (.ifCond .lt 12, 3) := by decide +kernel
theorem dX11_isTray_4 : decode cX11_isTray 4 = .ok (.iload_n 0, 1) := by decide +kernel
theorem dX11_isTray_5 : decode cX11_isTray 5 = .ok (.iconst 4, 1) := by decide +kernel
theorem dX11_isTray_6 : decode cX11_isTray 6 = .ok (.if_icmp .ge 7, 3) := by decide +kernel
theorem dX11_isTray_9 : decode cX11_isTray 9 = .ok (.iconst 1, 1) := by decide +kernel
theorem dX11_isTray_10 : decode cX11_isTray 10 = .ok (.goto 4, 3) := by decide +kernel
theorem dX11_isTray_13 : decode cX11_isTray 13 = .ok (.iconst 0, 1) := by decide +kernel
theorem dX11_isTray_14 : decode cX11_isTray 14 = .ok (.ireturn, 1) := by decide +kernel
theorem dX11_judge_0 : decode cX11_judge 0 = .ok (.iload_n 1, 1) := by decide +kernel
theorem dX11_judge_1 : decode cX11_judge 1 = .ok (.invokestatic 229, 3) := by decide +kernel
theorem dX11_judge_4 : decode cX11_judge 4 = .ok (.ifCond .eq 12, 3) := by decide +kernel
theorem dX11_judge_7 : decode cX11_judge 7 = .ok (.iload_n 2, 1) := by decide +kernel
theorem dX11_judge_8 : decode cX11_judge 8 = .ok (.ifCond .lt 8, 3) := by decide +kernel
theorem dX11_judge_11 : decode cX11_judge 11 = .ok (.iload_n 2, 1) := by decide +kernel
theorem dX11_judge_12 : decode cX11_judge 12 = .ok (.iconst 2, 1) := by decide +kernel
theorem dX11_judge_13 : decode cX11_judge 13 = .ok (.if_icmp .le 6, 3) := by decide +kernel
theorem dX11_judge_16 : decode cX11_judge 16 = .ok (.bipush (-2), 2) := by decide +kernel
theorem dX11_judge_18 : decode cX11_judge 18 = .ok (.ireturn, 1) := by decide +kernel
theorem dX11_judge_19 : decode cX11_judge 19 = .ok (.aload_n 0, 1) := by decide +kernel
theorem dX11_judge_20 : decode cX11_judge 20 = .ok (.getfield 62, 3) := by decide +kernel
theorem dX11_judge_23 : decode cX11_judge 23 = .ok (.iload_n 1, 1) := by decide +kernel
theorem dX11_judge_24 : decode cX11_judge 24 = .ok (.aaload, 1) := by decide +kernel
theorem dX11_judge_25 : decode cX11_judge 25 = .ok (.astore_n 3, 1) := by decide +kernel
theorem dX11_judge_26 : decode cX11_judge 26 = .ok (.aload_n 3, 1) := by decide +kernel
theorem dX11_judge_27 : decode cX11_judge 27 = .ok (.invokevirtual 232, 3) := by decide +kernel
theorem dX11_judge_30 : decode cX11_judge 30 = .ok (.ifCond .eq 6, 3) := by decide +kernel
theorem dX11_judge_33 : decode cX11_judge 33 = .ok (.bipush (-6), 2) := by decide +kernel
theorem dX11_judge_35 : decode cX11_judge 35 = .ok (.ireturn, 1) := by decide +kernel
theorem dX11_leastLeg_0 : decode cX11_leastLeg 0 = .ok (.aload_n 0, 1) := by decide +kernel
theorem dX11_leastLeg_1 : decode cX11_leastLeg 1 = .ok (.iload_n 1, 1) := by decide +kernel
theorem dX11_leastLeg_2 : decode cX11_leastLeg 2 = .ok (.invokevirtual 186, 3) := by decide +kernel
theorem dX11_leastLeg_5 : decode cX11_leastLeg 5 = .ok (.ifCond .ne 6, 3) := by decide +kernel
theorem dX11_leastLeg_8 : decode cX11_leastLeg 8 = .ok (.bipush (-2), 2) := by decide +kernel
theorem dX11_leastLeg_10 : decode cX11_leastLeg 10 = .ok (.ireturn, 1) := by decide +kernel
theorem dX11_leaves_0 : decode cX11_leaves 0 = .ok (.aload_n 0, 1) := by decide +kernel
theorem dX11_leaves_1 : decode cX11_leaves 1 = .ok (.iload_n 1, 1) := by decide +kernel
theorem dX11_leaves_2 : decode cX11_leaves 2 = .ok (.invokevirtual 186, 3) := by decide +kernel
theorem dX11_leaves_5 : decode cX11_leaves 5 = .ok (.ifCond .eq 11, 3) := by decide +kernel
theorem dX11_leaves_16 : decode cX11_leaves 16 = .ok (.bipush (-2), 2) := by decide +kernel
theorem dX11_leaves_18 : decode cX11_leaves 18 = .ok (.ireturn, 1) := by decide +kernel
theorem dX11_lists_0 : decode cX11_lists 0 = .ok (.iload_n 1, 1) := by decide +kernel
theorem dX11_lists_1 : decode cX11_lists 1 = .ok (.invokestatic 229, 3) := by decide +kernel
theorem dX11_lists_4 : decode cX11_lists 4 = .ok (.ifCond .eq 11, 3) := by decide +kernel
theorem dX11_lists_7 : decode cX11_lists 7 = .ok (.aload_n 0, 1) := by decide +kernel
theorem dX11_lists_8 : decode cX11_lists 8 = .ok (.iload_n 2, 1) := by decide +kernel
theorem dX11_lists_9 : decode cX11_lists 9 = .ok (.invokevirtual 186, 3) := by decide +kernel
theorem dX11_lists_12 : decode cX11_lists 12 = .ok (.ifCond .ne 6, 3) := by decide +kernel
theorem dX11_lists_15 : decode cX11_lists 15 = .ok (.bipush (-2), 2) := by decide +kernel
theorem dX11_lists_17 : decode cX11_lists 17 = .ok (.ireturn, 1) := by decide +kernel
theorem dX11_needed_0 : decode cX11_needed 0 = .ok (.aload_n 0, 1) := by decide +kernel
theorem dX11_needed_1 : decode cX11_needed 1 = .ok (.iload_n 1, 1) := by decide +kernel
theorem dX11_needed_2 : decode cX11_needed 2 = .ok (.invokevirtual 186, 3) := by decide +kernel
theorem dX11_needed_5 : decode cX11_needed 5 = .ok (.ifCond .ne 6, 3) := by decide +kernel
theorem dX11_needed_8 : decode cX11_needed 8 = .ok (.bipush (-2), 2) := by decide +kernel
theorem dX11_needed_10 : decode cX11_needed 10 = .ok (.ireturn, 1) := by decide +kernel
theorem dX11_needers_0 : decode cX11_needers 0 = .ok (.aload_n 0, 1) := by decide +kernel
theorem dX11_needers_1 : decode cX11_needers 1 = .ok (.iload_n 1, 1) := by decide +kernel
theorem dX11_needers_2 : decode cX11_needers 2 = .ok (.invokevirtual 145, 3) := by decide +kernel
theorem dX11_needers_5 : decode cX11_needers 5 = .ok (.ifCond .ne 6, 3) := by decide +kernel
theorem dX11_needers_8 : decode cX11_needers 8 = .ok (.bipush (-2), 2) := by decide +kernel
theorem dX11_needers_10 : decode cX11_needers 10 = .ok (.ireturn, 1) := by decide +kernel
theorem dX11_newYear_0 : decode cX11_newYear 0 = .ok (.aload_n 0, 1) := by decide +kernel
theorem dX11_newYear_1 : decode cX11_newYear 1 = .ok (.getfield 40, 3) := by decide +kernel
theorem dX11_newYear_4 : decode cX11_newYear 4 = .ok (.aload_n 0, 1) := by decide +kernel
theorem dX11_newYear_5 : decode cX11_newYear 5 = .ok (.getfield 36, 3) := by decide +kernel
theorem dX11_newYear_8 : decode cX11_newYear 8 = .ok (.invokevirtual 135, 3) := by decide +kernel
theorem dX11_newYear_11 : decode cX11_newYear 11 = .ok (.aload_n 0, 1) := by decide +kernel
theorem dX11_newYear_12 : decode cX11_newYear 12 = .ok (.getfield 36, 3) := by decide +kernel
theorem dX11_newYear_15 : decode cX11_newYear 15 = .ok (.getfield 222, 3) := by decide +kernel
theorem dX11_newYear_18 : decode cX11_newYear 18 = .ok (.invokestatic 243, 3) := by decide +kernel
theorem dX11_newYear_21 : decode cX11_newYear 21 = .ok (.istore_n 1, 1) := by decide +kernel
theorem dX11_newYear_22 : decode cX11_newYear 22 = .ok (.aload_n 0, 1) := by decide +kernel
theorem dX11_newYear_23 : decode cX11_newYear 23 = .ok (.getfield 36, 3) := by decide +kernel
theorem dX11_newYear_26 : decode cX11_newYear 26 = .ok (.iconst 0, 1) := by decide +kernel
theorem dX11_newYear_27 : decode cX11_newYear 27 = .ok (.putfield 222, 3) := by decide +kernel
theorem dX11_newYear_30 : decode cX11_newYear 30 = .ok (.aload_n 0, 1) := by decide +kernel
theorem dX11_newYear_31 : decode cX11_newYear 31 = .ok (.getfield 36, 3) := by decide +kernel
theorem dX11_newYear_34 : decode cX11_newYear 34 = .ok (.iconst 0, 1) := by decide +kernel
theorem dX11_newYear_35 : decode cX11_newYear 35 = .ok (.putfield 161, 3) := by decide +kernel
theorem dX11_newYear_38 : decode cX11_newYear 38 = .ok (.aload_n 0, 1) := by decide +kernel
theorem dX11_newYear_39 : decode cX11_newYear 39 = .ok (.getfield 36, 3) := by decide +kernel
theorem dX11_newYear_42 : decode cX11_newYear 42 = .ok (.dup, 1) := by decide +kernel
theorem dX11_newYear_43 : decode cX11_newYear 43 = .ok (.getfield 284, 3) := by decide +kernel
theorem dX11_newYear_46 : decode cX11_newYear 46 = .ok (.iconst 1, 1) := by decide +kernel
theorem dX11_newYear_47 : decode cX11_newYear 47 = .ok (.iadd, 1) := by decide +kernel
theorem dX11_newYear_48 : decode cX11_newYear 48 = .ok (.putfield 284, 3) := by decide +kernel
theorem dX11_newYear_51 : decode cX11_newYear 51 = .ok (.aload_n 0, 1) := by decide +kernel
theorem dX11_newYear_52 : decode cX11_newYear 52 = .ok (.invokevirtual 256, 3) := by decide +kernel
theorem dX11_newYear_55 : decode cX11_newYear 55 = .ok (.iload_n 1, 1) := by decide +kernel
theorem dX11_newYear_56 : decode cX11_newYear 56 = .ok (.ireturn, 1) := by decide +kernel
theorem dX11_numbers_0 : decode cX11_numbers 0 = .ok (.iload_n 1, 1) := by decide +kernel
theorem dX11_numbers_1 : decode cX11_numbers 1 = .ok (.invokestatic 229, 3) := by decide +kernel
theorem dX11_numbers_4 : decode cX11_numbers 4 = .ok (.ifCond .eq 12, 3) := by decide +kernel
theorem dX11_numbers_7 : decode cX11_numbers 7 = .ok (.iload_n 2, 1) := by decide +kernel
theorem dX11_numbers_8 : decode cX11_numbers 8 = .ok (.ifCond .lt 8, 3) := by decide +kernel
theorem dX11_numbers_11 : decode cX11_numbers 11 = .ok (.iload_n 2, 1) := by decide +kernel
theorem dX11_numbers_12 : decode cX11_numbers 12 = .ok (.iconst 3, 1) := by decide +kernel
theorem dX11_numbers_13 : decode cX11_numbers 13 = .ok (.if_icmp .le 6, 3) := by decide +kernel
theorem dX11_numbers_16 : decode cX11_numbers 16 = .ok (.bipush (-2), 2) := by decide +kernel
theorem dX11_numbers_18 : decode cX11_numbers 18 = .ok (.ireturn, 1) := by decide +kernel
theorem dX11_numbers_19 : decode cX11_numbers 19 = .ok (.iload_n 3, 1) := by decide +kernel
theorem dX11_numbers_20 : decode cX11_numbers 20 = .ok (.ifCond .lt 9, 3) := by decide +kernel
theorem dX11_numbers_23 : decode cX11_numbers 23 = .ok (.iload_n 3, 1) := by decide +kernel
theorem dX11_numbers_24 : decode cX11_numbers 24 = .ok (.bipush 40, 2) := by decide +kernel
theorem dX11_numbers_26 : decode cX11_numbers 26 = .ok (.if_icmp .le 6, 3) := by decide +kernel
theorem dX11_numbers_29 : decode cX11_numbers 29 = .ok (.bipush (-3), 2) := by decide +kernel
theorem dX11_numbers_31 : decode cX11_numbers 31 = .ok (.ireturn, 1) := by decide +kernel
theorem dX11_numbers_32 : decode cX11_numbers 32 = .ok (.aload_n 0, 1) := by decide +kernel
theorem dX11_numbers_33 : decode cX11_numbers 33 = .ok (.getfield 62, 3) := by decide +kernel
theorem dX11_numbers_36 : decode cX11_numbers 36 = .ok (.iload_n 1, 1) := by decide +kernel
theorem dX11_numbers_37 : decode cX11_numbers 37 = .ok (.aaload, 1) := by decide +kernel
theorem dX11_numbers_38 : decode cX11_numbers 38 = .ok (.iload_n 2, 1) := by decide +kernel
theorem dX11_numbers_39 : decode cX11_numbers 39 = .ok (.iload_n 3, 1) := by decide +kernel
theorem dX11_numbers_40 : decode cX11_numbers 40 = .ok (.invokevirtual 362, 3) := by decide +kernel
theorem dX11_numbers_43 : decode cX11_numbers 43 = .ok (.iconst 0, 1) := by decide +kernel
theorem dX11_numbers_44 : decode cX11_numbers 44 = .ok (.ireturn, 1) := by decide +kernel
theorem dX11_ofRow_0 : decode cX11_ofRow 0 = .ok (.iload_n 1, 1) := by decide +kernel
theorem dX11_ofRow_1 : decode cX11_ofRow 1 = .ok (.ifCond .ne 5, 3) := by decide +kernel
theorem dX11_ofRow_4 : decode cX11_ofRow 4 = .ok (.iconst (-1), 1) := by decide +kernel
theorem dX11_ofRow_5 : decode cX11_ofRow 5 = .ok (.ireturn, 1) := by decide +kernel
theorem dX11_openNow_0 : decode cX11_openNow 0 = .ok (.aload_n 0, 1) := by decide +kernel
theorem dX11_openNow_1 : decode cX11_openNow 1 = .ok (.aload_n 0, 1) := by decide +kernel
theorem dX11_openNow_2 : decode cX11_openNow 2 = .ok (.getfield 36, 3) := by decide +kernel
theorem dX11_openNow_5 : decode cX11_openNow 5 = .ok (.getfield 161, 3) := by decide +kernel
theorem dX11_openNow_8 : decode cX11_openNow 8 = .ok (.invokevirtual 168, 3) := by decide +kernel
theorem dX11_openNow_11 : decode cX11_openNow 11 = .ok (.ireturn, 1) := by decide +kernel
theorem dX11_openOn_0 : decode cX11_openOn 0 = .ok (.aload_n 0, 1) := by decide +kernel
theorem dX11_openOn_1 : decode cX11_openOn 1 = .ok (.iload_n 1, 1) := by decide +kernel
theorem dX11_openOn_2 : decode cX11_openOn 2 = .ok (.invokevirtual 164, 3) := by decide +kernel
theorem dX11_openOn_5 : decode cX11_openOn 5 = .ok (.aload_n 0, 1) := by decide +kernel
theorem dX11_openOn_6 : decode cX11_openOn 6 = .ok (.getfield 36, 3) := by decide +kernel
theorem dX11_openOn_9 : decode cX11_openOn 9 = .ok (.getfield 222, 3) := by decide +kernel
theorem dX11_openOn_12 : decode cX11_openOn 12 = .ok (.iconst (-1), 1) := by decide +kernel
theorem dX11_openOn_13 : decode cX11_openOn 13 = .ok (.ixor, 1) := by decide +kernel
theorem dX11_openOn_14 : decode cX11_openOn 14 = .ok (.iand, 1) := by decide +kernel
theorem dX11_openOn_15 : decode cX11_openOn 15 = .ok (.ireturn, 1) := by decide +kernel
theorem dX11_opens_0 : decode cX11_opens 0 = .ok (.aload_n 0, 1) := by decide +kernel
theorem dX11_opens_1 : decode cX11_opens 1 = .ok (.iload_n 1, 1) := by decide +kernel
theorem dX11_opens_2 : decode cX11_opens 2 = .ok (.invokevirtual 186, 3) := by decide +kernel
theorem dX11_opens_5 : decode cX11_opens 5 = .ok (.ifCond .ne 6, 3) := by decide +kernel
theorem dX11_opens_8 : decode cX11_opens 8 = .ok (.bipush (-2), 2) := by decide +kernel
theorem dX11_opens_10 : decode cX11_opens 10 = .ok (.ireturn, 1) := by decide +kernel
theorem dX11_order_0 : decode cX11_order 0 = .ok (.aload_n 0, 1) := by decide +kernel
theorem dX11_order_1 : decode cX11_order 1 = .ok (.iload_n 1, 1) := by decide +kernel
theorem dX11_order_2 : decode cX11_order 2 = .ok (.invokevirtual 186, 3) := by decide +kernel
theorem dX11_order_5 : decode cX11_order 5 = .ok (.ifCond .eq 12, 3) := by decide +kernel
theorem dX11_order_17 : decode cX11_order 17 = .ok (.bipush (-2), 2) := by decide +kernel
theorem dX11_order_19 : decode cX11_order 19 = .ok (.ireturn, 1) := by decide +kernel
theorem dX11_parties_0 : decode cX11_parties 0 = .ok (.aload_n 0, 1) := by decide +kernel
theorem dX11_parties_1 : decode cX11_parties 1 = .ok (.iload_n 1, 1) := by decide +kernel
theorem dX11_parties_2 : decode cX11_parties 2 = .ok (.invokevirtual 186, 3) := by decide +kernel
theorem dX11_parties_5 : decode cX11_parties 5 = .ok (.ifCond .eq 29, 3) := by decide +kernel
theorem dX11_parties_34 : decode cX11_parties 34 = .ok (.bipush (-2), 2) := by decide +kernel
theorem dX11_parties_36 : decode cX11_parties 36 = .ok (.ireturn, 1) := by decide +kernel
theorem dX11_putOnTape_0 : decode cX11_putOnTape 0 = .ok (.bipush 24, 2) := by decide +kernel
theorem dX11_putOnTape_2 : decode cX11_putOnTape 2 = .ok (.istore_n 2, 1) := by decide +kernel
theorem dX11_putOnTape_3 : decode cX11_putOnTape 3 = .ok (.iload_n 2, 1) := by decide +kernel
theorem dX11_putOnTape_4 : decode cX11_putOnTape 4 = .ok (.ifCond .lt 42, 3) := by decide +kernel
theorem dX11_putOnTape_7 : decode cX11_putOnTape 7 = .ok (.aload_n 0, 1) := by decide +kernel
theorem dX11_putOnTape_8 : decode cX11_putOnTape 8 = .ok (.getfield 13, 3) := by decide +kernel
theorem dX11_putOnTape_11 : decode cX11_putOnTape 11 = .ok (.sipush 900, 3) := by decide +kernel
theorem dX11_putOnTape_14 : decode cX11_putOnTape 14 = .ok (.if_icmp .ge 32, 3) := by decide +kernel
theorem dX11_putOnTape_17 : decode cX11_putOnTape 17 = .ok (.aload_n 0, 1) := by decide +kernel
theorem dX11_putOnTape_18 : decode cX11_putOnTape 18 = .ok (.getfield 9, 3) := by decide +kernel
theorem dX11_putOnTape_21 : decode cX11_putOnTape 21 = .ok (.aload_n 0, 1) := by decide +kernel
theorem dX11_putOnTape_22 : decode cX11_putOnTape 22 = .ok (.getfield 13, 3) := by decide +kernel
theorem dX11_putOnTape_25 : decode cX11_putOnTape 25 = .ok (.iload_n 1, 1) := by decide +kernel
theorem dX11_putOnTape_26 : decode cX11_putOnTape 26 = .ok (.iload_n 2, 1) := by decide +kernel
theorem dX11_putOnTape_27 : decode cX11_putOnTape 27 = .ok (.ishr, 1) := by decide +kernel
theorem dX11_putOnTape_28 : decode cX11_putOnTape 28 = .ok (.i2b, 1) := by decide +kernel
theorem dX11_putOnTape_29 : decode cX11_putOnTape 29 = .ok (.bastore, 1) := by decide +kernel
theorem dX11_putOnTape_30 : decode cX11_putOnTape 30 = .ok (.aload_n 0, 1) := by decide +kernel
theorem dX11_putOnTape_31 : decode cX11_putOnTape 31 = .ok (.dup, 1) := by decide +kernel
theorem dX11_putOnTape_32 : decode cX11_putOnTape 32 = .ok (.getfield 13, 3) := by decide +kernel
theorem dX11_putOnTape_35 : decode cX11_putOnTape 35 = .ok (.iconst 1, 1) := by decide +kernel
theorem dX11_putOnTape_36 : decode cX11_putOnTape 36 = .ok (.iadd, 1) := by decide +kernel
theorem dX11_putOnTape_37 : decode cX11_putOnTape 37 = .ok (.putfield 13, 3) := by decide +kernel
theorem dX11_putOnTape_40 : decode cX11_putOnTape 40 = .ok (.iinc 2 (-8), 3) := by decide +kernel
theorem dX11_putOnTape_43 : decode cX11_putOnTape 43 = .ok (.goto (-40), 3) := by decide +kernel
theorem dX11_putOnTape_46 : decode cX11_putOnTape 46 = .ok (.return_, 1) := by decide +kernel
theorem dX11_rain_0 : decode cX11_rain 0 = .ok (.iload_n 1, 1) := by decide +kernel
theorem dX11_rain_1 : decode cX11_rain 1 = .ok (.iconst 1, 1) := by decide +kernel
theorem dX11_rain_2 : decode cX11_rain 2 = .ok (.if_icmp .lt 9, 3) := by decide +kernel
theorem dX11_rain_5 : decode cX11_rain 5 = .ok (.iload_n 1, 1) := by decide +kernel
theorem dX11_rain_6 : decode cX11_rain 6 = .ok (.bipush 14, 2) := by decide +kernel
