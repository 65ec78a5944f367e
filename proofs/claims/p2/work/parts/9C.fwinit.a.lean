theorem dX11_init_0 : decode cX11_init 0 = .ok (.aload_n 0, 1) := by decide +kernel
theorem dX11_init_1 : decode cX11_init 1 = .ok (.invokespecial 1, 3) := by decide +kernel
theorem dX11_init_4 : decode cX11_init 4 = .ok (.aload_n 0, 1) := by decide +kernel
theorem dX11_init_5 : decode cX11_init 5 = .ok (.sipush 900, 3) := by decide +kernel
theorem dX11_init_8 : decode cX11_init 8 = .ok (.newarray .byte, 2) := by decide +kernel
theorem dX11_init_10 : decode cX11_init 10 = .ok (.putfield 9, 3) := by decide +kernel
theorem dX11_init_13 : decode cX11_init 13 = .ok (.aload_n 0, 1) := by decide +kernel
theorem dX11_init_14 : decode cX11_init 14 = .ok (.iconst 0, 1) := by decide +kernel
theorem dX11_init_15 : decode cX11_init 15 = .ok (.putfield 13, 3) := by decide +kernel
theorem dX11_init_18 : decode cX11_init 18 = .ok (.aload_n 0, 1) := by decide +kernel
theorem dX11_init_19 : decode cX11_init 19 = .ok (.new 17, 3) := by decide +kernel
theorem dX11_init_22 : decode cX11_init 22 = .ok (.dup, 1) := by decide +kernel
theorem dX11_init_23 : decode cX11_init 23 = .ok (.invokespecial 19, 3) := by decide +kernel
theorem dX11_init_26 : decode cX11_init 26 = .ok (.putfield 20, 3) := by decide +kernel
theorem dX11_init_29 : decode cX11_init 29 = .ok (.aload_n 0, 1) := by decide +kernel
theorem dX11_init_30 : decode cX11_init 30 = .ok (.new 24, 3) := by decide +kernel
theorem dX11_init_33 : decode cX11_init 33 = .ok (.dup, 1) := by decide +kernel
theorem dX11_init_34 : decode cX11_init 34 = .ok (.iconst 0, 1) := by decide +kernel
theorem dX11_init_35 : decode cX11_init 35 = .ok (.iconst 0, 1) := by decide +kernel
theorem dX11_init_36 : decode cX11_init 36 = .ok (.aconst_null, 1) := by decide +kernel
theorem dX11_init_37 : decode cX11_init 37 = .ok (.invokespecial 26, 3) := by decide +kernel
theorem dX11_init_40 : decode cX11_init 40 = .ok (.putfield 29, 3) := by decide +kernel
theorem dX11_init_43 : decode cX11_init 43 = .ok (.aload_n 0, 1) := by decide +kernel
theorem dX11_init_44 : decode cX11_init 44 = .ok (.new 33, 3) := by decide +kernel
theorem dX11_init_47 : decode cX11_init 47 = .ok (.dup, 1) := by decide +kernel
theorem dX11_init_48 : decode cX11_init 48 = .ok (.invokespecial 35, 3) := by decide +kernel
theorem dX11_init_51 : decode cX11_init 51 = .ok (.putfield 36, 3) := by decide +kernel
theorem dX11_init_54 : decode cX11_init 54 = .ok (.aload_n 0, 1) := by decide +kernel
theorem dX11_init_55 : decode cX11_init 55 = .ok (.new 33, 3) := by decide +kernel
theorem dX11_init_58 : decode cX11_init 58 = .ok (.dup, 1) := by decide +kernel
theorem dX11_init_59 : decode cX11_init 59 = .ok (.invokespecial 35, 3) := by decide +kernel
theorem dX11_init_62 : decode cX11_init 62 = .ok (.putfield 40, 3) := by decide +kernel
theorem dX11_init_65 : decode cX11_init 65 = .ok (.aload_n 0, 1) := by decide +kernel
theorem dX11_init_66 : decode cX11_init 66 = .ok (.bipush 10, 2) := by decide +kernel
theorem dX11_init_68 : decode cX11_init 68 = .ok (.anewarray 33, 3) := by decide +kernel
theorem dX11_init_71 : decode cX11_init 71 = .ok (.putfield 43, 3) := by decide +kernel
theorem dX11_init_74 : decode cX11_init 74 = .ok (.aload_n 0, 1) := by decide +kernel
theorem dX11_init_75 : decode cX11_init 75 = .ok (.iconst 0, 1) := by decide +kernel
theorem dX11_init_76 : decode cX11_init 76 = .ok (.putfield 47, 3) := by decide +kernel
theorem dX11_init_79 : decode cX11_init 79 = .ok (.aload_n 0, 1) := by decide +kernel
theorem dX11_init_80 : decode cX11_init 80 = .ok (.iconst 0, 1) := by decide +kernel
theorem dX11_init_81 : decode cX11_init 81 = .ok (.putfield 50, 3) := by decide +kernel
theorem dX11_init_84 : decode cX11_init 84 = .ok (.aload_n 0, 1) := by decide +kernel
theorem dX11_init_85 : decode cX11_init 85 = .ok (.iconst 2, 1) := by decide +kernel
theorem dX11_init_86 : decode cX11_init 86 = .ok (.anewarray 24, 3) := by decide +kernel
theorem dX11_init_89 : decode cX11_init 89 = .ok (.putfield 53, 3) := by decide +kernel
theorem dX11_init_92 : decode cX11_init 92 = .ok (.aload_n 0, 1) := by decide +kernel
theorem dX11_init_93 : decode cX11_init 93 = .ok (.iconst 2, 1) := by decide +kernel
theorem dX11_init_94 : decode cX11_init 94 = .ok (.anewarray 33, 3) := by decide +kernel
theorem dX11_init_97 : decode cX11_init 97 = .ok (.putfield 57, 3) := by decide +kernel
theorem dX11_init_100 : decode cX11_init 100 = .ok (.aload_n 0, 1) := by decide +kernel
theorem dX11_init_101 : decode cX11_init 101 = .ok (.iconst 4, 1) := by decide +kernel
theorem dX11_init_102 : decode cX11_init 102 = .ok (.anewarray 60, 3) := by decide +kernel
theorem dX11_init_105 : decode cX11_init 105 = .ok (.putfield 62, 3) := by decide +kernel
theorem dX11_init_108 : decode cX11_init 108 = .ok (.aload_n 0, 1) := by decide +kernel
theorem dX11_init_109 : decode cX11_init 109 = .ok (.iconst 5, 1) := by decide +kernel
theorem dX11_init_110 : decode cX11_init 110 = .ok (.anewarray 66, 3) := by decide +kernel
theorem dX11_init_113 : decode cX11_init 113 = .ok (.putfield 68, 3) := by decide +kernel
theorem dX11_init_116 : decode cX11_init 116 = .ok (.aload_n 0, 1) := by decide +kernel
theorem dX11_init_117 : decode cX11_init 117 = .ok (.new 66, 3) := by decide +kernel
theorem dX11_init_120 : decode cX11_init 120 = .ok (.dup, 1) := by decide +kernel
theorem dX11_init_121 : decode cX11_init 121 = .ok (.aload_n 0, 1) := by decide +kernel
theorem dX11_init_122 : decode cX11_init 122 = .ok (.getfield 29, 3) := by decide +kernel
theorem dX11_init_125 : decode cX11_init 125 = .ok (.invokespecial 72, 3) := by decide +kernel
theorem dX11_init_128 : decode cX11_init 128 = .ok (.putfield 75, 3) := by decide +kernel
theorem dX11_init_131 : decode cX11_init 131 = .ok (.aload_n 0, 1) := by decide +kernel
theorem dX11_init_132 : decode cX11_init 132 = .ok (.new 79, 3) := by decide +kernel
theorem dX11_init_135 : decode cX11_init 135 = .ok (.dup, 1) := by decide +kernel
theorem dX11_init_136 : decode cX11_init 136 = .ok (.invokespecial 81, 3) := by decide +kernel
theorem dX11_init_139 : decode cX11_init 139 = .ok (.putfield 82, 3) := by decide +kernel
theorem dX11_init_142 : decode cX11_init 142 = .ok (.aload_n 0, 1) := by decide +kernel
theorem dX11_init_143 : decode cX11_init 143 = .ok (.new 86, 3) := by decide +kernel
theorem dX11_init_146 : decode cX11_init 146 = .ok (.dup, 1) := by decide +kernel
theorem dX11_init_147 : decode cX11_init 147 = .ok (.invokespecial 88, 3) := by decide +kernel
theorem dX11_init_150 : decode cX11_init 150 = .ok (.putfield 89, 3) := by decide +kernel
theorem dX11_init_153 : decode cX11_init 153 = .ok (.aload_n 0, 1) := by decide +kernel
theorem dX11_init_154 : decode cX11_init 154 = .ok (.new 93, 3) := by decide +kernel
theorem dX11_init_157 : decode cX11_init 157 = .ok (.dup, 1) := by decide +kernel
theorem dX11_init_158 : decode cX11_init 158 = .ok (.invokespecial 95, 3) := by decide +kernel
theorem dX11_init_161 : decode cX11_init 161 = .ok (.putfield 96, 3) := by decide +kernel
theorem dX11_init_164 : decode cX11_init 164 = .ok (.aload_n 0, 1) := by decide +kernel
theorem dX11_init_165 : decode cX11_init 165 = .ok (.iconst 5, 1) := by decide +kernel
theorem dX11_init_166 : decode cX11_init 166 = .ok (.newarray .int, 2) := by decide +kernel
theorem dX11_init_168 : decode cX11_init 168 = .ok (.putfield 100, 3) := by decide +kernel
theorem dX11_init_171 : decode cX11_init 171 = .ok (.aload_n 0, 1) := by decide +kernel
theorem dX11_init_172 : decode cX11_init 172 = .ok (.iconst 5, 1) := by decide +kernel
theorem dX11_init_173 : decode cX11_init 173 = .ok (.newarray .int, 2) := by decide +kernel
theorem dX11_init_175 : decode cX11_init 175 = .ok (.putfield 104, 3) := by decide +kernel
theorem dX11_init_178 : decode cX11_init 178 = .ok (.aload_n 0, 1) := by decide +kernel
theorem dX11_init_179 : decode cX11_init 179 = .ok (.iconst (-1), 1) := by decide +kernel
theorem dX11_init_180 : decode cX11_init 180 = .ok (.putfield 107, 3) := by decide +kernel
theorem dX11_init_183 : decode cX11_init 183 = .ok (.iconst 0, 1) := by decide +kernel
theorem dX11_init_184 : decode cX11_init 184 = .ok (.istore_n 1, 1) := by decide +kernel
theorem dX11_init_185 : decode cX11_init 185 = .ok (.iload_n 1, 1) := by decide +kernel
theorem dX11_init_186 : decode cX11_init 186 = .ok (.bipush 10, 2) := by decide +kernel
theorem dX11_init_188 : decode cX11_init 188 = .ok (.if_icmp .ge 22, 3) := by decide +kernel
theorem dX11_init_191 : decode cX11_init 191 = .ok (.aload_n 0, 1) := by decide +kernel
theorem dX11_init_192 : decode cX11_init 192 = .ok (.getfield 43, 3) := by decide +kernel
theorem dX11_init_195 : decode cX11_init 195 = .ok (.iload_n 1, 1) := by decide +kernel
theorem dX11_init_196 : decode cX11_init 196 = .ok (.new 33, 3) := by decide +kernel
theorem dX11_init_199 : decode cX11_init 199 = .ok (.dup, 1) := by decide +kernel
theorem dX11_init_200 : decode cX11_init 200 = .ok (.invokespecial 35, 3) := by decide +kernel
theorem dX11_init_203 : decode cX11_init 203 = .ok (.aastore, 1) := by decide +kernel
theorem dX11_init_204 : decode cX11_init 204 = .ok (.iinc 1 1, 3) := by decide +kernel
theorem dX11_init_207 : decode cX11_init 207 = .ok (.goto (-22), 3) := by decide +kernel
theorem dX11_init_210 : decode cX11_init 210 = .ok (.iconst 0, 1) := by decide +kernel
theorem dX11_init_211 : decode cX11_init 211 = .ok (.istore_n 1, 1) := by decide +kernel
theorem dX11_init_212 : decode cX11_init 212 = .ok (.iload_n 1, 1) := by decide +kernel
theorem dX11_init_213 : decode cX11_init 213 = .ok (.iconst 2, 1) := by decide +kernel
theorem dX11_init_214 : decode cX11_init 214 = .ok (.if_icmp .ge 22, 3) := by decide +kernel
theorem dX11_init_217 : decode cX11_init 217 = .ok (.aload_n 0, 1) := by decide +kernel
theorem dX11_init_218 : decode cX11_init 218 = .ok (.getfield 57, 3) := by decide +kernel
theorem dX11_init_221 : decode cX11_init 221 = .ok (.iload_n 1, 1) := by decide +kernel
theorem dX11_init_222 : decode cX11_init 222 = .ok (.new 33, 3) := by decide +kernel
theorem dX11_init_225 : decode cX11_init 225 = .ok (.dup, 1) := by decide +kernel
theorem dX11_init_226 : decode cX11_init 226 = .ok (.invokespecial 35, 3) := by decide +kernel
theorem dX11_init_229 : decode cX11_init 229 = .ok (.aastore, 1) := by decide +kernel
theorem dX11_init_230 : decode cX11_init 230 = .ok (.iinc 1 1, 3) := by decide +kernel
theorem dX11_init_233 : decode cX11_init 233 = .ok (.goto (-21), 3) := by decide +kernel
theorem dX11_init_236 : decode cX11_init 236 = .ok (.iconst 0, 1) := by decide +kernel
theorem dX11_init_237 : decode cX11_init 237 = .ok (.istore_n 1, 1) := by decide +kernel
theorem dX11_init_238 : decode cX11_init 238 = .ok (.iload_n 1, 1) := by decide +kernel
theorem dX11_init_239 : decode cX11_init 239 = .ok (.iconst 4, 1) := by decide +kernel
theorem dX11_init_240 : decode cX11_init 240 = .ok (.if_icmp .ge 22, 3) := by decide +kernel
theorem dX11_init_243 : decode cX11_init 243 = .ok (.aload_n 0, 1) := by decide +kernel
theorem dX11_init_244 : decode cX11_init 244 = .ok (.getfield 62, 3) := by decide +kernel
theorem dX11_init_247 : decode cX11_init 247 = .ok (.iload_n 1, 1) := by decide +kernel
theorem dX11_init_248 : decode cX11_init 248 = .ok (.new 60, 3) := by decide +kernel
theorem dX11_init_251 : decode cX11_init 251 = .ok (.dup, 1) := by decide +kernel
theorem dX11_init_252 : decode cX11_init 252 = .ok (.invokespecial 110, 3) := by decide +kernel
theorem dX11_init_255 : decode cX11_init 255 = .ok (.aastore, 1) := by decide +kernel
theorem dX11_init_256 : decode cX11_init 256 = .ok (.iinc 1 1, 3) := by decide +kernel
theorem dX11_init_259 : decode cX11_init 259 = .ok (.goto (-21), 3) := by decide +kernel
theorem dX11_init_262 : decode cX11_init 262 = .ok (.iconst 0, 1) := by decide +kernel
theorem dX11_init_263 : decode cX11_init 263 = .ok (.istore_n 1, 1) := by decide +kernel
theorem dX11_init_264 : decode cX11_init 264 = .ok (.iload_n 1, 1) := by decide +kernel
theorem dX11_init_265 : decode cX11_init 265 = .ok (.iconst 5, 1) := by decide +kernel
theorem dX11_init_266 : decode cX11_init 266 = .ok (.if_icmp .ge 26, 3) := by decide +kernel
theorem dX11_init_269 : decode cX11_init 269 = .ok (.aload_n 0, 1) := by decide +kernel
theorem dX11_init_270 : decode cX11_init 270 = .ok (.getfield 68, 3) := by decide +kernel
theorem dX11_init_273 : decode cX11_init 273 = .ok (.iload_n 1, 1) := by decide +kernel
theorem dX11_init_274 : decode cX11_init 274 = .ok (.new 66, 3) := by decide +kernel
theorem dX11_init_277 : decode cX11_init 277 = .ok (.dup, 1) := by decide +kernel
theorem dX11_init_278 : decode cX11_init 278 = .ok (.aload_n 0, 1) := by decide +kernel
theorem dX11_init_279 : decode cX11_init 279 = .ok (.getfield 29, 3) := by decide +kernel
theorem dX11_init_282 : decode cX11_init 282 = .ok (.invokespecial 72, 3) := by decide +kernel
theorem dX11_init_285 : decode cX11_init 285 = .ok (.aastore, 1) := by decide +kernel
theorem dX11_init_286 : decode cX11_init 286 = .ok (.iinc 1 1, 3) := by decide +kernel
theorem dX11_init_289 : decode cX11_init 289 = .ok (.goto (-25), 3) := by decide +kernel
theorem dX11_init_292 : decode cX11_init 292 = .ok (.return_, 1) := by decide +kernel
theorem kw_29 : Cond.methodLink "FootholdWall" 1 objectInit ∈ gw := gw_of (tb_of 29 (by decide +kernel)) (by decide +kernel)
theorem kw_32 : Cond.classLink "FootholdWall" 17 "FootholdWall$Reader" ∈ gw := gw_of (tb_of 32 (by decide +kernel)) (by decide +kernel)
theorem kw_33 : Cond.instantiable "FootholdWall$Reader" 5 ∈ gw := gw_of (tb_of 33 (by decide +kernel)) (by decide +kernel)
theorem kw_35 : Cond.instanceMethod yX4_init ∈ gw := gw_of (tb_of 35 (by decide +kernel)) (by decide +kernel)
theorem kw_36 : Cond.code yX4_init cX4_init 1 none ∈ gw := gw_of (tb_of 36 (by decide +kernel)) (by decide +kernel)
theorem kw_229 : Cond.classLink "FootholdWall" 24 "FootholdWall$Wall" ∈ gw := gw_of (tb_of 229 (by decide +kernel)) (by decide +kernel)
theorem kw_230 : Cond.methodLink "FootholdWall" 26 yX9_init ∈ gw := gw_of (tb_of 230 (by decide +kernel)) (by decide +kernel)
theorem kw_231 : Cond.classLink "FootholdWall" 33 "FootholdWall$State" ∈ gw := gw_of (tb_of 231 (by decide +kernel)) (by decide +kernel)
theorem kw_235 : Cond.classLink "FootholdWall" 60 "FootholdWall$Tray" ∈ gw := gw_of (tb_of 235 (by decide +kernel)) (by decide +kernel)
theorem kw_237 : Cond.classLink "FootholdWall" 66 "FootholdWall$Rows" ∈ gw := gw_of (tb_of 237 (by decide +kernel)) (by decide +kernel)
theorem kw_239 : Cond.instantiable "FootholdWall$Rows" 6 ∈ gw := gw_of (tb_of 239 (by decide +kernel)) (by decide +kernel)
theorem kw_240 : Cond.methodLink "FootholdWall" 72 yX5_init ∈ gw := gw_of (tb_of 240 (by decide +kernel)) (by decide +kernel)
theorem kw_241 : Cond.instanceMethod yX5_init ∈ gw := gw_of (tb_of 241 (by decide +kernel)) (by decide +kernel)
theorem kw_242 : Cond.code yX5_init cX5_init 2 none ∈ gw := gw_of (tb_of 242 (by decide +kernel)) (by decide +kernel)
theorem kw_266 : Cond.classLink "FootholdWall" 79 "FootholdWall$Ways" ∈ gw := gw_of (tb_of 266 (by decide +kernel)) (by decide +kernel)
theorem kw_267 : Cond.instantiable "FootholdWall$Ways" 7 ∈ gw := gw_of (tb_of 267 (by decide +kernel)) (by decide +kernel)
theorem kw_269 : Cond.instanceMethod yX10_init ∈ gw := gw_of (tb_of 269 (by decide +kernel)) (by decide +kernel)
theorem kw_270 : Cond.code yX10_init cX10_init 1 none ∈ gw := gw_of (tb_of 270 (by decide +kernel)) (by decide +kernel)
theorem kw_296 : Cond.classLink "FootholdWall" 86 "FootholdWall$Cut" ∈ gw := gw_of (tb_of 296 (by decide +kernel)) (by decide +kernel)
theorem kw_297 : Cond.instantiable "FootholdWall$Cut" 7 ∈ gw := gw_of (tb_of 297 (by decide +kernel)) (by decide +kernel)
theorem kw_299 : Cond.instanceMethod yX1_init ∈ gw := gw_of (tb_of 299 (by decide +kernel)) (by decide +kernel)
theorem kw_300 : Cond.code yX1_init cX1_init 1 none ∈ gw := gw_of (tb_of 300 (by decide +kernel)) (by decide +kernel)
theorem kw_324 : Cond.classLink "FootholdWall" 93 "FootholdWall$Chains" ∈ gw := gw_of (tb_of 324 (by decide +kernel)) (by decide +kernel)
theorem kw_325 : Cond.instantiable "FootholdWall$Chains" 4 ∈ gw := gw_of (tb_of 325 (by decide +kernel)) (by decide +kernel)
theorem kw_327 : Cond.instanceMethod yX0_init ∈ gw := gw_of (tb_of 327 (by decide +kernel)) (by decide +kernel)
theorem kw_328 : Cond.code yX0_init cX0_init 1 none ∈ gw := gw_of (tb_of 328 (by decide +kernel)) (by decide +kernel)
theorem kw_344 : Cond.instantiable "FootholdWall$Tray" 3 ∈ gw := gw_of (tb_of 344 (by decide +kernel)) (by decide +kernel)
theorem kw_346 : Cond.instanceMethod yX8_init ∈ gw := gw_of (tb_of 346 (by decide +kernel)) (by decide +kernel)
theorem kw_347 : Cond.code yX8_init cX8_init 1 none ∈ gw := gw_of (tb_of 347 (by decide +kernel)) (by decide +kernel)
