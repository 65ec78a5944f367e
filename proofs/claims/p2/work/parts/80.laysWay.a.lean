theorem dX12_laysWay_0 : decode cX12_laysWay 0 = .ok (.iconst 0, 1) := by decide +kernel
theorem dX12_laysWay_1 : decode cX12_laysWay 1 = .ok (.istore_n 2, 1) := by decide +kernel
theorem dX12_laysWay_2 : decode cX12_laysWay 2 = .ok (.iload_n 2, 1) := by decide +kernel
theorem dX12_laysWay_3 : decode cX12_laysWay 3 = .ok (.aload_n 0, 1) := by decide +kernel
theorem dX12_laysWay_4 : decode cX12_laysWay 4 = .ok (.getfield 13, 3) := by decide +kernel
theorem dX12_laysWay_7 : decode cX12_laysWay 7 = .ok (.iconst 1, 1) := by decide +kernel
theorem dX12_laysWay_8 : decode cX12_laysWay 8 = .ok (.iaload, 1) := by decide +kernel
theorem dX12_laysWay_9 : decode cX12_laysWay 9 = .ok (.if_icmp .ge 37, 3) := by decide +kernel
theorem dX12_laysWay_12 : decode cX12_laysWay 12 = .ok (.aload_n 0, 1) := by decide +kernel
theorem dX12_laysWay_13 : decode cX12_laysWay 13 = .ok (.getfield 36, 3) := by decide +kernel
theorem dX12_laysWay_16 : decode cX12_laysWay 16 = .ok (.iload_n 2, 1) := by decide +kernel
theorem dX12_laysWay_17 : decode cX12_laysWay 17 = .ok (.iload_n 1, 1) := by decide +kernel
theorem dX12_laysWay_18 : decode cX12_laysWay 18 = .ok (.aload_n 0, 1) := by decide +kernel
theorem dX12_laysWay_19 : decode cX12_laysWay 19 = .ok (.getfield 13, 3) := by decide +kernel
theorem dX12_laysWay_22 : decode cX12_laysWay 22 = .ok (.iconst 5, 1) := by decide +kernel
theorem dX12_laysWay_23 : decode cX12_laysWay 23 = .ok (.iaload, 1) := by decide +kernel
theorem dX12_laysWay_24 : decode cX12_laysWay 24 = .ok (.iand, 1) := by decide +kernel
theorem dX12_laysWay_25 : decode cX12_laysWay 25 = .ok (.i2l, 1) := by decide +kernel
theorem dX12_laysWay_26 : decode cX12_laysWay 26 = .ok (.iload_n 2, 1) := by decide +kernel
theorem dX12_laysWay_27 : decode cX12_laysWay 27 = .ok (.invokestatic 186, 3) := by decide +kernel
theorem dX12_laysWay_30 : decode cX12_laysWay 30 = .ok (.ifCond .eq 7, 3) := by decide +kernel
theorem dX12_laysWay_33 : decode cX12_laysWay 33 = .ok (.iconst 0, 1) := by decide +kernel
theorem dX12_laysWay_34 : decode cX12_laysWay 34 = .ok (.goto 5, 3) := by decide +kernel
theorem dX12_laysWay_37 : decode cX12_laysWay 37 = .ok (.bipush 99, 2) := by decide +kernel
theorem dX12_laysWay_39 : decode cX12_laysWay 39 = .ok (.iastore, 1) := by decide +kernel
theorem dX12_laysWay_40 : decode cX12_laysWay 40 = .ok (.iinc 2 1, 3) := by decide +kernel
theorem dX12_laysWay_43 : decode cX12_laysWay 43 = .ok (.goto (-41), 3) := by decide +kernel
theorem dX12_laysWay_46 : decode cX12_laysWay 46 = .ok (.iconst 1, 1) := by decide +kernel
theorem dX12_laysWay_47 : decode cX12_laysWay 47 = .ok (.istore_n 2, 1) := by decide +kernel
theorem dX12_laysWay_48 : decode cX12_laysWay 48 = .ok (.iload_n 2, 1) := by decide +kernel
theorem dX12_laysWay_49 : decode cX12_laysWay 49 = .ok (.aload_n 0, 1) := by decide +kernel
theorem dX12_laysWay_50 : decode cX12_laysWay 50 = .ok (.getfield 13, 3) := by decide +kernel
theorem dX12_laysWay_53 : decode cX12_laysWay 53 = .ok (.iconst 1, 1) := by decide +kernel
theorem dX12_laysWay_54 : decode cX12_laysWay 54 = .ok (.iaload, 1) := by decide +kernel
theorem dX12_laysWay_55 : decode cX12_laysWay 55 = .ok (.if_icmp .ge 73, 3) := by decide +kernel
theorem dX12_laysWay_58 : decode cX12_laysWay 58 = .ok (.iconst 0, 1) := by decide +kernel
theorem dX12_laysWay_59 : decode cX12_laysWay 59 = .ok (.istore_n 3, 1) := by decide +kernel
theorem dX12_laysWay_60 : decode cX12_laysWay 60 = .ok (.iload_n 3, 1) := by decide +kernel
theorem dX12_laysWay_61 : decode cX12_laysWay 61 = .ok (.aload_n 0, 1) := by decide +kernel
theorem dX12_laysWay_62 : decode cX12_laysWay 62 = .ok (.getfield 13, 3) := by decide +kernel
theorem dX12_laysWay_65 : decode cX12_laysWay 65 = .ok (.iconst 1, 1) := by decide +kernel
theorem dX12_laysWay_66 : decode cX12_laysWay 66 = .ok (.iaload, 1) := by decide +kernel
theorem dX12_laysWay_67 : decode cX12_laysWay 67 = .ok (.if_icmp .ge 55, 3) := by decide +kernel
theorem dX12_laysWay_70 : decode cX12_laysWay 70 = .ok (.aload_n 0, 1) := by decide +kernel
theorem dX12_laysWay_71 : decode cX12_laysWay 71 = .ok (.getfield 36, 3) := by decide +kernel
theorem dX12_laysWay_74 : decode cX12_laysWay 74 = .ok (.iload_n 3, 1) := by decide +kernel
theorem dX12_laysWay_75 : decode cX12_laysWay 75 = .ok (.iaload, 1) := by decide +kernel
theorem dX12_laysWay_76 : decode cX12_laysWay 76 = .ok (.bipush 99, 2) := by decide +kernel
theorem dX12_laysWay_78 : decode cX12_laysWay 78 = .ok (.if_icmp .ne 38, 3) := by decide +kernel
theorem dX12_laysWay_81 : decode cX12_laysWay 81 = .ok (.iload_n 1, 1) := by decide +kernel
theorem dX12_laysWay_82 : decode cX12_laysWay 82 = .ok (.i2l, 1) := by decide +kernel
theorem dX12_laysWay_83 : decode cX12_laysWay 83 = .ok (.iload_n 3, 1) := by decide +kernel
theorem dX12_laysWay_84 : decode cX12_laysWay 84 = .ok (.invokestatic 186, 3) := by decide +kernel
theorem dX12_laysWay_87 : decode cX12_laysWay 87 = .ok (.ifCond .eq 29, 3) := by decide +kernel
theorem dX12_laysWay_90 : decode cX12_laysWay 90 = .ok (.aload_n 0, 1) := by decide +kernel
theorem dX12_laysWay_91 : decode cX12_laysWay 91 = .ok (.aload_n 0, 1) := by decide +kernel
theorem dX12_laysWay_92 : decode cX12_laysWay 92 = .ok (.getfield 33, 3) := by decide +kernel
theorem dX12_laysWay_95 : decode cX12_laysWay 95 = .ok (.iload_n 3, 1) := by decide +kernel
theorem dX12_laysWay_96 : decode cX12_laysWay 96 = .ok (.iaload, 1) := by decide +kernel
theorem dX12_laysWay_97 : decode cX12_laysWay 97 = .ok (.iload_n 1, 1) := by decide +kernel
theorem dX12_laysWay_98 : decode cX12_laysWay 98 = .ok (.iand, 1) := by decide +kernel
theorem dX12_laysWay_99 : decode cX12_laysWay 99 = .ok (.iload_n 2, 1) := by decide +kernel
theorem dX12_laysWay_100 : decode cX12_laysWay 100 = .ok (.iconst 1, 1) := by decide +kernel
theorem dX12_laysWay_101 : decode cX12_laysWay 101 = .ok (.isub, 1) := by decide +kernel
theorem dX12_laysWay_102 : decode cX12_laysWay 102 = .ok (.invokevirtual 263, 3) := by decide +kernel
theorem dX12_laysWay_105 : decode cX12_laysWay 105 = .ok (.iconst (-1), 1) := by decide +kernel
theorem dX12_laysWay_106 : decode cX12_laysWay 106 = .ok (.if_icmp .eq 10, 3) := by decide +kernel
theorem dX12_laysWay_109 : decode cX12_laysWay 109 = .ok (.aload_n 0, 1) := by decide +kernel
theorem dX12_laysWay_110 : decode cX12_laysWay 110 = .ok (.getfield 36, 3) := by decide +kernel
theorem dX12_laysWay_113 : decode cX12_laysWay 113 = .ok (.iload_n 3, 1) := by decide +kernel
theorem dX12_laysWay_114 : decode cX12_laysWay 114 = .ok (.iload_n 2, 1) := by decide +kernel
theorem dX12_laysWay_115 : decode cX12_laysWay 115 = .ok (.iastore, 1) := by decide +kernel
theorem dX12_laysWay_116 : decode cX12_laysWay 116 = .ok (.iinc 3 1, 3) := by decide +kernel
theorem dX12_laysWay_119 : decode cX12_laysWay 119 = .ok (.goto (-59), 3) := by decide +kernel
theorem dX12_laysWay_122 : decode cX12_laysWay 122 = .ok (.iinc 2 1, 3) := by decide +kernel
theorem dX12_laysWay_125 : decode cX12_laysWay 125 = .ok (.goto (-77), 3) := by decide +kernel
theorem dX12_laysWay_128 : decode cX12_laysWay 128 = .ok (.bipush 99, 2) := by decide +kernel
theorem dX12_laysWay_130 : decode cX12_laysWay 130 = .ok (.istore_n 2, 1) := by decide +kernel
theorem dX12_laysWay_131 : decode cX12_laysWay 131 = .ok (.iconst 0, 1) := by decide +kernel
theorem dX12_laysWay_132 : decode cX12_laysWay 132 = .ok (.istore_n 3, 1) := by decide +kernel
theorem dX12_laysWay_133 : decode cX12_laysWay 133 = .ok (.iload_n 3, 1) := by decide +kernel
theorem dX12_laysWay_134 : decode cX12_laysWay 134 = .ok (.aload_n 0, 1) := by decide +kernel
theorem dX12_laysWay_135 : decode cX12_laysWay 135 = .ok (.getfield 13, 3) := by decide +kernel
theorem dX12_laysWay_138 : decode cX12_laysWay 138 = .ok (.iconst 1, 1) := by decide +kernel
theorem dX12_laysWay_139 : decode cX12_laysWay 139 = .ok (.iaload, 1) := by decide +kernel
theorem dX12_laysWay_140 : decode cX12_laysWay 140 = .ok (.if_icmp .ge 40, 3) := by decide +kernel
theorem dX12_laysWay_143 : decode cX12_laysWay 143 = .ok (.aload_n 0, 1) := by decide +kernel
theorem dX12_laysWay_144 : decode cX12_laysWay 144 = .ok (.getfield 13, 3) := by decide +kernel
theorem dX12_laysWay_147 : decode cX12_laysWay 147 = .ok (.iconst 4, 1) := by decide +kernel
theorem dX12_laysWay_148 : decode cX12_laysWay 148 = .ok (.iaload, 1) := by decide +kernel
theorem dX12_laysWay_149 : decode cX12_laysWay 149 = .ok (.i2l, 1) := by decide +kernel
theorem dX12_laysWay_150 : decode cX12_laysWay 150 = .ok (.iload_n 3, 1) := by decide +kernel
theorem dX12_laysWay_151 : decode cX12_laysWay 151 = .ok (.invokestatic 186, 3) := by decide +kernel
theorem dX12_laysWay_154 : decode cX12_laysWay 154 = .ok (.ifCond .eq 20, 3) := by decide +kernel
theorem dX12_laysWay_157 : decode cX12_laysWay 157 = .ok (.aload_n 0, 1) := by decide +kernel
theorem dX12_laysWay_158 : decode cX12_laysWay 158 = .ok (.getfield 36, 3) := by decide +kernel
theorem dX12_laysWay_161 : decode cX12_laysWay 161 = .ok (.iload_n 3, 1) := by decide +kernel
theorem dX12_laysWay_162 : decode cX12_laysWay 162 = .ok (.iaload, 1) := by decide +kernel
theorem dX12_laysWay_163 : decode cX12_laysWay 163 = .ok (.iload_n 2, 1) := by decide +kernel
theorem dX12_laysWay_164 : decode cX12_laysWay 164 = .ok (.if_icmp .ge 10, 3) := by decide +kernel
theorem dX12_laysWay_167 : decode cX12_laysWay 167 = .ok (.aload_n 0, 1) := by decide +kernel
theorem dX12_laysWay_168 : decode cX12_laysWay 168 = .ok (.getfield 36, 3) := by decide +kernel
theorem dX12_laysWay_171 : decode cX12_laysWay 171 = .ok (.iload_n 3, 1) := by decide +kernel
theorem dX12_laysWay_172 : decode cX12_laysWay 172 = .ok (.iaload, 1) := by decide +kernel
theorem dX12_laysWay_173 : decode cX12_laysWay 173 = .ok (.istore_n 2, 1) := by decide +kernel
theorem dX12_laysWay_174 : decode cX12_laysWay 174 = .ok (.iinc 3 1, 3) := by decide +kernel
theorem dX12_laysWay_177 : decode cX12_laysWay 177 = .ok (.goto (-44), 3) := by decide +kernel
theorem dX12_laysWay_180 : decode cX12_laysWay 180 = .ok (.iload_n 2, 1) := by decide +kernel
theorem dX12_laysWay_181 : decode cX12_laysWay 181 = .ok (.bipush 99, 2) := by decide +kernel
theorem dX12_laysWay_183 : decode cX12_laysWay 183 = .ok (.if_icmp .ne 5, 3) := by decide +kernel
theorem dX12_laysWay_186 : decode cX12_laysWay 186 = .ok (.iconst 0, 1) := by decide +kernel
theorem dX12_laysWay_187 : decode cX12_laysWay 187 = .ok (.ireturn, 1) := by decide +kernel
theorem dX12_laysWay_188 : decode cX12_laysWay 188 = .ok (.aload_n 0, 1) := by decide +kernel
theorem dX12_laysWay_189 : decode cX12_laysWay 189 = .ok (.aload_n 0, 1) := by decide +kernel
theorem dX12_laysWay_190 : decode cX12_laysWay 190 = .ok (.getfield 13, 3) := by decide +kernel
theorem dX12_laysWay_193 : decode cX12_laysWay 193 = .ok (.iconst 4, 1) := by decide +kernel
theorem dX12_laysWay_194 : decode cX12_laysWay 194 = .ok (.iaload, 1) := by decide +kernel
theorem dX12_laysWay_195 : decode cX12_laysWay 195 = .ok (.iload_n 1, 1) := by decide +kernel
theorem dX12_laysWay_196 : decode cX12_laysWay 196 = .ok (.iand, 1) := by decide +kernel
theorem dX12_laysWay_197 : decode cX12_laysWay 197 = .ok (.iload_n 2, 1) := by decide +kernel
theorem dX12_laysWay_198 : decode cX12_laysWay 198 = .ok (.invokevirtual 263, 3) := by decide +kernel
theorem dX12_laysWay_201 : decode cX12_laysWay 201 = .ok (.istore_n 3, 1) := by decide +kernel
theorem dX12_laysWay_202 : decode cX12_laysWay 202 = .ok (.aload_n 0, 1) := by decide +kernel
theorem dX12_laysWay_203 : decode cX12_laysWay 203 = .ok (.iconst 0, 1) := by decide +kernel
theorem dX12_laysWay_204 : decode cX12_laysWay 204 = .ok (.putfield 266, 3) := by decide +kernel
theorem dX12_laysWay_207 : decode cX12_laysWay 207 = .ok (.iload_n 2, 1) := by decide +kernel
theorem dX12_laysWay_208 : decode cX12_laysWay 208 = .ok (.istore 4, 2) := by decide +kernel
theorem dX12_laysWay_210 : decode cX12_laysWay 210 = .ok (.iload 4, 2) := by decide +kernel
theorem dX12_laysWay_212 : decode cX12_laysWay 212 = .ok (.ifCond .lt 51, 3) := by decide +kernel
theorem dX12_laysWay_215 : decode cX12_laysWay 215 = .ok (.aload_n 0, 1) := by decide +kernel
theorem dX12_laysWay_216 : decode cX12_laysWay 216 = .ok (.getfield 39, 3) := by decide +kernel
theorem dX12_laysWay_219 : decode cX12_laysWay 219 = .ok (.aload_n 0, 1) := by decide +kernel
theorem dX12_laysWay_220 : decode cX12_laysWay 220 = .ok (.getfield 266, 3) := by decide +kernel
theorem dX12_laysWay_223 : decode cX12_laysWay 223 = .ok (.iload_n 3, 1) := by decide +kernel
theorem dX12_laysWay_224 : decode cX12_laysWay 224 = .ok (.iastore, 1) := by decide +kernel
theorem dX12_laysWay_225 : decode cX12_laysWay 225 = .ok (.aload_n 0, 1) := by decide +kernel
theorem dX12_laysWay_226 : decode cX12_laysWay 226 = .ok (.dup, 1) := by decide +kernel
theorem dX12_laysWay_227 : decode cX12_laysWay 227 = .ok (.getfield 266, 3) := by decide +kernel
theorem dX12_laysWay_230 : decode cX12_laysWay 230 = .ok (.iconst 1, 1) := by decide +kernel
theorem dX12_laysWay_231 : decode cX12_laysWay 231 = .ok (.iadd, 1) := by decide +kernel
theorem dX12_laysWay_232 : decode cX12_laysWay 232 = .ok (.putfield 266, 3) := by decide +kernel
theorem dX12_laysWay_235 : decode cX12_laysWay 235 = .ok (.iload 4, 2) := by decide +kernel
theorem dX12_laysWay_237 : decode cX12_laysWay 237 = .ok (.ifCond .le 20, 3) := by decide +kernel
theorem dX12_laysWay_240 : decode cX12_laysWay 240 = .ok (.aload_n 0, 1) := by decide +kernel
theorem dX12_laysWay_241 : decode cX12_laysWay 241 = .ok (.aload_n 0, 1) := by decide +kernel
theorem dX12_laysWay_242 : decode cX12_laysWay 242 = .ok (.getfield 33, 3) := by decide +kernel
theorem dX12_laysWay_245 : decode cX12_laysWay 245 = .ok (.iload_n 3, 1) := by decide +kernel
theorem dX12_laysWay_246 : decode cX12_laysWay 246 = .ok (.iaload, 1) := by decide +kernel
theorem dX12_laysWay_247 : decode cX12_laysWay 247 = .ok (.iload_n 1, 1) := by decide +kernel
theorem dX12_laysWay_248 : decode cX12_laysWay 248 = .ok (.iand, 1) := by decide +kernel
theorem dX12_laysWay_249 : decode cX12_laysWay 249 = .ok (.iload 4, 2) := by decide +kernel
theorem dX12_laysWay_251 : decode cX12_laysWay 251 = .ok (.iconst 1, 1) := by decide +kernel
theorem dX12_laysWay_252 : decode cX12_laysWay 252 = .ok (.isub, 1) := by decide +kernel
theorem dX12_laysWay_253 : decode cX12_laysWay 253 = .ok (.invokevirtual 263, 3) := by decide +kernel
theorem dX12_laysWay_256 : decode cX12_laysWay 256 = .ok (.istore_n 3, 1) := by decide +kernel
theorem dX12_laysWay_257 : decode cX12_laysWay 257 = .ok (.iinc 4 (-1), 3) := by decide +kernel
theorem dX12_laysWay_260 : decode cX12_laysWay 260 = .ok (.goto (-50), 3) := by decide +kernel
theorem dX12_laysWay_263 : decode cX12_laysWay 263 = .ok (.iconst 1, 1) := by decide +kernel
theorem dX12_laysWay_264 : decode cX12_laysWay 264 = .ok (.ireturn, 1) := by decide +kernel
theorem dX12_laysWayOf_0 : decode cX12_laysWayOf 0 = .ok (.aload_n 0, 1) := by decide +kernel
theorem dX12_laysWayOf_1 : decode cX12_laysWayOf 1 = .ok (.iload_n 1, 1) := by decide +kernel
theorem dX12_laysWayOf_2 : decode cX12_laysWayOf 2 = .ok (.invokevirtual 257, 3) := by decide +kernel
theorem dX12_laysWayOf_5 : decode cX12_laysWayOf 5 = .ok (.aload_n 0, 1) := by decide +kernel
theorem dX12_laysWayOf_6 : decode cX12_laysWayOf 6 = .ok (.aload_n 0, 1) := by decide +kernel
theorem dX12_laysWayOf_7 : decode cX12_laysWayOf 7 = .ok (.invokevirtual 260, 3) := by decide +kernel
theorem dX12_laysWayOf_10 : decode cX12_laysWayOf 10 = .ok (.invokevirtual 269, 3) := by decide +kernel
theorem dX12_laysWayOf_13 : decode cX12_laysWayOf 13 = .ok (.ireturn, 1) := by decide +kernel
theorem kw_1564 : Cond.methodLink "FootholdWallModel" 269 yX12_laysWay ∈ gw := gw_of (tb_of 1564 (by decide +kernel)) (by decide +kernel)
theorem kw_1566 : Cond.instanceMethod yX12_laysWay ∈ gw := gw_of (tb_of 1566 (by decide +kernel)) (by decide +kernel)
theorem kw_1567 : Cond.code yX12_laysWay cX12_laysWay 5 (some (.boolean)) ∈ gw := gw_of (tb_of 1567 (by decide +kernel)) (by decide +kernel)
theorem kw_1568 : Cond.methodLink "FootholdWallModel" 263 yX12_nearer ∈ gw := gw_of (tb_of 1568 (by decide +kernel)) (by decide +kernel)
theorem kw_1570 : Cond.instanceMethod yX12_nearer ∈ gw := gw_of (tb_of 1570 (by decide +kernel)) (by decide +kernel)
theorem kw_1571 : Cond.code yX12_nearer cX12_nearer 4 (some (.int)) ∈ gw := gw_of (tb_of 1571 (by decide +kernel)) (by decide +kernel)
theorem ks_83 : Cond.selects RX12 yX12_laysWay yX12_laysWay ∈ gw := gw_of (pv_of 83 (by decide +kernel)) (by decide +kernel)
theorem ks_84 : Cond.selects RX12 yX12_nearer yX12_nearer ∈ gw := gw_of (pv_of 84 (by decide +kernel)) (by decide +kernel)
