theorem dX12_wall_0 : decode cX12_wall 0 = .ok (.aload_n 0, 1) := by decide +kernel
theorem dX12_wall_1 : decode cX12_wall 1 = .ok (.iconst 0, 1) := by decide +kernel
theorem dX12_wall_2 : decode cX12_wall 2 = .ok (.putfield 1, 3) := by decide +kernel
theorem dX12_wall_5 : decode cX12_wall 5 = .ok (.iload_n 1, 1) := by decide +kernel
theorem dX12_wall_6 : decode cX12_wall 6 = .ok (.i2l, 1) := by decide +kernel
theorem dX12_wall_7 : decode cX12_wall 7 = .ok (.lconst 0, 1) := by decide +kernel
theorem dX12_wall_8 : decode cX12_wall 8 = .ok (.aload_n 0, 1) := by decide +kernel
theorem dX12_wall_9 : decode cX12_wall 9 = .ok (.getfield 82, 3) := by decide +kernel
theorem dX12_wall_12 : decode cX12_wall 12 = .ok (.i2l, 1) := by decide +kernel
theorem dX12_wall_13 : decode cX12_wall 13 = .ok (.invokestatic 144, 3) := by decide +kernel
theorem dX12_wall_16 : decode cX12_wall 16 = .ok (.ifCond .ne 6, 3) := by decide +kernel
theorem dX12_wall_19 : decode cX12_wall 19 = .ok (.bipush (-3), 2) := by decide +kernel
theorem dX12_wall_21 : decode cX12_wall 21 = .ok (.ireturn, 1) := by decide +kernel
theorem dX12_wall_22 : decode cX12_wall 22 = .ok (.aload_n 0, 1) := by decide +kernel
theorem dX12_wall_23 : decode cX12_wall 23 = .ok (.iload_n 1, 1) := by decide +kernel
theorem dX12_wall_24 : decode cX12_wall 24 = .ok (.putfield 85, 3) := by decide +kernel
theorem dX12_wall_27 : decode cX12_wall 27 = .ok (.aload_n 0, 1) := by decide +kernel
theorem dX12_wall_28 : decode cX12_wall 28 = .ok (.iconst 0, 1) := by decide +kernel
theorem dX12_wall_29 : decode cX12_wall 29 = .ok (.putfield 82, 3) := by decide +kernel
theorem dX12_wall_32 : decode cX12_wall 32 = .ok (.aload_n 0, 1) := by decide +kernel
theorem dX12_wall_33 : decode cX12_wall 33 = .ok (.iconst 0, 1) := by decide +kernel
theorem dX12_wall_34 : decode cX12_wall 34 = .ok (.putfield 103, 3) := by decide +kernel
theorem dX12_wall_37 : decode cX12_wall 37 = .ok (.aload_n 0, 1) := by decide +kernel
theorem dX12_wall_38 : decode cX12_wall 38 = .ok (.iconst 0, 1) := by decide +kernel
theorem dX12_wall_39 : decode cX12_wall 39 = .ok (.putfield 128, 3) := by decide +kernel
theorem dX12_wall_42 : decode cX12_wall 42 = .ok (.aload_n 0, 1) := by decide +kernel
theorem dX12_wall_43 : decode cX12_wall 43 = .ok (.getfield 24, 3) := by decide +kernel
theorem dX12_wall_46 : decode cX12_wall 46 = .ok (.invokestatic 78, 3) := by decide +kernel
theorem dX12_wall_49 : decode cX12_wall 49 = .ok (.aload_n 0, 1) := by decide +kernel
theorem dX12_wall_50 : decode cX12_wall 50 = .ok (.invokevirtual 137, 3) := by decide +kernel
theorem dX12_wall_53 : decode cX12_wall 53 = .ok (.aload_n 0, 1) := by decide +kernel
theorem dX12_wall_54 : decode cX12_wall 54 = .ok (.getfield 128, 3) := by decide +kernel
theorem dX12_wall_57 : decode cX12_wall 57 = .ok (.ifCond .ne 43, 3) := by decide +kernel
theorem dX12_wall_60 : decode cX12_wall 60 = .ok (.aload_n 0, 1) := by decide +kernel
theorem dX12_wall_61 : decode cX12_wall 61 = .ok (.getfield 110, 3) := by decide +kernel
theorem dX12_wall_64 : decode cX12_wall 64 = .ok (.bipush 22, 2) := by decide +kernel
theorem dX12_wall_66 : decode cX12_wall 66 = .ok (.if_icmp .eq 34, 3) := by decide +kernel
theorem dX12_wall_69 : decode cX12_wall 69 = .ok (.aload_n 0, 1) := by decide +kernel
theorem dX12_wall_70 : decode cX12_wall 70 = .ok (.invokevirtual 206, 3) := by decide +kernel
theorem dX12_wall_73 : decode cX12_wall 73 = .ok (.aload_n 0, 1) := by decide +kernel
theorem dX12_wall_74 : decode cX12_wall 74 = .ok (.bipush 30, 2) := by decide +kernel
theorem dX12_wall_76 : decode cX12_wall 76 = .ok (.invokevirtual 155, 3) := by decide +kernel
theorem dX12_wall_79 : decode cX12_wall 79 = .ok (.ifCond .ne 8, 3) := by decide +kernel
theorem dX12_wall_82 : decode cX12_wall 82 = .ok (.aload_n 0, 1) := by decide +kernel
theorem dX12_wall_83 : decode cX12_wall 83 = .ok (.iconst 2, 1) := by decide +kernel
theorem dX12_wall_84 : decode cX12_wall 84 = .ok (.invokevirtual 140, 3) := by decide +kernel
theorem dX12_wall_87 : decode cX12_wall 87 = .ok (.aload_n 0, 1) := by decide +kernel
theorem dX12_wall_88 : decode cX12_wall 88 = .ok (.getfield 24, 3) := by decide +kernel
theorem dX12_wall_91 : decode cX12_wall 91 = .ok (.iconst 0, 1) := by decide +kernel
theorem dX12_wall_92 : decode cX12_wall 92 = .ok (.dup2, 1) := by decide +kernel
theorem dX12_wall_93 : decode cX12_wall 93 = .ok (.iaload, 1) := by decide +kernel
theorem dX12_wall_94 : decode cX12_wall 94 = .ok (.iconst 1, 1) := by decide +kernel
theorem dX12_wall_95 : decode cX12_wall 95 = .ok (.iadd, 1) := by decide +kernel
theorem dX12_wall_96 : decode cX12_wall 96 = .ok (.iastore, 1) := by decide +kernel
theorem dX12_wall_97 : decode cX12_wall 97 = .ok (.goto (-44), 3) := by decide +kernel
theorem dX12_wall_100 : decode cX12_wall 100 = .ok (.aload_n 0, 1) := by decide +kernel
theorem dX12_wall_101 : decode cX12_wall 101 = .ok (.aload_n 0, 1) := by decide +kernel
theorem dX12_wall_102 : decode cX12_wall 102 = .ok (.getfield 128, 3) := by decide +kernel
theorem dX12_wall_105 : decode cX12_wall 105 = .ok (.putfield 209, 3) := by decide +kernel
theorem dX12_wall_108 : decode cX12_wall 108 = .ok (.aload_n 0, 1) := by decide +kernel
theorem dX12_wall_109 : decode cX12_wall 109 = .ok (.aload_n 0, 1) := by decide +kernel
theorem dX12_wall_110 : decode cX12_wall 110 = .ok (.getfield 128, 3) := by decide +kernel
theorem dX12_wall_113 : decode cX12_wall 113 = .ok (.ifCond .ne 7, 3) := by decide +kernel
theorem dX12_wall_116 : decode cX12_wall 116 = .ok (.iconst (-1), 1) := by decide +kernel
theorem dX12_wall_117 : decode cX12_wall 117 = .ok (.goto 7, 3) := by decide +kernel
theorem dX12_wall_120 : decode cX12_wall 120 = .ok (.aload_n 0, 1) := by decide +kernel
theorem dX12_wall_121 : decode cX12_wall 121 = .ok (.getfield 131, 3) := by decide +kernel
theorem dX12_wall_124 : decode cX12_wall 124 = .ok (.putfield 27, 3) := by decide +kernel
theorem dX12_wall_127 : decode cX12_wall 127 = .ok (.aload_n 0, 1) := by decide +kernel
theorem dX12_wall_128 : decode cX12_wall 128 = .ok (.getfield 128, 3) := by decide +kernel
theorem dX12_wall_131 : decode cX12_wall 131 = .ok (.ifCond .eq 11, 3) := by decide +kernel
theorem dX12_wall_134 : decode cX12_wall 134 = .ok (.bipush (-30), 2) := by decide +kernel
theorem dX12_wall_136 : decode cX12_wall 136 = .ok (.aload_n 0, 1) := by decide +kernel
theorem dX12_wall_137 : decode cX12_wall 137 = .ok (.getfield 128, 3) := by decide +kernel
theorem dX12_wall_140 : decode cX12_wall 140 = .ok (.isub, 1) := by decide +kernel
theorem dX12_wall_141 : decode cX12_wall 141 = .ok (.ireturn, 1) := by decide +kernel
theorem dX12_wall_142 : decode cX12_wall 142 = .ok (.iconst 0, 1) := by decide +kernel
theorem dX12_wall_143 : decode cX12_wall 143 = .ok (.istore_n 2, 1) := by decide +kernel
theorem dX12_wall_144 : decode cX12_wall 144 = .ok (.iload_n 2, 1) := by decide +kernel
theorem dX12_wall_145 : decode cX12_wall 145 = .ok (.sipush 1302, 3) := by decide +kernel
theorem dX12_wall_148 : decode cX12_wall 148 = .ok (.if_icmp .ge 21, 3) := by decide +kernel
theorem dX12_wall_151 : decode cX12_wall 151 = .ok (.aload_n 0, 1) := by decide +kernel
theorem dX12_wall_152 : decode cX12_wall 152 = .ok (.getfield 13, 3) := by decide +kernel
theorem dX12_wall_155 : decode cX12_wall 155 = .ok (.iload_n 2, 1) := by decide +kernel
theorem dX12_wall_156 : decode cX12_wall 156 = .ok (.aload_n 0, 1) := by decide +kernel
theorem dX12_wall_157 : decode cX12_wall 157 = .ok (.getfield 24, 3) := by decide +kernel
theorem dX12_wall_160 : decode cX12_wall 160 = .ok (.iload_n 2, 1) := by decide +kernel
theorem dX12_wall_161 : decode cX12_wall 161 = .ok (.iaload, 1) := by decide +kernel
theorem dX12_wall_162 : decode cX12_wall 162 = .ok (.iastore, 1) := by decide +kernel
theorem dX12_wall_163 : decode cX12_wall 163 = .ok (.iinc 2 1, 3) := by decide +kernel
theorem dX12_wall_166 : decode cX12_wall 166 = .ok (.goto (-22), 3) := by decide +kernel
theorem dX12_wall_169 : decode cX12_wall 169 = .ok (.iconst 0, 1) := by decide +kernel
theorem dX12_wall_170 : decode cX12_wall 170 = .ok (.istore_n 2, 1) := by decide +kernel
theorem dX12_wall_171 : decode cX12_wall 171 = .ok (.iload_n 2, 1) := by decide +kernel
theorem dX12_wall_172 : decode cX12_wall 172 = .ok (.aload_n 0, 1) := by decide +kernel
theorem dX12_wall_173 : decode cX12_wall 173 = .ok (.getfield 13, 3) := by decide +kernel
theorem dX12_wall_176 : decode cX12_wall 176 = .ok (.iconst 1, 1) := by decide +kernel
theorem dX12_wall_177 : decode cX12_wall 177 = .ok (.iaload, 1) := by decide +kernel
theorem dX12_wall_178 : decode cX12_wall 178 = .ok (.if_icmp .ge 38, 3) := by decide +kernel
theorem dX12_wall_181 : decode cX12_wall 181 = .ok (.aload_n 0, 1) := by decide +kernel
theorem dX12_wall_182 : decode cX12_wall 182 = .ok (.getfield 13, 3) := by decide +kernel
theorem dX12_wall_185 : decode cX12_wall 185 = .ok (.bipush 59, 2) := by decide +kernel
theorem dX12_wall_187 : decode cX12_wall 187 = .ok (.iload_n 2, 1) := by decide +kernel
theorem dX12_wall_188 : decode cX12_wall 188 = .ok (.iadd, 1) := by decide +kernel
theorem dX12_wall_189 : decode cX12_wall 189 = .ok (.iaload, 1) := by decide +kernel
theorem dX12_wall_190 : decode cX12_wall 190 = .ok (.iconst (-1), 1) := by decide +kernel
theorem dX12_wall_191 : decode cX12_wall 191 = .ok (.if_icmp .eq 19, 3) := by decide +kernel
theorem dX12_wall_194 : decode cX12_wall 194 = .ok (.aload_n 0, 1) := by decide +kernel
theorem dX12_wall_195 : decode cX12_wall 195 = .ok (.getfield 13, 3) := by decide +kernel
theorem dX12_wall_198 : decode cX12_wall 198 = .ok (.bipush 73, 2) := by decide +kernel
theorem dX12_wall_200 : decode cX12_wall 200 = .ok (.iload_n 2, 1) := by decide +kernel
theorem dX12_wall_201 : decode cX12_wall 201 = .ok (.iadd, 1) := by decide +kernel
theorem dX12_wall_202 : decode cX12_wall 202 = .ok (.aload_n 0, 1) := by decide +kernel
theorem dX12_wall_203 : decode cX12_wall 203 = .ok (.getfield 13, 3) := by decide +kernel
theorem dX12_wall_206 : decode cX12_wall 206 = .ok (.bipush 88, 2) := by decide +kernel
theorem dX12_wall_208 : decode cX12_wall 208 = .ok (.iaload, 1) := by decide +kernel
theorem dX12_wall_209 : decode cX12_wall 209 = .ok (.iastore, 1) := by decide +kernel
theorem dX12_wall_210 : decode cX12_wall 210 = .ok (.iinc 2 1, 3) := by decide +kernel
theorem dX12_wall_213 : decode cX12_wall 213 = .ok (.goto (-42), 3) := by decide +kernel
theorem dX12_wall_216 : decode cX12_wall 216 = .ok (.aload_n 0, 1) := by decide +kernel
theorem dX12_wall_217 : decode cX12_wall 217 = .ok (.getfield 13, 3) := by decide +kernel
theorem dX12_wall_220 : decode cX12_wall 220 = .ok (.iconst 0, 1) := by decide +kernel
theorem dX12_wall_221 : decode cX12_wall 221 = .ok (.iaload, 1) := by decide +kernel
theorem dX12_wall_222 : decode cX12_wall 222 = .ok (.ireturn, 1) := by decide +kernel
theorem kw_1220 : Cond.methodLink "FootholdWallModel" 78 yX12_plain ∈ gw := gw_of (tb_of 1220 (by decide +kernel)) (by decide +kernel)
theorem kw_1221 : Cond.static yX12_plain ∈ gw := gw_of (tb_of 1221 (by decide +kernel)) (by decide +kernel)
theorem kw_1222 : Cond.code yX12_plain cX12_plain 2 none ∈ gw := gw_of (tb_of 1222 (by decide +kernel)) (by decide +kernel)
theorem kw_1366 : Cond.methodLink "FootholdWallModel" 206 yX12_readLine ∈ gw := gw_of (tb_of 1366 (by decide +kernel)) (by decide +kernel)
theorem kw_1368 : Cond.instanceMethod yX12_readLine ∈ gw := gw_of (tb_of 1368 (by decide +kernel)) (by decide +kernel)
theorem kw_1369 : Cond.code yX12_readLine cX12_readLine 2 none ∈ gw := gw_of (tb_of 1369 (by decide +kernel)) (by decide +kernel)
theorem ks_46 : Cond.selects RX12 yX12_readLine yX12_readLine ∈ gw := gw_of (pv_of 46 (by decide +kernel)) (by decide +kernel)
