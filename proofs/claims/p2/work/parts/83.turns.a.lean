theorem dX12_goesTurn_0 : decode cX12_goesTurn 0 = .ok (.iload_n 2, 1) := by decide +kernel
theorem dX12_goesTurn_1 : decode cX12_goesTurn 1 = .ok (.ifCond .ne 47, 3) := by decide +kernel
theorem dX12_goesTurn_4 : decode cX12_goesTurn 4 = .ok (.iload_n 3, 1) := by decide +kernel
theorem dX12_goesTurn_5 : decode cX12_goesTurn 5 = .ok (.aload_n 0, 1) := by decide +kernel
theorem dX12_goesTurn_6 : decode cX12_goesTurn 6 = .ok (.getfield 387, 3) := by decide +kernel
theorem dX12_goesTurn_9 : decode cX12_goesTurn 9 = .ok (.if_icmp .gt 4, 3) := by decide +kernel
theorem dX12_goesTurn_12 : decode cX12_goesTurn 12 = .ok (.return_, 1) := by decide +kernel
theorem dX12_goesTurn_13 : decode cX12_goesTurn 13 = .ok (.aload_n 0, 1) := by decide +kernel
theorem dX12_goesTurn_14 : decode cX12_goesTurn 14 = .ok (.iload_n 3, 1) := by decide +kernel
theorem dX12_goesTurn_15 : decode cX12_goesTurn 15 = .ok (.putfield 387, 3) := by decide +kernel
theorem dX12_goesTurn_18 : decode cX12_goesTurn 18 = .ok (.iconst 0, 1) := by decide +kernel
theorem dX12_goesTurn_19 : decode cX12_goesTurn 19 = .ok (.istore 4, 2) := by decide +kernel
theorem dX12_goesTurn_21 : decode cX12_goesTurn 21 = .ok (.iload 4, 2) := by decide +kernel
theorem dX12_goesTurn_23 : decode cX12_goesTurn 23 = .ok (.iload_n 1, 1) := by decide +kernel
theorem dX12_goesTurn_24 : decode cX12_goesTurn 24 = .ok (.if_icmp .ge 23, 3) := by decide +kernel
theorem dX12_goesTurn_27 : decode cX12_goesTurn 27 = .ok (.aload_n 0, 1) := by decide +kernel
theorem dX12_goesTurn_28 : decode cX12_goesTurn 28 = .ok (.getfield 63, 3) := by decide +kernel
theorem dX12_goesTurn_31 : decode cX12_goesTurn 31 = .ok (.iload 4, 2) := by decide +kernel
theorem dX12_goesTurn_33 : decode cX12_goesTurn 33 = .ok (.aload_n 0, 1) := by decide +kernel
theorem dX12_goesTurn_34 : decode cX12_goesTurn 34 = .ok (.getfield 60, 3) := by decide +kernel
theorem dX12_goesTurn_37 : decode cX12_goesTurn 37 = .ok (.iload 4, 2) := by decide +kernel
theorem dX12_goesTurn_39 : decode cX12_goesTurn 39 = .ok (.iaload, 1) := by decide +kernel
theorem dX12_goesTurn_40 : decode cX12_goesTurn 40 = .ok (.iastore, 1) := by decide +kernel
theorem dX12_goesTurn_41 : decode cX12_goesTurn 41 = .ok (.iinc 4 1, 3) := by decide +kernel
theorem dX12_goesTurn_44 : decode cX12_goesTurn 44 = .ok (.goto (-23), 3) := by decide +kernel
theorem dX12_goesTurn_47 : decode cX12_goesTurn 47 = .ok (.return_, 1) := by decide +kernel
theorem dX12_goesTurn_48 : decode cX12_goesTurn 48 = .ok (.iconst 0, 1) := by decide +kernel
theorem dX12_goesTurn_49 : decode cX12_goesTurn 49 = .ok (.istore 4, 2) := by decide +kernel
theorem dX12_goesTurn_51 : decode cX12_goesTurn 51 = .ok (.iload 4, 2) := by decide +kernel
theorem dX12_goesTurn_53 : decode cX12_goesTurn 53 = .ok (.bipush 31, 2) := by decide +kernel
theorem dX12_goesTurn_55 : decode cX12_goesTurn 55 = .ok (.if_icmp .ge 31, 3) := by decide +kernel
theorem dX12_goesTurn_58 : decode cX12_goesTurn 58 = .ok (.aload_n 0, 1) := by decide +kernel
theorem dX12_goesTurn_59 : decode cX12_goesTurn 59 = .ok (.getfield 66, 3) := by decide +kernel
theorem dX12_goesTurn_62 : decode cX12_goesTurn 62 = .ok (.bipush 31, 2) := by decide +kernel
theorem dX12_goesTurn_64 : decode cX12_goesTurn 64 = .ok (.iload_n 1, 1) := by decide +kernel
theorem dX12_goesTurn_65 : decode cX12_goesTurn 65 = .ok (.imul, 1) := by decide +kernel
theorem dX12_goesTurn_66 : decode cX12_goesTurn 66 = .ok (.iload 4, 2) := by decide +kernel
theorem dX12_goesTurn_68 : decode cX12_goesTurn 68 = .ok (.iadd, 1) := by decide +kernel
theorem dX12_goesTurn_69 : decode cX12_goesTurn 69 = .ok (.aload_n 0, 1) := by decide +kernel
theorem dX12_goesTurn_70 : decode cX12_goesTurn 70 = .ok (.getfield 13, 3) := by decide +kernel
theorem dX12_goesTurn_73 : decode cX12_goesTurn 73 = .ok (.bipush 59, 2) := by decide +kernel
theorem dX12_goesTurn_75 : decode cX12_goesTurn 75 = .ok (.iload 4, 2) := by decide +kernel
theorem dX12_goesTurn_77 : decode cX12_goesTurn 77 = .ok (.iadd, 1) := by decide +kernel
theorem dX12_goesTurn_78 : decode cX12_goesTurn 78 = .ok (.iaload, 1) := by decide +kernel
theorem dX12_goesTurn_79 : decode cX12_goesTurn 79 = .ok (.iastore, 1) := by decide +kernel
theorem dX12_goesTurn_80 : decode cX12_goesTurn 80 = .ok (.iinc 4 1, 3) := by decide +kernel
theorem dX12_goesTurn_83 : decode cX12_goesTurn 83 = .ok (.goto (-32), 3) := by decide +kernel
theorem dX12_goesTurn_86 : decode cX12_goesTurn 86 = .ok (.iconst 0, 1) := by decide +kernel
theorem dX12_goesTurn_87 : decode cX12_goesTurn 87 = .ok (.istore 4, 2) := by decide +kernel
theorem dX12_goesTurn_89 : decode cX12_goesTurn 89 = .ok (.iload 4, 2) := by decide +kernel
theorem dX12_goesTurn_91 : decode cX12_goesTurn 91 = .ok (.aload_n 0, 1) := by decide +kernel
theorem dX12_goesTurn_92 : decode cX12_goesTurn 92 = .ok (.getfield 13, 3) := by decide +kernel
theorem dX12_goesTurn_95 : decode cX12_goesTurn 95 = .ok (.iconst 2, 1) := by decide +kernel
theorem dX12_goesTurn_96 : decode cX12_goesTurn 96 = .ok (.iaload, 1) := by decide +kernel
theorem dX12_goesTurn_97 : decode cX12_goesTurn 97 = .ok (.if_icmp .ge 115, 3) := by decide +kernel
theorem dX12_goesTurn_100 : decode cX12_goesTurn 100 = .ok (.iload_n 2, 1) := by decide +kernel
theorem dX12_goesTurn_101 : decode cX12_goesTurn 101 = .ok (.i2l, 1) := by decide +kernel
theorem dX12_goesTurn_102 : decode cX12_goesTurn 102 = .ok (.iload 4, 2) := by decide +kernel
theorem dX12_goesTurn_104 : decode cX12_goesTurn 104 = .ok (.invokestatic 186, 3) := by decide +kernel
theorem dX12_goesTurn_107 : decode cX12_goesTurn 107 = .ok (.ifCond .ne 6, 3) := by decide +kernel
theorem dX12_goesTurn_110 : decode cX12_goesTurn 110 = .ok (.goto 96, 3) := by decide +kernel
theorem dX12_goesTurn_113 : decode cX12_goesTurn 113 = .ok (.aload_n 0, 1) := by decide +kernel
theorem dX12_goesTurn_114 : decode cX12_goesTurn 114 = .ok (.getfield 60, 3) := by decide +kernel
theorem dX12_goesTurn_117 : decode cX12_goesTurn 117 = .ok (.iload_n 1, 1) := by decide +kernel
theorem dX12_goesTurn_118 : decode cX12_goesTurn 118 = .ok (.iload 4, 2) := by decide +kernel
theorem dX12_goesTurn_120 : decode cX12_goesTurn 120 = .ok (.iastore, 1) := by decide +kernel
theorem dX12_goesTurn_121 : decode cX12_goesTurn 121 = .ok (.aload_n 0, 1) := by decide +kernel
theorem dX12_goesTurn_122 : decode cX12_goesTurn 122 = .ok (.iload 4, 2) := by decide +kernel
theorem dX12_goesTurn_124 : decode cX12_goesTurn 124 = .ok (.invokevirtual 304, 3) := by decide +kernel
theorem dX12_goesTurn_127 : decode cX12_goesTurn 127 = .ok (.istore 5, 2) := by decide +kernel
theorem dX12_goesTurn_129 : decode cX12_goesTurn 129 = .ok (.iload 5, 2) := by decide +kernel
theorem dX12_goesTurn_131 : decode cX12_goesTurn 131 = .ok (.ifCond .eq 10, 3) := by decide +kernel
theorem dX12_goesTurn_134 : decode cX12_goesTurn 134 = .ok (.aload_n 0, 1) := by decide +kernel
theorem dX12_goesTurn_135 : decode cX12_goesTurn 135 = .ok (.iload 4, 2) := by decide +kernel
theorem dX12_goesTurn_137 : decode cX12_goesTurn 137 = .ok (.invokevirtual 298, 3) := by decide +kernel
theorem dX12_goesTurn_140 : decode cX12_goesTurn 140 = .ok (.pop, 1) := by decide +kernel
theorem dX12_goesTurn_141 : decode cX12_goesTurn 141 = .ok (.aload_n 0, 1) := by decide +kernel
theorem dX12_goesTurn_142 : decode cX12_goesTurn 142 = .ok (.iload_n 1, 1) := by decide +kernel
theorem dX12_goesTurn_143 : decode cX12_goesTurn 143 = .ok (.iconst 1, 1) := by decide +kernel
theorem dX12_goesTurn_144 : decode cX12_goesTurn 144 = .ok (.iadd, 1) := by decide +kernel
theorem dX12_goesTurn_145 : decode cX12_goesTurn 145 = .ok (.iload_n 2, 1) := by decide +kernel
theorem dX12_goesTurn_146 : decode cX12_goesTurn 146 = .ok (.iconst 1, 1) := by decide +kernel
theorem dX12_goesTurn_147 : decode cX12_goesTurn 147 = .ok (.iload 4, 2) := by decide +kernel
theorem dX12_goesTurn_149 : decode cX12_goesTurn 149 = .ok (.ishl, 1) := by decide +kernel
theorem dX12_goesTurn_150 : decode cX12_goesTurn 150 = .ok (.iconst (-1), 1) := by decide +kernel
theorem dX12_goesTurn_151 : decode cX12_goesTurn 151 = .ok (.ixor, 1) := by decide +kernel
theorem dX12_goesTurn_152 : decode cX12_goesTurn 152 = .ok (.iand, 1) := by decide +kernel
theorem dX12_goesTurn_153 : decode cX12_goesTurn 153 = .ok (.iload_n 3, 1) := by decide +kernel
theorem dX12_goesTurn_154 : decode cX12_goesTurn 154 = .ok (.iload 5, 2) := by decide +kernel
theorem dX12_goesTurn_156 : decode cX12_goesTurn 156 = .ok (.ifCond .eq 7, 3) := by decide +kernel
theorem dX12_goesTurn_159 : decode cX12_goesTurn 159 = .ok (.iconst 1, 1) := by decide +kernel
theorem dX12_goesTurn_160 : decode cX12_goesTurn 160 = .ok (.goto 4, 3) := by decide +kernel
theorem dX12_goesTurn_163 : decode cX12_goesTurn 163 = .ok (.iconst 0, 1) := by decide +kernel
theorem dX12_goesTurn_164 : decode cX12_goesTurn 164 = .ok (.iadd, 1) := by decide +kernel
theorem dX12_goesTurn_165 : decode cX12_goesTurn 165 = .ok (.invokevirtual 390, 3) := by decide +kernel
theorem dX12_goesTurn_168 : decode cX12_goesTurn 168 = .ok (.iconst 0, 1) := by decide +kernel
theorem dX12_goesTurn_169 : decode cX12_goesTurn 169 = .ok (.istore 6, 2) := by decide +kernel
theorem dX12_goesTurn_171 : decode cX12_goesTurn 171 = .ok (.iload 6, 2) := by decide +kernel
theorem dX12_goesTurn_173 : decode cX12_goesTurn 173 = .ok (.bipush 31, 2) := by decide +kernel
theorem dX12_goesTurn_175 : decode cX12_goesTurn 175 = .ok (.if_icmp .ge 31, 3) := by decide +kernel
theorem dX12_goesTurn_178 : decode cX12_goesTurn 178 = .ok (.aload_n 0, 1) := by decide +kernel
theorem dX12_goesTurn_179 : decode cX12_goesTurn 179 = .ok (.getfield 13, 3) := by decide +kernel
theorem dX12_goesTurn_182 : decode cX12_goesTurn 182 = .ok (.bipush 59, 2) := by decide +kernel
theorem dX12_goesTurn_184 : decode cX12_goesTurn 184 = .ok (.iload 6, 2) := by decide +kernel
theorem dX12_goesTurn_186 : decode cX12_goesTurn 186 = .ok (.iadd, 1) := by decide +kernel
theorem dX12_goesTurn_187 : decode cX12_goesTurn 187 = .ok (.aload_n 0, 1) := by decide +kernel
theorem dX12_goesTurn_188 : decode cX12_goesTurn 188 = .ok (.getfield 66, 3) := by decide +kernel
theorem dX12_goesTurn_191 : decode cX12_goesTurn 191 = .ok (.bipush 31, 2) := by decide +kernel
theorem dX12_goesTurn_193 : decode cX12_goesTurn 193 = .ok (.iload_n 1, 1) := by decide +kernel
theorem dX12_goesTurn_194 : decode cX12_goesTurn 194 = .ok (.imul, 1) := by decide +kernel
theorem dX12_goesTurn_195 : decode cX12_goesTurn 195 = .ok (.iload 6, 2) := by decide +kernel
theorem dX12_goesTurn_197 : decode cX12_goesTurn 197 = .ok (.iadd, 1) := by decide +kernel
theorem dX12_goesTurn_198 : decode cX12_goesTurn 198 = .ok (.iaload, 1) := by decide +kernel
theorem dX12_goesTurn_199 : decode cX12_goesTurn 199 = .ok (.iastore, 1) := by decide +kernel
theorem dX12_goesTurn_200 : decode cX12_goesTurn 200 = .ok (.iinc 6 1, 3) := by decide +kernel
theorem dX12_goesTurn_203 : decode cX12_goesTurn 203 = .ok (.goto (-32), 3) := by decide +kernel
theorem dX12_goesTurn_206 : decode cX12_goesTurn 206 = .ok (.iinc 4 1, 3) := by decide +kernel
theorem dX12_goesTurn_209 : decode cX12_goesTurn 209 = .ok (.goto (-120), 3) := by decide +kernel
theorem dX12_goesTurn_212 : decode cX12_goesTurn 212 = .ok (.return_, 1) := by decide +kernel
theorem dX12_inTurn_0 : decode cX12_inTurn 0 = .ok (.aload_n 0, 1) := by decide +kernel
theorem dX12_inTurn_1 : decode cX12_inTurn 1 = .ok (.iconst 0, 1) := by decide +kernel
theorem dX12_inTurn_2 : decode cX12_inTurn 2 = .ok (.putfield 1, 3) := by decide +kernel
theorem dX12_inTurn_5 : decode cX12_inTurn 5 = .ok (.iload_n 1, 1) := by decide +kernel
theorem dX12_inTurn_6 : decode cX12_inTurn 6 = .ok (.i2l, 1) := by decide +kernel
theorem dX12_inTurn_7 : decode cX12_inTurn 7 = .ok (.lconst 0, 1) := by decide +kernel
theorem dX12_inTurn_8 : decode cX12_inTurn 8 = .ok (.iconst 1, 1) := by decide +kernel
theorem dX12_inTurn_9 : decode cX12_inTurn 9 = .ok (.aload_n 0, 1) := by decide +kernel
theorem dX12_inTurn_10 : decode cX12_inTurn 10 = .ok (.getfield 13, 3) := by decide +kernel
theorem dX12_inTurn_13 : decode cX12_inTurn 13 = .ok (.iconst 2, 1) := by decide +kernel
theorem dX12_inTurn_14 : decode cX12_inTurn 14 = .ok (.iaload, 1) := by decide +kernel
theorem dX12_inTurn_15 : decode cX12_inTurn 15 = .ok (.ishl, 1) := by decide +kernel
theorem dX12_inTurn_16 : decode cX12_inTurn 16 = .ok (.iconst 1, 1) := by decide +kernel
theorem dX12_inTurn_17 : decode cX12_inTurn 17 = .ok (.isub, 1) := by decide +kernel
theorem dX12_inTurn_18 : decode cX12_inTurn 18 = .ok (.i2l, 1) := by decide +kernel
theorem dX12_inTurn_19 : decode cX12_inTurn 19 = .ok (.invokestatic 144, 3) := by decide +kernel
theorem dX12_inTurn_22 : decode cX12_inTurn 22 = .ok (.ifCond .ne 6, 3) := by decide +kernel
theorem dX12_inTurn_25 : decode cX12_inTurn 25 = .ok (.bipush (-3), 2) := by decide +kernel
theorem dX12_inTurn_27 : decode cX12_inTurn 27 = .ok (.ireturn, 1) := by decide +kernel
theorem dX12_inTurn_28 : decode cX12_inTurn 28 = .ok (.iload_n 2, 1) := by decide +kernel
theorem dX12_inTurn_29 : decode cX12_inTurn 29 = .ok (.ifCond .eq 20, 3) := by decide +kernel
theorem dX12_inTurn_32 : decode cX12_inTurn 32 = .ok (.iload_n 2, 1) := by decide +kernel
theorem dX12_inTurn_33 : decode cX12_inTurn 33 = .ok (.i2l, 1) := by decide +kernel
theorem dX12_inTurn_34 : decode cX12_inTurn 34 = .ok (.ldc2_w 318, 3) := by decide +kernel
theorem dX12_inTurn_37 : decode cX12_inTurn 37 = .ok (.ldc2_w 309, 3) := by decide +kernel
theorem dX12_inTurn_40 : decode cX12_inTurn 40 = .ok (.invokestatic 144, 3) := by decide +kernel
theorem dX12_inTurn_43 : decode cX12_inTurn 43 = .ok (.ifCond .ne 6, 3) := by decide +kernel
theorem dX12_inTurn_46 : decode cX12_inTurn 46 = .ok (.bipush (-2), 2) := by decide +kernel
theorem dX12_inTurn_48 : decode cX12_inTurn 48 = .ok (.ireturn, 1) := by decide +kernel
theorem dX12_inTurn_49 : decode cX12_inTurn 49 = .ok (.aload_n 0, 1) := by decide +kernel
theorem dX12_inTurn_50 : decode cX12_inTurn 50 = .ok (.iconst (-1), 1) := by decide +kernel
theorem dX12_inTurn_51 : decode cX12_inTurn 51 = .ok (.putfield 387, 3) := by decide +kernel
theorem dX12_inTurn_54 : decode cX12_inTurn 54 = .ok (.aload_n 0, 1) := by decide +kernel
theorem dX12_inTurn_55 : decode cX12_inTurn 55 = .ok (.iconst 0, 1) := by decide +kernel
theorem dX12_inTurn_56 : decode cX12_inTurn 56 = .ok (.iload_n 1, 1) := by decide +kernel
theorem dX12_inTurn_57 : decode cX12_inTurn 57 = .ok (.iconst 0, 1) := by decide +kernel
theorem dX12_inTurn_58 : decode cX12_inTurn 58 = .ok (.invokevirtual 390, 3) := by decide +kernel
theorem dX12_inTurn_61 : decode cX12_inTurn 61 = .ok (.iload_n 2, 1) := by decide +kernel
theorem dX12_inTurn_62 : decode cX12_inTurn 62 = .ok (.ifCond .ne 10, 3) := by decide +kernel
theorem dX12_inTurn_65 : decode cX12_inTurn 65 = .ok (.aload_n 0, 1) := by decide +kernel
theorem dX12_inTurn_66 : decode cX12_inTurn 66 = .ok (.getfield 387, 3) := by decide +kernel
theorem dX12_inTurn_69 : decode cX12_inTurn 69 = .ok (.goto 27, 3) := by decide +kernel
theorem dX12_inTurn_72 : decode cX12_inTurn 72 = .ok (.iload_n 2, 1) := by decide +kernel
theorem dX12_inTurn_73 : decode cX12_inTurn 73 = .ok (.bipush 10, 2) := by decide +kernel
theorem dX12_inTurn_75 : decode cX12_inTurn 75 = .ok (.isub, 1) := by decide +kernel
theorem dX12_inTurn_76 : decode cX12_inTurn 76 = .ok (.iload_n 1, 1) := by decide +kernel
theorem dX12_inTurn_77 : decode cX12_inTurn 77 = .ok (.invokestatic 334, 3) := by decide +kernel
theorem dX12_inTurn_80 : decode cX12_inTurn 80 = .ok (.if_icmp .ge 15, 3) := by decide +kernel
theorem dX12_inTurn_83 : decode cX12_inTurn 83 = .ok (.aload_n 0, 1) := by decide +kernel
theorem dX12_inTurn_84 : decode cX12_inTurn 84 = .ok (.getfield 63, 3) := by decide +kernel
theorem dX12_inTurn_87 : decode cX12_inTurn 87 = .ok (.iload_n 2, 1) := by decide +kernel
theorem dX12_inTurn_88 : decode cX12_inTurn 88 = .ok (.bipush 10, 2) := by decide +kernel
theorem dX12_inTurn_90 : decode cX12_inTurn 90 = .ok (.isub, 1) := by decide +kernel
theorem dX12_inTurn_91 : decode cX12_inTurn 91 = .ok (.iaload, 1) := by decide +kernel
theorem dX12_inTurn_92 : decode cX12_inTurn 92 = .ok (.goto 4, 3) := by decide +kernel
theorem dX12_inTurn_95 : decode cX12_inTurn 95 = .ok (.iconst (-1), 1) := by decide +kernel
theorem dX12_inTurn_96 : decode cX12_inTurn 96 = .ok (.ireturn, 1) := by decide +kernel
theorem kw_1252 : Cond.fieldLink "FootholdWallModel" 60 "FootholdWallModel" "turnsOf" "[I" ∈ gw := gw_of (tb_of 1252 (by decide +kernel)) (by decide +kernel)
theorem kw_1253 : Cond.fieldLink "FootholdWallModel" 63 "FootholdWallModel" "bestTurn" "[I" ∈ gw := gw_of (tb_of 1253 (by decide +kernel)) (by decide +kernel)
theorem kw_1254 : Cond.fieldLink "FootholdWallModel" 66 "FootholdWallModel" "levels" "[I" ∈ gw := gw_of (tb_of 1254 (by decide +kernel)) (by decide +kernel)
theorem kw_1255 : Cond.fieldLink "FootholdWallModel" 387 "FootholdWallModel" "bestGot" "I" ∈ gw := gw_of (tb_of 1255 (by decide +kernel)) (by decide +kernel)
theorem kw_1756 : Cond.methodLink "FootholdWallModel" 390 yX12_goesTurn ∈ gw := gw_of (tb_of 1756 (by decide +kernel)) (by decide +kernel)
theorem kw_1758 : Cond.instanceMethod yX12_goesTurn ∈ gw := gw_of (tb_of 1758 (by decide +kernel)) (by decide +kernel)
theorem kw_1759 : Cond.code yX12_goesTurn cX12_goesTurn 7 none ∈ gw := gw_of (tb_of 1759 (by decide +kernel)) (by decide +kernel)
theorem ks_103 : Cond.selects RX12 yX12_goesTurn yX12_goesTurn ∈ gw := gw_of (pv_of 103 (by decide +kernel)) (by decide +kernel)
