theorem dX2_holds_0 : decode cX2_holds 0 = .ok (.iconst 0, 1) := by decide +kernel
theorem dX2_holds_1 : decode cX2_holds 1 = .ok (.istore_n 1, 1) := by decide +kernel
theorem dX2_holds_2 : decode cX2_holds 2 = .ok (.iconst 0, 1) := by decide +kernel
theorem dX2_holds_3 : decode cX2_holds 3 = .ok (.istore_n 2, 1) := by decide +kernel
theorem dX2_holds_4 : decode cX2_holds 4 = .ok (.iload_n 2, 1) := by decide +kernel
theorem dX2_holds_5 : decode cX2_holds 5 = .ok (.aload_n 0, 1) := by decide +kernel
theorem dX2_holds_6 : decode cX2_holds 6 = .ok (.getfield 16, 3) := by decide +kernel
theorem dX2_holds_9 : decode cX2_holds 9 = .ok (.arraylength, 1) := by decide +kernel
theorem dX2_holds_10 : decode cX2_holds 10 = .ok (.if_icmp .ge 196, 3) := by decide +kernel
theorem dX2_holds_13 : decode cX2_holds 13 = .ok (.aload_n 0, 1) := by decide +kernel
theorem dX2_holds_14 : decode cX2_holds 14 = .ok (.getfield 16, 3) := by decide +kernel
theorem dX2_holds_17 : decode cX2_holds 17 = .ok (.iload_n 2, 1) := by decide +kernel
theorem dX2_holds_18 : decode cX2_holds 18 = .ok (.iaload, 1) := by decide +kernel
theorem dX2_holds_19 : decode cX2_holds 19 = .ok (.bipush 15, 2) := by decide +kernel
theorem dX2_holds_21 : decode cX2_holds 21 = .ok (.iand, 1) := by decide +kernel
theorem dX2_holds_22 : decode cX2_holds 22 = .ok (.istore_n 3, 1) := by decide +kernel
theorem dX2_holds_23 : decode cX2_holds 23 = .ok (.aload_n 0, 1) := by decide +kernel
theorem dX2_holds_24 : decode cX2_holds 24 = .ok (.getfield 16, 3) := by decide +kernel
theorem dX2_holds_27 : decode cX2_holds 27 = .ok (.iload_n 2, 1) := by decide +kernel
theorem dX2_holds_28 : decode cX2_holds 28 = .ok (.iaload, 1) := by decide +kernel
theorem dX2_holds_29 : decode cX2_holds 29 = .ok (.iconst 4, 1) := by decide +kernel
theorem dX2_holds_30 : decode cX2_holds 30 = .ok (.ishr, 1) := by decide +kernel
theorem dX2_holds_31 : decode cX2_holds 31 = .ok (.istore 4, 2) := by decide +kernel
theorem dX2_holds_33 : decode cX2_holds 33 = .ok (.iload_n 3, 1) := by decide +kernel
theorem dX2_holds_34 : decode cX2_holds 34 = .ok (.iconst 1, 1) := by decide +kernel
theorem dX2_holds_35 : decode cX2_holds 35 = .ok (.if_icmp .gt 42, 3) := by decide +kernel
theorem dX2_holds_38 : decode cX2_holds 38 = .ok (.iload_n 1, 1) := by decide +kernel
theorem dX2_holds_39 : decode cX2_holds 39 = .ok (.bipush 24, 2) := by decide +kernel
theorem dX2_holds_41 : decode cX2_holds 41 = .ok (.if_icmp .lt 5, 3) := by decide +kernel
theorem dX2_holds_44 : decode cX2_holds 44 = .ok (.iconst 0, 1) := by decide +kernel
theorem dX2_holds_45 : decode cX2_holds 45 = .ok (.ireturn, 1) := by decide +kernel
theorem dX2_holds_46 : decode cX2_holds 46 = .ok (.aload_n 0, 1) := by decide +kernel
theorem dX2_holds_47 : decode cX2_holds 47 = .ok (.getfield 13, 3) := by decide +kernel
theorem dX2_holds_50 : decode cX2_holds 50 = .ok (.iload_n 1, 1) := by decide +kernel
theorem dX2_holds_51 : decode cX2_holds 51 = .ok (.iload_n 3, 1) := by decide +kernel
theorem dX2_holds_52 : decode cX2_holds 52 = .ok (.ifCond .ne 8, 3) := by decide +kernel
theorem dX2_holds_55 : decode cX2_holds 55 = .ok (.iload 4, 2) := by decide +kernel
theorem dX2_holds_57 : decode cX2_holds 57 = .ok (.goto 13, 3) := by decide +kernel
theorem dX2_holds_60 : decode cX2_holds 60 = .ok (.aload_n 0, 1) := by decide +kernel
theorem dX2_holds_61 : decode cX2_holds 61 = .ok (.getfield 9, 3) := by decide +kernel
theorem dX2_holds_64 : decode cX2_holds 64 = .ok (.iload 4, 2) := by decide +kernel
theorem dX2_holds_66 : decode cX2_holds 66 = .ok (.bipush 7, 2) := by decide +kernel
theorem dX2_holds_68 : decode cX2_holds 68 = .ok (.iand, 1) := by decide +kernel
theorem dX2_holds_69 : decode cX2_holds 69 = .ok (.iaload, 1) := by decide +kernel
theorem dX2_holds_70 : decode cX2_holds 70 = .ok (.iastore, 1) := by decide +kernel
theorem dX2_holds_71 : decode cX2_holds 71 = .ok (.iinc 1 1, 3) := by decide +kernel
theorem dX2_holds_74 : decode cX2_holds 74 = .ok (.goto 126, 3) := by decide +kernel
theorem dX2_holds_77 : decode cX2_holds 77 = .ok (.iload_n 1, 1) := by decide +kernel
theorem dX2_holds_78 : decode cX2_holds 78 = .ok (.iload_n 3, 1) := by decide +kernel
theorem dX2_holds_79 : decode cX2_holds 79 = .ok (.iconst 4, 1) := by decide +kernel
theorem dX2_holds_80 : decode cX2_holds 80 = .ok (.if_icmp .gt 7, 3) := by decide +kernel
theorem dX2_holds_83 : decode cX2_holds 83 = .ok (.iconst 1, 1) := by decide +kernel
theorem dX2_holds_84 : decode cX2_holds 84 = .ok (.goto 4, 3) := by decide +kernel
theorem dX2_holds_87 : decode cX2_holds 87 = .ok (.iconst 2, 1) := by decide +kernel
theorem dX2_holds_88 : decode cX2_holds 88 = .ok (.if_icmp .ge 5, 3) := by decide +kernel
theorem dX2_holds_91 : decode cX2_holds 91 = .ok (.iconst 0, 1) := by decide +kernel
theorem dX2_holds_92 : decode cX2_holds 92 = .ok (.ireturn, 1) := by decide +kernel
theorem dX2_holds_93 : decode cX2_holds 93 = .ok (.iload_n 3, 1) := by decide +kernel
theorem dX2_holds_94 : decode cX2_holds 94 = .ok (.iconst 4, 1) := by decide +kernel
theorem dX2_holds_95 : decode cX2_holds 95 = .ok (.if_icmp .le 35, 3) := by decide +kernel
theorem dX2_holds_98 : decode cX2_holds 98 = .ok (.iinc 1 (-1), 3) := by decide +kernel
theorem dX2_holds_101 : decode cX2_holds 101 = .ok (.aload_n 0, 1) := by decide +kernel
theorem dX2_holds_102 : decode cX2_holds 102 = .ok (.getfield 13, 3) := by decide +kernel
theorem dX2_holds_105 : decode cX2_holds 105 = .ok (.iload_n 1, 1) := by decide +kernel
theorem dX2_holds_106 : decode cX2_holds 106 = .ok (.iconst 1, 1) := by decide +kernel
theorem dX2_holds_107 : decode cX2_holds 107 = .ok (.isub, 1) := by decide +kernel
theorem dX2_holds_108 : decode cX2_holds 108 = .ok (.iload_n 3, 1) := by decide +kernel
theorem dX2_holds_109 : decode cX2_holds 109 = .ok (.aload_n 0, 1) := by decide +kernel
theorem dX2_holds_110 : decode cX2_holds 110 = .ok (.getfield 13, 3) := by decide +kernel
theorem dX2_holds_113 : decode cX2_holds 113 = .ok (.iload_n 1, 1) := by decide +kernel
theorem dX2_holds_114 : decode cX2_holds 114 = .ok (.iconst 1, 1) := by decide +kernel
theorem dX2_holds_115 : decode cX2_holds 115 = .ok (.isub, 1) := by decide +kernel
theorem dX2_holds_116 : decode cX2_holds 116 = .ok (.iaload, 1) := by decide +kernel
theorem dX2_holds_117 : decode cX2_holds 117 = .ok (.aload_n 0, 1) := by decide +kernel
theorem dX2_holds_118 : decode cX2_holds 118 = .ok (.getfield 13, 3) := by decide +kernel
theorem dX2_holds_121 : decode cX2_holds 121 = .ok (.iload_n 1, 1) := by decide +kernel
theorem dX2_holds_122 : decode cX2_holds 122 = .ok (.iaload, 1) := by decide +kernel
theorem dX2_holds_123 : decode cX2_holds 123 = .ok (.invokestatic 19, 3) := by decide +kernel
theorem dX2_holds_126 : decode cX2_holds 126 = .ok (.iastore, 1) := by decide +kernel
theorem dX2_holds_127 : decode cX2_holds 127 = .ok (.goto 73, 3) := by decide +kernel
theorem dX2_holds_130 : decode cX2_holds 130 = .ok (.iload_n 3, 1) := by decide +kernel
theorem dX2_holds_131 : decode cX2_holds 131 = .ok (.iconst 2, 1) := by decide +kernel
theorem dX2_holds_132 : decode cX2_holds 132 = .ok (.if_icmp .ne 24, 3) := by decide +kernel
theorem dX2_holds_135 : decode cX2_holds 135 = .ok (.aload_n 0, 1) := by decide +kernel
theorem dX2_holds_136 : decode cX2_holds 136 = .ok (.getfield 13, 3) := by decide +kernel
theorem dX2_holds_139 : decode cX2_holds 139 = .ok (.iload_n 1, 1) := by decide +kernel
theorem dX2_holds_140 : decode cX2_holds 140 = .ok (.iconst 1, 1) := by decide +kernel
theorem dX2_holds_141 : decode cX2_holds 141 = .ok (.isub, 1) := by decide +kernel
theorem dX2_holds_142 : decode cX2_holds 142 = .ok (.iconst 1, 1) := by decide +kernel
theorem dX2_holds_143 : decode cX2_holds 143 = .ok (.aload_n 0, 1) := by decide +kernel
theorem dX2_holds_144 : decode cX2_holds 144 = .ok (.getfield 13, 3) := by decide +kernel
theorem dX2_holds_147 : decode cX2_holds 147 = .ok (.iload_n 1, 1) := by decide +kernel
theorem dX2_holds_148 : decode cX2_holds 148 = .ok (.iconst 1, 1) := by decide +kernel
theorem dX2_holds_149 : decode cX2_holds 149 = .ok (.isub, 1) := by decide +kernel
theorem dX2_holds_150 : decode cX2_holds 150 = .ok (.iaload, 1) := by decide +kernel
theorem dX2_holds_151 : decode cX2_holds 151 = .ok (.isub, 1) := by decide +kernel
theorem dX2_holds_152 : decode cX2_holds 152 = .ok (.iastore, 1) := by decide +kernel
theorem dX2_holds_153 : decode cX2_holds 153 = .ok (.goto 47, 3) := by decide +kernel
theorem dX2_holds_156 : decode cX2_holds 156 = .ok (.aload_n 0, 1) := by decide +kernel
theorem dX2_holds_157 : decode cX2_holds 157 = .ok (.getfield 13, 3) := by decide +kernel
theorem dX2_holds_160 : decode cX2_holds 160 = .ok (.iload_n 1, 1) := by decide +kernel
theorem dX2_holds_161 : decode cX2_holds 161 = .ok (.iconst 1, 1) := by decide +kernel
theorem dX2_holds_162 : decode cX2_holds 162 = .ok (.isub, 1) := by decide +kernel
theorem dX2_holds_163 : decode cX2_holds 163 = .ok (.iaload, 1) := by decide +kernel
theorem dX2_holds_164 : decode cX2_holds 164 = .ok (.ifCond .eq 7, 3) := by decide +kernel
theorem dX2_holds_167 : decode cX2_holds 167 = .ok (.iconst 1, 1) := by decide +kernel
theorem dX2_holds_168 : decode cX2_holds 168 = .ok (.goto 4, 3) := by decide +kernel
theorem dX2_holds_171 : decode cX2_holds 171 = .ok (.iconst 0, 1) := by decide +kernel
theorem dX2_holds_172 : decode cX2_holds 172 = .ok (.iload_n 3, 1) := by decide +kernel
theorem dX2_holds_173 : decode cX2_holds 173 = .ok (.iconst 4, 1) := by decide +kernel
theorem dX2_holds_174 : decode cX2_holds 174 = .ok (.if_icmp .ne 7, 3) := by decide +kernel
theorem dX2_holds_177 : decode cX2_holds 177 = .ok (.iconst 1, 1) := by decide +kernel
theorem dX2_holds_178 : decode cX2_holds 178 = .ok (.goto 4, 3) := by decide +kernel
theorem dX2_holds_181 : decode cX2_holds 181 = .ok (.iconst 0, 1) := by decide +kernel
theorem dX2_holds_182 : decode cX2_holds 182 = .ok (.if_icmp .ne 15, 3) := by decide +kernel
theorem dX2_holds_185 : decode cX2_holds 185 = .ok (.iload_n 2, 1) := by decide +kernel
theorem dX2_holds_186 : decode cX2_holds 186 = .ok (.iload 4, 2) := by decide +kernel
theorem dX2_holds_188 : decode cX2_holds 188 = .ok (.iconst 1, 1) := by decide +kernel
theorem dX2_holds_189 : decode cX2_holds 189 = .ok (.isub, 1) := by decide +kernel
theorem dX2_holds_190 : decode cX2_holds 190 = .ok (.invokestatic 23, 3) := by decide +kernel
theorem dX2_holds_193 : decode cX2_holds 193 = .ok (.istore_n 2, 1) := by decide +kernel
theorem dX2_holds_194 : decode cX2_holds 194 = .ok (.goto 6, 3) := by decide +kernel
theorem dX2_holds_197 : decode cX2_holds 197 = .ok (.iinc 1 (-1), 3) := by decide +kernel
theorem dX2_holds_200 : decode cX2_holds 200 = .ok (.iinc 2 1, 3) := by decide +kernel
theorem dX2_holds_203 : decode cX2_holds 203 = .ok (.goto (-199), 3) := by decide +kernel
theorem dX2_holds_206 : decode cX2_holds 206 = .ok (.iload_n 1, 1) := by decide +kernel
theorem dX2_holds_207 : decode cX2_holds 207 = .ok (.ifCond .le 18, 3) := by decide +kernel
theorem dX2_holds_210 : decode cX2_holds 210 = .ok (.aload_n 0, 1) := by decide +kernel
theorem dX2_holds_211 : decode cX2_holds 211 = .ok (.getfield 13, 3) := by decide +kernel
theorem dX2_holds_214 : decode cX2_holds 214 = .ok (.iload_n 1, 1) := by decide +kernel
theorem dX2_holds_215 : decode cX2_holds 215 = .ok (.iconst 1, 1) := by decide +kernel
theorem dX2_holds_216 : decode cX2_holds 216 = .ok (.isub, 1) := by decide +kernel
theorem dX2_holds_217 : decode cX2_holds 217 = .ok (.iaload, 1) := by decide +kernel
theorem dX2_holds_218 : decode cX2_holds 218 = .ok (.ifCond .eq 7, 3) := by decide +kernel
theorem dX2_holds_221 : decode cX2_holds 221 = .ok (.iconst 1, 1) := by decide +kernel
theorem dX2_holds_222 : decode cX2_holds 222 = .ok (.goto 4, 3) := by decide +kernel
theorem dX2_holds_225 : decode cX2_holds 225 = .ok (.iconst 0, 1) := by decide +kernel
theorem dX2_holds_226 : decode cX2_holds 226 = .ok (.ireturn, 1) := by decide +kernel
theorem kw_6 : Cond.initialized "java/lang/Math" ∈ gw := gw_of (tb_of 6 (by decide +kernel)) (by decide +kernel)
theorem kw_21 : Cond.initialized "FootholdWall$Law" ∈ gw := gw_of (tb_of 21 (by decide +kernel)) (by decide +kernel)
theorem kw_100 : Cond.static Lib.Math.max.name ∈ gw := gw_of (tb_of 100 (by decide +kernel)) (by decide +kernel)
theorem kw_101 : Cond.code Lib.Math.max.name Lib.Math.max.code 2 (some .int) ∈ gw := gw_of (tb_of 101 (by decide +kernel)) (by decide +kernel)
theorem kw_740 : Cond.fieldLink "FootholdWall$Law" 9 "FootholdWall$Law" "facts" "[I" ∈ gw := gw_of (tb_of 740 (by decide +kernel)) (by decide +kernel)
theorem kw_742 : Cond.fieldLink "FootholdWall$Law" 13 "FootholdWall$Law" "stack" "[I" ∈ gw := gw_of (tb_of 742 (by decide +kernel)) (by decide +kernel)
theorem kw_818 : Cond.methodLink "FootholdWall$Law" 19 yX2_joined ∈ gw := gw_of (tb_of 818 (by decide +kernel)) (by decide +kernel)
theorem kw_819 : Cond.static yX2_joined ∈ gw := gw_of (tb_of 819 (by decide +kernel)) (by decide +kernel)
theorem kw_820 : Cond.code yX2_joined cX2_joined 5 (some (.int)) ∈ gw := gw_of (tb_of 820 (by decide +kernel)) (by decide +kernel)
theorem kw_825 : Cond.methodLink "FootholdWall$Law" 23 Lib.Math.max.name ∈ gw := gw_of (tb_of 825 (by decide +kernel)) (by decide +kernel)
