theorem dX12_mayStep_0 : decode cX12_mayStep 0 = .ok (.aload_n 0, 1) := by decide +kernel
theorem dX12_mayStep_1 : decode cX12_mayStep 1 = .ok (.getfield 13, 3) := by decide +kernel
theorem dX12_mayStep_4 : decode cX12_mayStep 4 = .ok (.iconst 3, 1) := by decide +kernel
theorem dX12_mayStep_5 : decode cX12_mayStep 5 = .ok (.iaload, 1) := by decide +kernel
theorem dX12_mayStep_6 : decode cX12_mayStep 6 = .ok (.ifCond .ne 24, 3) := by decide +kernel
theorem dX12_mayStep_9 : decode cX12_mayStep 9 = .ok (.aload_n 0, 1) := by decide +kernel
theorem dX12_mayStep_10 : decode cX12_mayStep 10 = .ok (.iconst 2, 1) := by decide +kernel
theorem dX12_mayStep_11 : decode cX12_mayStep 11 = .ok (.iload_n 1, 1) := by decide +kernel
theorem dX12_mayStep_12 : decode cX12_mayStep 12 = .ok (.iload_n 2, 1) := by decide +kernel
theorem dX12_mayStep_13 : decode cX12_mayStep 13 = .ok (.iload_n 3, 1) := by decide +kernel
theorem dX12_mayStep_14 : decode cX12_mayStep 14 = .ok (.invokevirtual 238, 3) := by decide +kernel
theorem dX12_mayStep_17 : decode cX12_mayStep 17 = .ok (.aload_n 0, 1) := by decide +kernel
theorem dX12_mayStep_18 : decode cX12_mayStep 18 = .ok (.getfield 231, 3) := by decide +kernel
theorem dX12_mayStep_21 : decode cX12_mayStep 21 = .ok (.if_icmp .gt 7, 3) := by decide +kernel
theorem dX12_mayStep_24 : decode cX12_mayStep 24 = .ok (.iconst 1, 1) := by decide +kernel
theorem dX12_mayStep_25 : decode cX12_mayStep 25 = .ok (.goto 4, 3) := by decide +kernel
theorem dX12_mayStep_28 : decode cX12_mayStep 28 = .ok (.iconst 0, 1) := by decide +kernel
theorem dX12_mayStep_29 : decode cX12_mayStep 29 = .ok (.ireturn, 1) := by decide +kernel
theorem dX12_mayStep_30 : decode cX12_mayStep 30 = .ok (.iconst 0, 1) := by decide +kernel
theorem dX12_mayStep_31 : decode cX12_mayStep 31 = .ok (.istore 4, 2) := by decide +kernel
theorem dX12_mayStep_33 : decode cX12_mayStep 33 = .ok (.iconst 0, 1) := by decide +kernel
theorem dX12_mayStep_34 : decode cX12_mayStep 34 = .ok (.istore 5, 2) := by decide +kernel
theorem dX12_mayStep_36 : decode cX12_mayStep 36 = .ok (.iload 5, 2) := by decide +kernel
theorem dX12_mayStep_38 : decode cX12_mayStep 38 = .ok (.aload_n 0, 1) := by decide +kernel
theorem dX12_mayStep_39 : decode cX12_mayStep 39 = .ok (.getfield 13, 3) := by decide +kernel
theorem dX12_mayStep_42 : decode cX12_mayStep 42 = .ok (.sipush 401, 3) := by decide +kernel
theorem dX12_mayStep_45 : decode cX12_mayStep 45 = .ok (.iaload, 1) := by decide +kernel
theorem dX12_mayStep_46 : decode cX12_mayStep 46 = .ok (.if_icmp .ge 133, 3) := by decide +kernel
theorem dX12_mayStep_49 : decode cX12_mayStep 49 = .ok (.aload_n 0, 1) := by decide +kernel
theorem dX12_mayStep_50 : decode cX12_mayStep 50 = .ok (.getfield 13, 3) := by decide +kernel
theorem dX12_mayStep_53 : decode cX12_mayStep 53 = .ok (.sipush 402, 3) := by decide +kernel
theorem dX12_mayStep_56 : decode cX12_mayStep 56 = .ok (.iload 5, 2) := by decide +kernel
theorem dX12_mayStep_58 : decode cX12_mayStep 58 = .ok (.iadd, 1) := by decide +kernel
theorem dX12_mayStep_59 : decode cX12_mayStep 59 = .ok (.iaload, 1) := by decide +kernel
theorem dX12_mayStep_60 : decode cX12_mayStep 60 = .ok (.istore 6, 2) := by decide +kernel
theorem dX12_mayStep_62 : decode cX12_mayStep 62 = .ok (.iload 6, 2) := by decide +kernel
theorem dX12_mayStep_64 : decode cX12_mayStep 64 = .ok (.sipush 3000, 3) := by decide +kernel
theorem dX12_mayStep_67 : decode cX12_mayStep 67 = .ok (.if_icmp .ge 42, 3) := by decide +kernel
theorem dX12_mayStep_70 : decode cX12_mayStep 70 = .ok (.aload_n 0, 1) := by decide +kernel
theorem dX12_mayStep_71 : decode cX12_mayStep 71 = .ok (.getfield 30, 3) := by decide +kernel
theorem dX12_mayStep_74 : decode cX12_mayStep 74 = .ok (.iload 4, 2) := by decide +kernel
theorem dX12_mayStep_76 : decode cX12_mayStep 76 = .ok (.iload 6, 2) := by decide +kernel
theorem dX12_mayStep_78 : decode cX12_mayStep 78 = .ok (.sipush 1000, 3) := by decide +kernel
theorem dX12_mayStep_81 : decode cX12_mayStep 81 = .ok (.if_icmp .ge 8, 3) := by decide +kernel
theorem dX12_mayStep_84 : decode cX12_mayStep 84 = .ok (.iload 6, 2) := by decide +kernel
theorem dX12_mayStep_86 : decode cX12_mayStep 86 = .ok (.goto 16, 3) := by decide +kernel
theorem dX12_mayStep_89 : decode cX12_mayStep 89 = .ok (.aload_n 0, 1) := by decide +kernel
theorem dX12_mayStep_90 : decode cX12_mayStep 90 = .ok (.iload 6, 2) := by decide +kernel
theorem dX12_mayStep_92 : decode cX12_mayStep 92 = .ok (.sipush 1000, 3) := by decide +kernel
theorem dX12_mayStep_95 : decode cX12_mayStep 95 = .ok (.isub, 1) := by decide +kernel
theorem dX12_mayStep_96 : decode cX12_mayStep 96 = .ok (.iload_n 1, 1) := by decide +kernel
theorem dX12_mayStep_97 : decode cX12_mayStep 97 = .ok (.iload_n 2, 1) := by decide +kernel
theorem dX12_mayStep_98 : decode cX12_mayStep 98 = .ok (.iload_n 3, 1) := by decide +kernel
theorem dX12_mayStep_99 : decode cX12_mayStep 99 = .ok (.invokevirtual 238, 3) := by decide +kernel
theorem dX12_mayStep_102 : decode cX12_mayStep 102 = .ok (.iastore, 1) := by decide +kernel
theorem dX12_mayStep_103 : decode cX12_mayStep 103 = .ok (.iinc 4 1, 3) := by decide +kernel
theorem dX12_mayStep_106 : decode cX12_mayStep 106 = .ok (.goto 67, 3) := by decide +kernel
theorem dX12_mayStep_109 : decode cX12_mayStep 109 = .ok (.iload 6, 2) := by decide +kernel
theorem dX12_mayStep_111 : decode cX12_mayStep 111 = .ok (.sipush 3008, 3) := by decide +kernel
theorem dX12_mayStep_114 : decode cX12_mayStep 114 = .ok (.if_icmp .ne 26, 3) := by decide +kernel
theorem dX12_mayStep_117 : decode cX12_mayStep 117 = .ok (.aload_n 0, 1) := by decide +kernel
theorem dX12_mayStep_118 : decode cX12_mayStep 118 = .ok (.getfield 30, 3) := by decide +kernel
theorem dX12_mayStep_121 : decode cX12_mayStep 121 = .ok (.iload 4, 2) := by decide +kernel
theorem dX12_mayStep_123 : decode cX12_mayStep 123 = .ok (.iconst 1, 1) := by decide +kernel
theorem dX12_mayStep_124 : decode cX12_mayStep 124 = .ok (.isub, 1) := by decide +kernel
theorem dX12_mayStep_125 : decode cX12_mayStep 125 = .ok (.iconst 1, 1) := by decide +kernel
theorem dX12_mayStep_126 : decode cX12_mayStep 126 = .ok (.aload_n 0, 1) := by decide +kernel
theorem dX12_mayStep_127 : decode cX12_mayStep 127 = .ok (.getfield 30, 3) := by decide +kernel
theorem dX12_mayStep_130 : decode cX12_mayStep 130 = .ok (.iload 4, 2) := by decide +kernel
theorem dX12_mayStep_132 : decode cX12_mayStep 132 = .ok (.iconst 1, 1) := by decide +kernel
theorem dX12_mayStep_133 : decode cX12_mayStep 133 = .ok (.isub, 1) := by decide +kernel
theorem dX12_mayStep_134 : decode cX12_mayStep 134 = .ok (.iaload, 1) := by decide +kernel
theorem dX12_mayStep_135 : decode cX12_mayStep 135 = .ok (.isub, 1) := by decide +kernel
theorem dX12_mayStep_136 : decode cX12_mayStep 136 = .ok (.iastore, 1) := by decide +kernel
theorem dX12_mayStep_137 : decode cX12_mayStep 137 = .ok (.goto 36, 3) := by decide +kernel
theorem dX12_mayStep_140 : decode cX12_mayStep 140 = .ok (.iinc 4 (-1), 3) := by decide +kernel
theorem dX12_mayStep_143 : decode cX12_mayStep 143 = .ok (.aload_n 0, 1) := by decide +kernel
theorem dX12_mayStep_144 : decode cX12_mayStep 144 = .ok (.getfield 30, 3) := by decide +kernel
theorem dX12_mayStep_147 : decode cX12_mayStep 147 = .ok (.iload 4, 2) := by decide +kernel
theorem dX12_mayStep_149 : decode cX12_mayStep 149 = .ok (.iconst 1, 1) := by decide +kernel
theorem dX12_mayStep_150 : decode cX12_mayStep 150 = .ok (.isub, 1) := by decide +kernel
theorem dX12_mayStep_151 : decode cX12_mayStep 151 = .ok (.iload 6, 2) := by decide +kernel
theorem dX12_mayStep_153 : decode cX12_mayStep 153 = .ok (.aload_n 0, 1) := by decide +kernel
theorem dX12_mayStep_154 : decode cX12_mayStep 154 = .ok (.getfield 30, 3) := by decide +kernel
theorem dX12_mayStep_157 : decode cX12_mayStep 157 = .ok (.iload 4, 2) := by decide +kernel
theorem dX12_mayStep_159 : decode cX12_mayStep 159 = .ok (.iconst 1, 1) := by decide +kernel
theorem dX12_mayStep_160 : decode cX12_mayStep 160 = .ok (.isub, 1) := by decide +kernel
theorem dX12_mayStep_161 : decode cX12_mayStep 161 = .ok (.iaload, 1) := by decide +kernel
theorem dX12_mayStep_162 : decode cX12_mayStep 162 = .ok (.aload_n 0, 1) := by decide +kernel
theorem dX12_mayStep_163 : decode cX12_mayStep 163 = .ok (.getfield 30, 3) := by decide +kernel
theorem dX12_mayStep_166 : decode cX12_mayStep 166 = .ok (.iload 4, 2) := by decide +kernel
theorem dX12_mayStep_168 : decode cX12_mayStep 168 = .ok (.iaload, 1) := by decide +kernel
theorem dX12_mayStep_169 : decode cX12_mayStep 169 = .ok (.invokestatic 242, 3) := by decide +kernel
theorem dX12_mayStep_172 : decode cX12_mayStep 172 = .ok (.iastore, 1) := by decide +kernel
theorem dX12_mayStep_173 : decode cX12_mayStep 173 = .ok (.iinc 5 1, 3) := by decide +kernel
theorem dX12_mayStep_176 : decode cX12_mayStep 176 = .ok (.goto (-140), 3) := by decide +kernel
theorem dX12_mayStep_179 : decode cX12_mayStep 179 = .ok (.aload_n 0, 1) := by decide +kernel
theorem dX12_mayStep_180 : decode cX12_mayStep 180 = .ok (.getfield 30, 3) := by decide +kernel
theorem dX12_mayStep_183 : decode cX12_mayStep 183 = .ok (.iconst 0, 1) := by decide +kernel
theorem dX12_mayStep_184 : decode cX12_mayStep 184 = .ok (.iaload, 1) := by decide +kernel
theorem dX12_mayStep_185 : decode cX12_mayStep 185 = .ok (.iconst 1, 1) := by decide +kernel
theorem dX12_mayStep_186 : decode cX12_mayStep 186 = .ok (.if_icmp .ne 7, 3) := by decide +kernel
theorem dX12_mayStep_189 : decode cX12_mayStep 189 = .ok (.iconst 1, 1) := by decide +kernel
theorem dX12_mayStep_190 : decode cX12_mayStep 190 = .ok (.goto 4, 3) := by decide +kernel
theorem dX12_mayStep_193 : decode cX12_mayStep 193 = .ok (.iconst 0, 1) := by decide +kernel
theorem dX12_mayStep_194 : decode cX12_mayStep 194 = .ok (.ireturn, 1) := by decide +kernel
theorem dX12_wordOf_0 : decode cX12_wordOf 0 = .ok (.aload_n 0, 1) := by decide +kernel
theorem dX12_wordOf_1 : decode cX12_wordOf 1 = .ok (.getfield 13, 3) := by decide +kernel
theorem dX12_wordOf_4 : decode cX12_wordOf 4 = .ok (.bipush 7, 2) := by decide +kernel
theorem dX12_wordOf_6 : decode cX12_wordOf 6 = .ok (.iload 4, 2) := by decide +kernel
theorem dX12_wordOf_8 : decode cX12_wordOf 8 = .ok (.iadd, 1) := by decide +kernel
theorem dX12_wordOf_9 : decode cX12_wordOf 9 = .ok (.iaload, 1) := by decide +kernel
theorem dX12_wordOf_10 : decode cX12_wordOf 10 = .ok (.aload_n 0, 1) := by decide +kernel
theorem dX12_wordOf_11 : decode cX12_wordOf 11 = .ok (.getfield 13, 3) := by decide +kernel
theorem dX12_wordOf_14 : decode cX12_wordOf 14 = .ok (.bipush 7, 2) := by decide +kernel
theorem dX12_wordOf_16 : decode cX12_wordOf 16 = .ok (.iload_n 3, 1) := by decide +kernel
theorem dX12_wordOf_17 : decode cX12_wordOf 17 = .ok (.iadd, 1) := by decide +kernel
theorem dX12_wordOf_18 : decode cX12_wordOf 18 = .ok (.iaload, 1) := by decide +kernel
theorem dX12_wordOf_19 : decode cX12_wordOf 19 = .ok (.isub, 1) := by decide +kernel
theorem dX12_wordOf_20 : decode cX12_wordOf 20 = .ok (.invokestatic 228, 3) := by decide +kernel
theorem dX12_wordOf_23 : decode cX12_wordOf 23 = .ok (.istore 5, 2) := by decide +kernel
theorem dX12_wordOf_25 : decode cX12_wordOf 25 = .ok (.aload_n 0, 1) := by decide +kernel
theorem dX12_wordOf_26 : decode cX12_wordOf 26 = .ok (.getfield 13, 3) := by decide +kernel
theorem dX12_wordOf_29 : decode cX12_wordOf 29 = .ok (.bipush 21, 2) := by decide +kernel
theorem dX12_wordOf_31 : decode cX12_wordOf 31 = .ok (.iload 4, 2) := by decide +kernel
theorem dX12_wordOf_33 : decode cX12_wordOf 33 = .ok (.iadd, 1) := by decide +kernel
theorem dX12_wordOf_34 : decode cX12_wordOf 34 = .ok (.iaload, 1) := by decide +kernel
theorem dX12_wordOf_35 : decode cX12_wordOf 35 = .ok (.aload_n 0, 1) := by decide +kernel
theorem dX12_wordOf_36 : decode cX12_wordOf 36 = .ok (.getfield 13, 3) := by decide +kernel
theorem dX12_wordOf_39 : decode cX12_wordOf 39 = .ok (.bipush 21, 2) := by decide +kernel
theorem dX12_wordOf_41 : decode cX12_wordOf 41 = .ok (.iload_n 3, 1) := by decide +kernel
theorem dX12_wordOf_42 : decode cX12_wordOf 42 = .ok (.iadd, 1) := by decide +kernel
theorem dX12_wordOf_43 : decode cX12_wordOf 43 = .ok (.iaload, 1) := by decide +kernel
theorem dX12_wordOf_44 : decode cX12_wordOf 44 = .ok (.isub, 1) := by decide +kernel
theorem dX12_wordOf_45 : decode cX12_wordOf 45 = .ok (.istore 6, 2) := by decide +kernel
theorem dX12_wordOf_47 : decode cX12_wordOf 47 = .ok (.iload_n 1, 1) := by decide +kernel
theorem dX12_wordOf_48 : decode cX12_wordOf 48 = .ok (.tableswitch 92 0 5 #[40, 43, 46, 55, 60, 70], 40) := by decide +kernel
theorem dX12_wordOf_88 : decode cX12_wordOf 88 = .ok (.iload 5, 2) := by decide +kernel
theorem dX12_wordOf_90 : decode cX12_wordOf 90 = .ok (.ireturn, 1) := by decide +kernel
theorem dX12_wordOf_91 : decode cX12_wordOf 91 = .ok (.iload 6, 2) := by decide +kernel
theorem dX12_wordOf_93 : decode cX12_wordOf 93 = .ok (.ireturn, 1) := by decide +kernel
theorem dX12_wordOf_94 : decode cX12_wordOf 94 = .ok (.iload 5, 2) := by decide +kernel
theorem dX12_wordOf_96 : decode cX12_wordOf 96 = .ok (.iload 6, 2) := by decide +kernel
theorem dX12_wordOf_98 : decode cX12_wordOf 98 = .ok (.invokestatic 228, 3) := by decide +kernel
theorem dX12_wordOf_101 : decode cX12_wordOf 101 = .ok (.iadd, 1) := by decide +kernel
theorem dX12_wordOf_102 : decode cX12_wordOf 102 = .ok (.ireturn, 1) := by decide +kernel
theorem dX12_wordOf_103 : decode cX12_wordOf 103 = .ok (.aload_n 0, 1) := by decide +kernel
theorem dX12_wordOf_104 : decode cX12_wordOf 104 = .ok (.getfield 231, 3) := by decide +kernel
theorem dX12_wordOf_107 : decode cX12_wordOf 107 = .ok (.ireturn, 1) := by decide +kernel
theorem dX12_wordOf_108 : decode cX12_wordOf 108 = .ok (.aload_n 0, 1) := by decide +kernel
theorem dX12_wordOf_109 : decode cX12_wordOf 109 = .ok (.getfield 13, 3) := by decide +kernel
theorem dX12_wordOf_112 : decode cX12_wordOf 112 = .ok (.bipush 54, 2) := by decide +kernel
theorem dX12_wordOf_114 : decode cX12_wordOf 114 = .ok (.iload_n 2, 1) := by decide +kernel
theorem dX12_wordOf_115 : decode cX12_wordOf 115 = .ok (.iadd, 1) := by decide +kernel
theorem dX12_wordOf_116 : decode cX12_wordOf 116 = .ok (.iaload, 1) := by decide +kernel
theorem dX12_wordOf_117 : decode cX12_wordOf 117 = .ok (.ireturn, 1) := by decide +kernel
theorem dX12_wordOf_118 : decode cX12_wordOf 118 = .ok (.aload_n 0, 1) := by decide +kernel
theorem dX12_wordOf_119 : decode cX12_wordOf 119 = .ok (.getfield 13, 3) := by decide +kernel
theorem dX12_wordOf_122 : decode cX12_wordOf 122 = .ok (.bipush 6, 2) := by decide +kernel
theorem dX12_wordOf_124 : decode cX12_wordOf 124 = .ok (.iaload, 1) := by decide +kernel
theorem dX12_wordOf_125 : decode cX12_wordOf 125 = .ok (.i2l, 1) := by decide +kernel
theorem dX12_wordOf_126 : decode cX12_wordOf 126 = .ok (.iload 4, 2) := by decide +kernel
theorem dX12_wordOf_128 : decode cX12_wordOf 128 = .ok (.invokestatic 186, 3) := by decide +kernel
theorem dX12_wordOf_131 : decode cX12_wordOf 131 = .ok (.ifCond .eq 7, 3) := by decide +kernel
theorem dX12_wordOf_134 : decode cX12_wordOf 134 = .ok (.iconst 1, 1) := by decide +kernel
theorem dX12_wordOf_135 : decode cX12_wordOf 135 = .ok (.goto 4, 3) := by decide +kernel
theorem dX12_wordOf_138 : decode cX12_wordOf 138 = .ok (.iconst 0, 1) := by decide +kernel
theorem dX12_wordOf_139 : decode cX12_wordOf 139 = .ok (.ireturn, 1) := by decide +kernel
theorem dX12_wordOf_140 : decode cX12_wordOf 140 = .ok (.aload_n 0, 1) := by decide +kernel
theorem dX12_wordOf_141 : decode cX12_wordOf 141 = .ok (.getfield 13, 3) := by decide +kernel
theorem dX12_wordOf_144 : decode cX12_wordOf 144 = .ok (.bipush 88, 2) := by decide +kernel
theorem dX12_wordOf_146 : decode cX12_wordOf 146 = .ok (.iaload, 1) := by decide +kernel
theorem dX12_wordOf_147 : decode cX12_wordOf 147 = .ok (.ireturn, 1) := by decide +kernel
theorem kw_1238 : Cond.fieldLink "FootholdWallModel" 30 "FootholdWallModel" "reckoned" "[I" ∈ gw := gw_of (tb_of 1238 (by decide +kernel)) (by decide +kernel)
theorem kw_1239 : Cond.fieldLink "FootholdWallModel" 231 "FootholdWallModel" "leg" "I" ∈ gw := gw_of (tb_of 1239 (by decide +kernel)) (by decide +kernel)
theorem kw_1486 : Cond.methodLink "FootholdWallModel" 238 yX12_wordOf ∈ gw := gw_of (tb_of 1486 (by decide +kernel)) (by decide +kernel)
theorem kw_1488 : Cond.instanceMethod yX12_wordOf ∈ gw := gw_of (tb_of 1488 (by decide +kernel)) (by decide +kernel)
theorem kw_1489 : Cond.code yX12_wordOf cX12_wordOf 7 (some (.int)) ∈ gw := gw_of (tb_of 1489 (by decide +kernel)) (by decide +kernel)
theorem kw_1490 : Cond.methodLink "FootholdWallModel" 228 yX12_far ∈ gw := gw_of (tb_of 1490 (by decide +kernel)) (by decide +kernel)
theorem kw_1491 : Cond.static yX12_far ∈ gw := gw_of (tb_of 1491 (by decide +kernel)) (by decide +kernel)
theorem kw_1492 : Cond.code yX12_far cX12_far 1 (some (.int)) ∈ gw := gw_of (tb_of 1492 (by decide +kernel)) (by decide +kernel)
theorem kw_1493 : Cond.methodLink "FootholdWallModel" 242 yX12_between ∈ gw := gw_of (tb_of 1493 (by decide +kernel)) (by decide +kernel)
theorem kw_1494 : Cond.static yX12_between ∈ gw := gw_of (tb_of 1494 (by decide +kernel)) (by decide +kernel)
theorem kw_1495 : Cond.code yX12_between cX12_between 5 (some (.int)) ∈ gw := gw_of (tb_of 1495 (by decide +kernel)) (by decide +kernel)
theorem ks_70 : Cond.selects RX12 yX12_wordOf yX12_wordOf ∈ gw := gw_of (pv_of 70 (by decide +kernel)) (by decide +kernel)
