theorem dX12_climb_0 : decode cX12_climb 0 = .ok (.aload_n 0, 1) := by decide +kernel
theorem dX12_climb_1 : decode cX12_climb 1 = .ok (.iconst 0, 1) := by decide +kernel
theorem dX12_climb_2 : decode cX12_climb 2 = .ok (.putfield 1, 3) := by decide +kernel
theorem dX12_climb_5 : decode cX12_climb 5 = .ok (.aload_n 0, 1) := by decide +kernel
theorem dX12_climb_6 : decode cX12_climb 6 = .ok (.iload_n 1, 1) := by decide +kernel
theorem dX12_climb_7 : decode cX12_climb 7 = .ok (.invokevirtual 289, 3) := by decide +kernel
theorem dX12_climb_10 : decode cX12_climb 10 = .ok (.istore_n 2, 1) := by decide +kernel
theorem dX12_climb_11 : decode cX12_climb 11 = .ok (.iload_n 2, 1) := by decide +kernel
theorem dX12_climb_12 : decode cX12_climb 12 = .ok (.ifCond .eq 5, 3) := by decide +kernel
theorem dX12_climb_15 : decode cX12_climb 15 = .ok (.iload_n 2, 1) := by decide +kernel
theorem dX12_climb_16 : decode cX12_climb 16 = .ok (.ireturn, 1) := by decide +kernel
theorem dX12_climb_17 : decode cX12_climb 17 = .ok (.aload_n 0, 1) := by decide +kernel
theorem dX12_climb_18 : decode cX12_climb 18 = .ok (.iload_n 1, 1) := by decide +kernel
theorem dX12_climb_19 : decode cX12_climb 19 = .ok (.invokevirtual 292, 3) := by decide +kernel
theorem dX12_climb_22 : decode cX12_climb 22 = .ok (.iconst (-1), 1) := by decide +kernel
theorem dX12_climb_23 : decode cX12_climb 23 = .ok (.if_icmp .eq 6, 3) := by decide +kernel
theorem dX12_climb_26 : decode cX12_climb 26 = .ok (.bipush (-5), 2) := by decide +kernel
theorem dX12_climb_28 : decode cX12_climb 28 = .ok (.ireturn, 1) := by decide +kernel
theorem dX12_climb_29 : decode cX12_climb 29 = .ok (.aload_n 0, 1) := by decide +kernel
theorem dX12_climb_30 : decode cX12_climb 30 = .ok (.invokevirtual 295, 3) := by decide +kernel
theorem dX12_climb_33 : decode cX12_climb 33 = .ok (.aload_n 0, 1) := by decide +kernel
theorem dX12_climb_34 : decode cX12_climb 34 = .ok (.aload_n 0, 1) := by decide +kernel
theorem dX12_climb_35 : decode cX12_climb 35 = .ok (.getfield 75, 3) := by decide +kernel
theorem dX12_climb_38 : decode cX12_climb 38 = .ok (.bipush 40, 2) := by decide +kernel
theorem dX12_climb_40 : decode cX12_climb 40 = .ok (.iload_n 1, 1) := by decide +kernel
theorem dX12_climb_41 : decode cX12_climb 41 = .ok (.imul, 1) := by decide +kernel
theorem dX12_climb_42 : decode cX12_climb 42 = .ok (.laload, 1) := by decide +kernel
theorem dX12_climb_43 : decode cX12_climb 43 = .ok (.l2i, 1) := by decide +kernel
theorem dX12_climb_44 : decode cX12_climb 44 = .ok (.invokevirtual 298, 3) := by decide +kernel
theorem dX12_climb_47 : decode cX12_climb 47 = .ok (.istore_n 3, 1) := by decide +kernel
theorem dX12_climb_48 : decode cX12_climb 48 = .ok (.aload_n 0, 1) := by decide +kernel
theorem dX12_climb_49 : decode cX12_climb 49 = .ok (.invokevirtual 301, 3) := by decide +kernel
theorem dX12_climb_52 : decode cX12_climb 52 = .ok (.iload_n 3, 1) := by decide +kernel
theorem dX12_climb_53 : decode cX12_climb 53 = .ok (.ireturn, 1) := by decide +kernel
theorem dX12_judge_0 : decode cX12_judge 0 = .ok (.aload_n 0, 1) := by decide +kernel
theorem dX12_judge_1 : decode cX12_judge 1 = .ok (.iconst 0, 1) := by decide +kernel
theorem dX12_judge_2 : decode cX12_judge 2 = .ok (.putfield 1, 3) := by decide +kernel
theorem dX12_judge_5 : decode cX12_judge 5 = .ok (.iload_n 2, 1) := by decide +kernel
theorem dX12_judge_6 : decode cX12_judge 6 = .ok (.i2l, 1) := by decide +kernel
theorem dX12_judge_7 : decode cX12_judge 7 = .ok (.lconst 0, 1) := by decide +kernel
theorem dX12_judge_8 : decode cX12_judge 8 = .ok (.ldc2_w 287, 3) := by decide +kernel
theorem dX12_judge_11 : decode cX12_judge 11 = .ok (.invokestatic 144, 3) := by decide +kernel
theorem dX12_judge_14 : decode cX12_judge 14 = .ok (.ifCond .ne 6, 3) := by decide +kernel
theorem dX12_judge_17 : decode cX12_judge 17 = .ok (.bipush (-2), 2) := by decide +kernel
theorem dX12_judge_19 : decode cX12_judge 19 = .ok (.ireturn, 1) := by decide +kernel
theorem dX12_judge_20 : decode cX12_judge 20 = .ok (.aload_n 0, 1) := by decide +kernel
theorem dX12_judge_21 : decode cX12_judge 21 = .ok (.iload_n 1, 1) := by decide +kernel
theorem dX12_judge_22 : decode cX12_judge 22 = .ok (.invokevirtual 289, 3) := by decide +kernel
theorem dX12_judge_25 : decode cX12_judge 25 = .ok (.istore_n 3, 1) := by decide +kernel
theorem dX12_judge_26 : decode cX12_judge 26 = .ok (.iload_n 3, 1) := by decide +kernel
theorem dX12_judge_27 : decode cX12_judge 27 = .ok (.ifCond .eq 5, 3) := by decide +kernel
theorem dX12_judge_30 : decode cX12_judge 30 = .ok (.iload_n 3, 1) := by decide +kernel
theorem dX12_judge_31 : decode cX12_judge 31 = .ok (.ireturn, 1) := by decide +kernel
theorem dX12_judge_32 : decode cX12_judge 32 = .ok (.aload_n 0, 1) := by decide +kernel
theorem dX12_judge_33 : decode cX12_judge 33 = .ok (.iload_n 1, 1) := by decide +kernel
theorem dX12_judge_34 : decode cX12_judge 34 = .ok (.invokevirtual 292, 3) := by decide +kernel
theorem dX12_judge_37 : decode cX12_judge 37 = .ok (.istore 4, 2) := by decide +kernel
theorem dX12_judge_39 : decode cX12_judge 39 = .ok (.iload_n 2, 1) := by decide +kernel
theorem dX12_judge_40 : decode cX12_judge 40 = .ok (.ifCond .ne 8, 3) := by decide +kernel
theorem dX12_judge_43 : decode cX12_judge 43 = .ok (.iload 4, 2) := by decide +kernel
theorem dX12_judge_45 : decode cX12_judge 45 = .ok (.goto 30, 3) := by decide +kernel
theorem dX12_judge_48 : decode cX12_judge 48 = .ok (.iload_n 2, 1) := by decide +kernel
theorem dX12_judge_49 : decode cX12_judge 49 = .ok (.iconst 1, 1) := by decide +kernel
theorem dX12_judge_50 : decode cX12_judge 50 = .ok (.if_icmp .ne 10, 3) := by decide +kernel
theorem dX12_judge_53 : decode cX12_judge 53 = .ok (.aload_n 0, 1) := by decide +kernel
theorem dX12_judge_54 : decode cX12_judge 54 = .ok (.getfield 277, 3) := by decide +kernel
theorem dX12_judge_57 : decode cX12_judge 57 = .ok (.goto 18, 3) := by decide +kernel
theorem dX12_judge_60 : decode cX12_judge 60 = .ok (.aload_n 0, 1) := by decide +kernel
theorem dX12_judge_61 : decode cX12_judge 61 = .ok (.getfield 277, 3) := by decide +kernel
theorem dX12_judge_64 : decode cX12_judge 64 = .ok (.ifCond .ne 10, 3) := by decide +kernel
theorem dX12_judge_67 : decode cX12_judge 67 = .ok (.aload_n 0, 1) := by decide +kernel
theorem dX12_judge_68 : decode cX12_judge 68 = .ok (.getfield 280, 3) := by decide +kernel
theorem dX12_judge_71 : decode cX12_judge 71 = .ok (.goto 4, 3) := by decide +kernel
theorem dX12_judge_74 : decode cX12_judge 74 = .ok (.iconst 0, 1) := by decide +kernel
theorem dX12_judge_75 : decode cX12_judge 75 = .ok (.ireturn, 1) := by decide +kernel
theorem dX12_told_0 : decode cX12_told 0 = .ok (.aload_n 0, 1) := by decide +kernel
theorem dX12_told_1 : decode cX12_told 1 = .ok (.iconst 0, 1) := by decide +kernel
theorem dX12_told_2 : decode cX12_told 2 = .ok (.putfield 277, 3) := by decide +kernel
theorem dX12_told_5 : decode cX12_told 5 = .ok (.aload_n 0, 1) := by decide +kernel
theorem dX12_told_6 : decode cX12_told 6 = .ok (.iconst 0, 1) := by decide +kernel
theorem dX12_told_7 : decode cX12_told 7 = .ok (.putfield 280, 3) := by decide +kernel
theorem dX12_told_10 : decode cX12_told 10 = .ok (.aload_n 0, 1) := by decide +kernel
theorem dX12_told_11 : decode cX12_told 11 = .ok (.iconst 0, 1) := by decide +kernel
theorem dX12_told_12 : decode cX12_told 12 = .ok (.putfield 266, 3) := by decide +kernel
theorem dX12_told_15 : decode cX12_told 15 = .ok (.aload_n 0, 1) := by decide +kernel
theorem dX12_told_16 : decode cX12_told 16 = .ok (.getfield 72, 3) := by decide +kernel
theorem dX12_told_19 : decode cX12_told 19 = .ok (.iload_n 1, 1) := by decide +kernel
theorem dX12_told_20 : decode cX12_told 20 = .ok (.iaload, 1) := by decide +kernel
theorem dX12_told_21 : decode cX12_told 21 = .ok (.istore_n 2, 1) := by decide +kernel
theorem dX12_told_22 : decode cX12_told 22 = .ok (.iload_n 2, 1) := by decide +kernel
theorem dX12_told_23 : decode cX12_told 23 = .ok (.ifCond .eq 19, 3) := by decide +kernel
theorem dX12_told_26 : decode cX12_told 26 = .ok (.aload_n 0, 1) := by decide +kernel
theorem dX12_told_27 : decode cX12_told 27 = .ok (.aload_n 0, 1) := by decide +kernel
theorem dX12_told_28 : decode cX12_told 28 = .ok (.getfield 75, 3) := by decide +kernel
theorem dX12_told_31 : decode cX12_told 31 = .ok (.bipush 40, 2) := by decide +kernel
theorem dX12_told_33 : decode cX12_told 33 = .ok (.iload_n 1, 1) := by decide +kernel
theorem dX12_told_34 : decode cX12_told 34 = .ok (.imul, 1) := by decide +kernel
theorem dX12_told_35 : decode cX12_told 35 = .ok (.laload, 1) := by decide +kernel
theorem dX12_told_36 : decode cX12_told 36 = .ok (.invokevirtual 222, 3) := by decide +kernel
theorem dX12_told_39 : decode cX12_told 39 = .ok (.ifCond .ne 10, 3) := by decide +kernel
theorem dX12_told_42 : decode cX12_told 42 = .ok (.aload_n 0, 1) := by decide +kernel
theorem dX12_told_43 : decode cX12_told 43 = .ok (.iconst 1, 1) := by decide +kernel
theorem dX12_told_44 : decode cX12_told 44 = .ok (.putfield 277, 3) := by decide +kernel
theorem dX12_told_47 : decode cX12_told 47 = .ok (.iconst 0, 1) := by decide +kernel
theorem dX12_told_48 : decode cX12_told 48 = .ok (.ireturn, 1) := by decide +kernel
theorem dX12_told_49 : decode cX12_told 49 = .ok (.iconst 0, 1) := by decide +kernel
theorem dX12_told_50 : decode cX12_told 50 = .ok (.istore_n 3, 1) := by decide +kernel
theorem dX12_told_51 : decode cX12_told 51 = .ok (.iconst (-1), 1) := by decide +kernel
theorem dX12_told_52 : decode cX12_told 52 = .ok (.istore 4, 2) := by decide +kernel
theorem dX12_told_54 : decode cX12_told 54 = .ok (.iconst 1, 1) := by decide +kernel
theorem dX12_told_55 : decode cX12_told 55 = .ok (.istore 5, 2) := by decide +kernel
theorem dX12_told_57 : decode cX12_told 57 = .ok (.iload 5, 2) := by decide +kernel
theorem dX12_told_59 : decode cX12_told 59 = .ok (.iload_n 2, 1) := by decide +kernel
theorem dX12_told_60 : decode cX12_told 60 = .ok (.if_icmp .ge 116, 3) := by decide +kernel
theorem dX12_told_63 : decode cX12_told 63 = .ok (.aload_n 0, 1) := by decide +kernel
theorem dX12_told_64 : decode cX12_told 64 = .ok (.getfield 75, 3) := by decide +kernel
theorem dX12_told_67 : decode cX12_told 67 = .ok (.bipush 40, 2) := by decide +kernel
theorem dX12_told_69 : decode cX12_told 69 = .ok (.iload_n 1, 1) := by decide +kernel
theorem dX12_told_70 : decode cX12_told 70 = .ok (.imul, 1) := by decide +kernel
theorem dX12_told_71 : decode cX12_told 71 = .ok (.iload 5, 2) := by decide +kernel
theorem dX12_told_73 : decode cX12_told 73 = .ok (.iadd, 1) := by decide +kernel
theorem dX12_told_74 : decode cX12_told 74 = .ok (.laload, 1) := by decide +kernel
theorem dX12_told_75 : decode cX12_told 75 = .ok (.lstore 6, 2) := by decide +kernel
theorem dX12_told_77 : decode cX12_told 77 = .ok (.aload_n 0, 1) := by decide +kernel
theorem dX12_told_78 : decode cX12_told 78 = .ok (.aload_n 0, 1) := by decide +kernel
theorem dX12_told_79 : decode cX12_told 79 = .ok (.aload_n 0, 1) := by decide +kernel
theorem dX12_told_80 : decode cX12_told 80 = .ok (.getfield 75, 3) := by decide +kernel
theorem dX12_told_83 : decode cX12_told 83 = .ok (.bipush 40, 2) := by decide +kernel
theorem dX12_told_85 : decode cX12_told 85 = .ok (.iload_n 1, 1) := by decide +kernel
theorem dX12_told_86 : decode cX12_told 86 = .ok (.imul, 1) := by decide +kernel
theorem dX12_told_87 : decode cX12_told 87 = .ok (.laload, 1) := by decide +kernel
theorem dX12_told_88 : decode cX12_told 88 = .ok (.l2i, 1) := by decide +kernel
theorem dX12_told_89 : decode cX12_told 89 = .ok (.lload 6, 2) := by decide +kernel
theorem dX12_told_91 : decode cX12_told 91 = .ok (.iload_n 3, 1) := by decide +kernel
theorem dX12_told_92 : decode cX12_told 92 = .ok (.iload 4, 2) := by decide +kernel
theorem dX12_told_94 : decode cX12_told 94 = .ok (.invokevirtual 283, 3) := by decide +kernel
theorem dX12_told_97 : decode cX12_told 97 = .ok (.putfield 277, 3) := by decide +kernel
theorem dX12_told_100 : decode cX12_told 100 = .ok (.aload_n 0, 1) := by decide +kernel
theorem dX12_told_101 : decode cX12_told 101 = .ok (.getfield 277, 3) := by decide +kernel
theorem dX12_told_104 : decode cX12_told 104 = .ok (.ifCond .eq 6, 3) := by decide +kernel
theorem dX12_told_107 : decode cX12_told 107 = .ok (.iload 5, 2) := by decide +kernel
theorem dX12_told_109 : decode cX12_told 109 = .ok (.ireturn, 1) := by decide +kernel
theorem dX12_told_110 : decode cX12_told 110 = .ok (.lload 6, 2) := by decide +kernel
theorem dX12_told_112 : decode cX12_told 112 = .ok (.l2i, 1) := by decide +kernel
theorem dX12_told_113 : decode cX12_told 113 = .ok (.istore 4, 2) := by decide +kernel
theorem dX12_told_115 : decode cX12_told 115 = .ok (.iload_n 3, 1) := by decide +kernel
theorem dX12_told_116 : decode cX12_told 116 = .ok (.iconst 1, 1) := by decide +kernel
theorem dX12_told_117 : decode cX12_told 117 = .ok (.iload 4, 2) := by decide +kernel
theorem dX12_told_119 : decode cX12_told 119 = .ok (.ishl, 1) := by decide +kernel
theorem dX12_told_120 : decode cX12_told 120 = .ok (.ior, 1) := by decide +kernel
theorem dX12_told_121 : decode cX12_told 121 = .ok (.istore_n 3, 1) := by decide +kernel
theorem dX12_told_122 : decode cX12_told 122 = .ok (.aload_n 0, 1) := by decide +kernel
theorem dX12_told_123 : decode cX12_told 123 = .ok (.getfield 39, 3) := by decide +kernel
theorem dX12_told_126 : decode cX12_told 126 = .ok (.aload_n 0, 1) := by decide +kernel
theorem dX12_told_127 : decode cX12_told 127 = .ok (.getfield 266, 3) := by decide +kernel
theorem dX12_told_130 : decode cX12_told 130 = .ok (.iload 4, 2) := by decide +kernel
theorem dX12_told_132 : decode cX12_told 132 = .ok (.iastore, 1) := by decide +kernel
theorem dX12_told_133 : decode cX12_told 133 = .ok (.aload_n 0, 1) := by decide +kernel
theorem dX12_told_134 : decode cX12_told 134 = .ok (.dup, 1) := by decide +kernel
theorem dX12_told_135 : decode cX12_told 135 = .ok (.getfield 266, 3) := by decide +kernel
theorem dX12_told_138 : decode cX12_told 138 = .ok (.iconst 1, 1) := by decide +kernel
theorem dX12_told_139 : decode cX12_told 139 = .ok (.iadd, 1) := by decide +kernel
theorem dX12_told_140 : decode cX12_told 140 = .ok (.putfield 266, 3) := by decide +kernel
theorem dX12_told_143 : decode cX12_told 143 = .ok (.aload_n 0, 1) := by decide +kernel
theorem dX12_told_144 : decode cX12_told 144 = .ok (.dup, 1) := by decide +kernel
theorem dX12_told_145 : decode cX12_told 145 = .ok (.getfield 280, 3) := by decide +kernel
theorem dX12_told_148 : decode cX12_told 148 = .ok (.aload_n 0, 1) := by decide +kernel
theorem dX12_told_149 : decode cX12_told 149 = .ok (.invokevirtual 272, 3) := by decide +kernel
theorem dX12_told_152 : decode cX12_told 152 = .ok (.i2l, 1) := by decide +kernel
theorem dX12_told_153 : decode cX12_told 153 = .ok (.iload 4, 2) := by decide +kernel
theorem dX12_told_155 : decode cX12_told 155 = .ok (.invokestatic 186, 3) := by decide +kernel
theorem dX12_told_158 : decode cX12_told 158 = .ok (.ifCond .eq 7, 3) := by decide +kernel
theorem dX12_told_161 : decode cX12_told 161 = .ok (.iconst 0, 1) := by decide +kernel
theorem dX12_told_162 : decode cX12_told 162 = .ok (.goto 4, 3) := by decide +kernel
theorem dX12_told_165 : decode cX12_told 165 = .ok (.iconst 1, 1) := by decide +kernel
theorem dX12_told_166 : decode cX12_told 166 = .ok (.iadd, 1) := by decide +kernel
theorem dX12_told_167 : decode cX12_told 167 = .ok (.putfield 280, 3) := by decide +kernel
theorem dX12_told_170 : decode cX12_told 170 = .ok (.iinc 5 1, 3) := by decide +kernel
theorem dX12_told_173 : decode cX12_told 173 = .ok (.goto (-116), 3) := by decide +kernel
theorem dX12_told_176 : decode cX12_told 176 = .ok (.iload 4, 2) := by decide +kernel
theorem dX12_told_178 : decode cX12_told 178 = .ok (.iconst (-1), 1) := by decide +kernel
theorem dX12_told_179 : decode cX12_told 179 = .ok (.if_icmp .eq 20, 3) := by decide +kernel
theorem dX12_told_182 : decode cX12_told 182 = .ok (.aload_n 0, 1) := by decide +kernel
theorem dX12_told_183 : decode cX12_told 183 = .ok (.getfield 13, 3) := by decide +kernel
theorem dX12_told_186 : decode cX12_told 186 = .ok (.iconst 5, 1) := by decide +kernel
theorem dX12_told_187 : decode cX12_told 187 = .ok (.iaload, 1) := by decide +kernel
theorem dX12_told_188 : decode cX12_told 188 = .ok (.i2l, 1) := by decide +kernel
theorem dX12_told_189 : decode cX12_told 189 = .ok (.iload 4, 2) := by decide +kernel
theorem dX12_told_191 : decode cX12_told 191 = .ok (.invokestatic 186, 3) := by decide +kernel
theorem dX12_told_194 : decode cX12_told 194 = .ok (.ifCond .eq 5, 3) := by decide +kernel
theorem dX12_told_197 : decode cX12_told 197 = .ok (.iconst (-1), 1) := by decide +kernel
theorem dX12_told_198 : decode cX12_told 198 = .ok (.ireturn, 1) := by decide +kernel
theorem dX12_told_199 : decode cX12_told 199 = .ok (.aload_n 0, 1) := by decide +kernel
theorem dX12_told_200 : decode cX12_told 200 = .ok (.iconst 4, 1) := by decide +kernel
theorem dX12_told_201 : decode cX12_told 201 = .ok (.putfield 277, 3) := by decide +kernel
theorem dX12_told_204 : decode cX12_told 204 = .ok (.iload_n 2, 1) := by decide +kernel
theorem dX12_told_205 : decode cX12_told 205 = .ok (.ireturn, 1) := by decide +kernel
theorem kw_1246 : Cond.fieldLink "FootholdWallModel" 277 "FootholdWallModel" "toldWhy" "I" ∈ gw := gw_of (tb_of 1246 (by decide +kernel)) (by decide +kernel)
theorem kw_1247 : Cond.fieldLink "FootholdWallModel" 280 "FootholdWallModel" "toldUses" "I" ∈ gw := gw_of (tb_of 1247 (by decide +kernel)) (by decide +kernel)
theorem kw_1522 : Cond.constantLong "FootholdWallModel" 287 2 ∈ gw := gw_of (tb_of 1522 (by decide +kernel)) (by decide +kernel)
theorem kw_1528 : Cond.methodLink "FootholdWallModel" 292 yX12_told ∈ gw := gw_of (tb_of 1528 (by decide +kernel)) (by decide +kernel)
theorem kw_1530 : Cond.instanceMethod yX12_told ∈ gw := gw_of (tb_of 1530 (by decide +kernel)) (by decide +kernel)
theorem kw_1531 : Cond.code yX12_told cX12_told 8 (some (.int)) ∈ gw := gw_of (tb_of 1531 (by decide +kernel)) (by decide +kernel)
theorem kw_1532 : Cond.methodLink "FootholdWallModel" 283 yX12_whyNot ∈ gw := gw_of (tb_of 1532 (by decide +kernel)) (by decide +kernel)
theorem kw_1534 : Cond.instanceMethod yX12_whyNot ∈ gw := gw_of (tb_of 1534 (by decide +kernel)) (by decide +kernel)
theorem kw_1535 : Cond.code yX12_whyNot cX12_whyNot 7 (some (.int)) ∈ gw := gw_of (tb_of 1535 (by decide +kernel)) (by decide +kernel)
theorem ks_76 : Cond.selects RX12 yX12_told yX12_told ∈ gw := gw_of (pv_of 76 (by decide +kernel)) (by decide +kernel)
theorem ks_77 : Cond.selects RX12 yX12_whyNot yX12_whyNot ∈ gw := gw_of (pv_of 77 (by decide +kernel)) (by decide +kernel)
