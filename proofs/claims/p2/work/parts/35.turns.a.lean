theorem dX11_inTurn_0 : decode cX11_inTurn 0 = .ok (.iload_n 1, 1) := by decide +kernel
theorem dX11_inTurn_1 : decode cX11_inTurn 1 = .ok (.aload_n 0, 1) := by decide +kernel
theorem dX11_inTurn_2 : decode cX11_inTurn 2 = .ok (.getfield 29, 3) := by decide +kernel
theorem dX11_inTurn_5 : decode cX11_inTurn 5 = .ok (.getfield 216, 3) := by decide +kernel
theorem dX11_inTurn_8 : decode cX11_inTurn 8 = .ok (.iushr, 1) := by decide +kernel
theorem dX11_inTurn_9 : decode cX11_inTurn 9 = .ok (.ifCond .eq 6, 3) := by decide +kernel
theorem dX11_inTurn_12 : decode cX11_inTurn 12 = .ok (.bipush (-3), 2) := by decide +kernel
theorem dX11_inTurn_14 : decode cX11_inTurn 14 = .ok (.ireturn, 1) := by decide +kernel
theorem dX11_inTurn_15 : decode cX11_inTurn 15 = .ok (.iload_n 2, 1) := by decide +kernel
theorem dX11_inTurn_16 : decode cX11_inTurn 16 = .ok (.iconst 5, 1) := by decide +kernel
theorem dX11_inTurn_17 : decode cX11_inTurn 17 = .ok (.invokestatic 299, 3) := by decide +kernel
theorem dX11_inTurn_20 : decode cX11_inTurn 20 = .ok (.ifCond .ne 6, 3) := by decide +kernel
theorem dX11_inTurn_23 : decode cX11_inTurn 23 = .ok (.bipush (-2), 2) := by decide +kernel
theorem dX11_inTurn_25 : decode cX11_inTurn 25 = .ok (.ireturn, 1) := by decide +kernel
theorem dX11_inTurn_26 : decode cX11_inTurn 26 = .ok (.aload_n 0, 1) := by decide +kernel
theorem dX11_inTurn_27 : decode cX11_inTurn 27 = .ok (.iconst (-1), 1) := by decide +kernel
theorem dX11_inTurn_28 : decode cX11_inTurn 28 = .ok (.putfield 107, 3) := by decide +kernel
theorem dX11_inTurn_31 : decode cX11_inTurn 31 = .ok (.aload_n 0, 1) := by decide +kernel
theorem dX11_inTurn_32 : decode cX11_inTurn 32 = .ok (.iconst 0, 1) := by decide +kernel
theorem dX11_inTurn_33 : decode cX11_inTurn 33 = .ok (.iload_n 1, 1) := by decide +kernel
theorem dX11_inTurn_34 : decode cX11_inTurn 34 = .ok (.aload_n 0, 1) := by decide +kernel
theorem dX11_inTurn_35 : decode cX11_inTurn 35 = .ok (.invokevirtual 206, 3) := by decide +kernel
theorem dX11_inTurn_38 : decode cX11_inTurn 38 = .ok (.iconst 0, 1) := by decide +kernel
theorem dX11_inTurn_39 : decode cX11_inTurn 39 = .ok (.invokevirtual 352, 3) := by decide +kernel
theorem dX11_inTurn_42 : decode cX11_inTurn 42 = .ok (.iload_n 2, 1) := by decide +kernel
theorem dX11_inTurn_43 : decode cX11_inTurn 43 = .ok (.ifCond .ne 8, 3) := by decide +kernel
theorem dX11_inTurn_46 : decode cX11_inTurn 46 = .ok (.aload_n 0, 1) := by decide +kernel
theorem dX11_inTurn_47 : decode cX11_inTurn 47 = .ok (.getfield 107, 3) := by decide +kernel
theorem dX11_inTurn_50 : decode cX11_inTurn 50 = .ok (.ireturn, 1) := by decide +kernel
theorem dX11_inTurn_51 : decode cX11_inTurn 51 = .ok (.aload_n 0, 1) := by decide +kernel
theorem dX11_inTurn_52 : decode cX11_inTurn 52 = .ok (.getfield 104, 3) := by decide +kernel
theorem dX11_inTurn_55 : decode cX11_inTurn 55 = .ok (.iload_n 1, 1) := by decide +kernel
theorem dX11_inTurn_56 : decode cX11_inTurn 56 = .ok (.invokestatic 243, 3) := by decide +kernel
theorem dX11_inTurn_59 : decode cX11_inTurn 59 = .ok (.iload_n 2, 1) := by decide +kernel
theorem dX11_inTurn_60 : decode cX11_inTurn 60 = .ok (.invokestatic 306, 3) := by decide +kernel
theorem dX11_inTurn_63 : decode cX11_inTurn 63 = .ok (.ireturn, 1) := by decide +kernel
theorem dX11_takeTurns_0 : decode cX11_takeTurns 0 = .ok (.iload 4, 2) := by decide +kernel
theorem dX11_takeTurns_2 : decode cX11_takeTurns 2 = .ok (.iload_n 2, 1) := by decide +kernel
theorem dX11_takeTurns_3 : decode cX11_takeTurns 3 = .ok (.invokestatic 243, 3) := by decide +kernel
theorem dX11_takeTurns_6 : decode cX11_takeTurns 6 = .ok (.iadd, 1) := by decide +kernel
theorem dX11_takeTurns_7 : decode cX11_takeTurns 7 = .ok (.aload_n 0, 1) := by decide +kernel
theorem dX11_takeTurns_8 : decode cX11_takeTurns 8 = .ok (.getfield 107, 3) := by decide +kernel
theorem dX11_takeTurns_11 : decode cX11_takeTurns 11 = .ok (.if_icmp .gt 4, 3) := by decide +kernel
theorem dX11_takeTurns_14 : decode cX11_takeTurns 14 = .ok (.return_, 1) := by decide +kernel
theorem dX11_takeTurns_15 : decode cX11_takeTurns 15 = .ok (.iload_n 2, 1) := by decide +kernel
theorem dX11_takeTurns_16 : decode cX11_takeTurns 16 = .ok (.ifCond .eq 8, 3) := by decide +kernel
theorem dX11_takeTurns_19 : decode cX11_takeTurns 19 = .ok (.iload_n 1, 1) := by decide +kernel
theorem dX11_takeTurns_20 : decode cX11_takeTurns 20 = .ok (.iconst 5, 1) := by decide +kernel
theorem dX11_takeTurns_21 : decode cX11_takeTurns 21 = .ok (.if_icmp .lt 24, 3) := by decide +kernel
theorem dX11_takeTurns_24 : decode cX11_takeTurns 24 = .ok (.aload_n 0, 1) := by decide +kernel
theorem dX11_takeTurns_25 : decode cX11_takeTurns 25 = .ok (.iload 4, 2) := by decide +kernel
theorem dX11_takeTurns_27 : decode cX11_takeTurns 27 = .ok (.putfield 107, 3) := by decide +kernel
theorem dX11_takeTurns_30 : decode cX11_takeTurns 30 = .ok (.aload_n 0, 1) := by decide +kernel
theorem dX11_takeTurns_31 : decode cX11_takeTurns 31 = .ok (.getfield 100, 3) := by decide +kernel
theorem dX11_takeTurns_34 : decode cX11_takeTurns 34 = .ok (.iconst 0, 1) := by decide +kernel
theorem dX11_takeTurns_35 : decode cX11_takeTurns 35 = .ok (.aload_n 0, 1) := by decide +kernel
theorem dX11_takeTurns_36 : decode cX11_takeTurns 36 = .ok (.getfield 104, 3) := by decide +kernel
theorem dX11_takeTurns_39 : decode cX11_takeTurns 39 = .ok (.iconst 0, 1) := by decide +kernel
theorem dX11_takeTurns_40 : decode cX11_takeTurns 40 = .ok (.iconst 5, 1) := by decide +kernel
theorem dX11_takeTurns_41 : decode cX11_takeTurns 41 = .ok (.invokestatic 356, 3) := by decide +kernel
theorem dX11_takeTurns_44 : decode cX11_takeTurns 44 = .ok (.return_, 1) := by decide +kernel
theorem dX11_takeTurns_45 : decode cX11_takeTurns 45 = .ok (.iconst 0, 1) := by decide +kernel
theorem dX11_takeTurns_46 : decode cX11_takeTurns 46 = .ok (.istore 5, 2) := by decide +kernel
theorem dX11_takeTurns_48 : decode cX11_takeTurns 48 = .ok (.iload 5, 2) := by decide +kernel
theorem dX11_takeTurns_50 : decode cX11_takeTurns 50 = .ok (.aload_n 0, 1) := by decide +kernel
theorem dX11_takeTurns_51 : decode cX11_takeTurns 51 = .ok (.getfield 29, 3) := by decide +kernel
theorem dX11_takeTurns_54 : decode cX11_takeTurns 54 = .ok (.getfield 216, 3) := by decide +kernel
theorem dX11_takeTurns_57 : decode cX11_takeTurns 57 = .ok (.if_icmp .ge 110, 3) := by decide +kernel
theorem dX11_takeTurns_60 : decode cX11_takeTurns 60 = .ok (.iload_n 2, 1) := by decide +kernel
theorem dX11_takeTurns_61 : decode cX11_takeTurns 61 = .ok (.iload 5, 2) := by decide +kernel
theorem dX11_takeTurns_63 : decode cX11_takeTurns 63 = .ok (.ishr, 1) := by decide +kernel
theorem dX11_takeTurns_64 : decode cX11_takeTurns 64 = .ok (.iconst 1, 1) := by decide +kernel
theorem dX11_takeTurns_65 : decode cX11_takeTurns 65 = .ok (.iand, 1) := by decide +kernel
theorem dX11_takeTurns_66 : decode cX11_takeTurns 66 = .ok (.ifCond .eq 95, 3) := by decide +kernel
theorem dX11_takeTurns_69 : decode cX11_takeTurns 69 = .ok (.aload_n 0, 1) := by decide +kernel
theorem dX11_takeTurns_70 : decode cX11_takeTurns 70 = .ok (.getfield 100, 3) := by decide +kernel
theorem dX11_takeTurns_73 : decode cX11_takeTurns 73 = .ok (.iload_n 1, 1) := by decide +kernel
theorem dX11_takeTurns_74 : decode cX11_takeTurns 74 = .ok (.iload 5, 2) := by decide +kernel
theorem dX11_takeTurns_76 : decode cX11_takeTurns 76 = .ok (.iastore, 1) := by decide +kernel
theorem dX11_takeTurns_77 : decode cX11_takeTurns 77 = .ok (.aload_n 0, 1) := by decide +kernel
theorem dX11_takeTurns_78 : decode cX11_takeTurns 78 = .ok (.getfield 82, 3) := by decide +kernel
theorem dX11_takeTurns_81 : decode cX11_takeTurns 81 = .ok (.aload_n 0, 1) := by decide +kernel
theorem dX11_takeTurns_82 : decode cX11_takeTurns 82 = .ok (.iload 5, 2) := by decide +kernel
theorem dX11_takeTurns_84 : decode cX11_takeTurns 84 = .ok (.invokevirtual 202, 3) := by decide +kernel
theorem dX11_takeTurns_87 : decode cX11_takeTurns 87 = .ok (.iload_n 3, 1) := by decide +kernel
theorem dX11_takeTurns_88 : decode cX11_takeTurns 88 = .ok (.invokevirtual 271, 3) := by decide +kernel
theorem dX11_takeTurns_91 : decode cX11_takeTurns 91 = .ok (.ifCond .le 7, 3) := by decide +kernel
theorem dX11_takeTurns_94 : decode cX11_takeTurns 94 = .ok (.iconst 1, 1) := by decide +kernel
theorem dX11_takeTurns_95 : decode cX11_takeTurns 95 = .ok (.goto 4, 3) := by decide +kernel
theorem dX11_takeTurns_98 : decode cX11_takeTurns 98 = .ok (.iconst 0, 1) := by decide +kernel
theorem dX11_takeTurns_99 : decode cX11_takeTurns 99 = .ok (.istore 6, 2) := by decide +kernel
theorem dX11_takeTurns_101 : decode cX11_takeTurns 101 = .ok (.iload 6, 2) := by decide +kernel
theorem dX11_takeTurns_103 : decode cX11_takeTurns 103 = .ok (.ifCond .eq 25, 3) := by decide +kernel
theorem dX11_takeTurns_106 : decode cX11_takeTurns 106 = .ok (.iload_n 3, 1) := by decide +kernel
theorem dX11_takeTurns_107 : decode cX11_takeTurns 107 = .ok (.aload_n 0, 1) := by decide +kernel
theorem dX11_takeTurns_108 : decode cX11_takeTurns 108 = .ok (.getfield 82, 3) := by decide +kernel
theorem dX11_takeTurns_111 : decode cX11_takeTurns 111 = .ok (.invokevirtual 275, 3) := by decide +kernel
theorem dX11_takeTurns_114 : decode cX11_takeTurns 114 = .ok (.aload_n 0, 1) := by decide +kernel
theorem dX11_takeTurns_115 : decode cX11_takeTurns 115 = .ok (.getfield 29, 3) := by decide +kernel
theorem dX11_takeTurns_118 : decode cX11_takeTurns 118 = .ok (.invokevirtual 265, 3) := by decide +kernel
theorem dX11_takeTurns_121 : decode cX11_takeTurns 121 = .ok (.iand, 1) := by decide +kernel
theorem dX11_takeTurns_122 : decode cX11_takeTurns 122 = .ok (.iconst (-1), 1) := by decide +kernel
theorem dX11_takeTurns_123 : decode cX11_takeTurns 123 = .ok (.ixor, 1) := by decide +kernel
theorem dX11_takeTurns_124 : decode cX11_takeTurns 124 = .ok (.iand, 1) := by decide +kernel
theorem dX11_takeTurns_125 : decode cX11_takeTurns 125 = .ok (.goto 4, 3) := by decide +kernel
theorem dX11_takeTurns_128 : decode cX11_takeTurns 128 = .ok (.iload_n 3, 1) := by decide +kernel
theorem dX11_takeTurns_129 : decode cX11_takeTurns 129 = .ok (.istore 7, 2) := by decide +kernel
theorem dX11_takeTurns_131 : decode cX11_takeTurns 131 = .ok (.aload_n 0, 1) := by decide +kernel
theorem dX11_takeTurns_132 : decode cX11_takeTurns 132 = .ok (.iload_n 1, 1) := by decide +kernel
theorem dX11_takeTurns_133 : decode cX11_takeTurns 133 = .ok (.iconst 1, 1) := by decide +kernel
theorem dX11_takeTurns_134 : decode cX11_takeTurns 134 = .ok (.iadd, 1) := by decide +kernel
theorem dX11_takeTurns_135 : decode cX11_takeTurns 135 = .ok (.iload_n 2, 1) := by decide +kernel
theorem dX11_takeTurns_136 : decode cX11_takeTurns 136 = .ok (.iconst 1, 1) := by decide +kernel
theorem dX11_takeTurns_137 : decode cX11_takeTurns 137 = .ok (.iload 5, 2) := by decide +kernel
theorem dX11_takeTurns_139 : decode cX11_takeTurns 139 = .ok (.ishl, 1) := by decide +kernel
theorem dX11_takeTurns_140 : decode cX11_takeTurns 140 = .ok (.iconst (-1), 1) := by decide +kernel
theorem dX11_takeTurns_141 : decode cX11_takeTurns 141 = .ok (.ixor, 1) := by decide +kernel
theorem dX11_takeTurns_142 : decode cX11_takeTurns 142 = .ok (.iand, 1) := by decide +kernel
theorem dX11_takeTurns_143 : decode cX11_takeTurns 143 = .ok (.iload 7, 2) := by decide +kernel
theorem dX11_takeTurns_145 : decode cX11_takeTurns 145 = .ok (.iload 4, 2) := by decide +kernel
theorem dX11_takeTurns_147 : decode cX11_takeTurns 147 = .ok (.iload 6, 2) := by decide +kernel
theorem dX11_takeTurns_149 : decode cX11_takeTurns 149 = .ok (.ifCond .eq 7, 3) := by decide +kernel
theorem dX11_takeTurns_152 : decode cX11_takeTurns 152 = .ok (.iconst 1, 1) := by decide +kernel
theorem dX11_takeTurns_153 : decode cX11_takeTurns 153 = .ok (.goto 4, 3) := by decide +kernel
theorem dX11_takeTurns_156 : decode cX11_takeTurns 156 = .ok (.iconst 0, 1) := by decide +kernel
theorem dX11_takeTurns_157 : decode cX11_takeTurns 157 = .ok (.iadd, 1) := by decide +kernel
theorem dX11_takeTurns_158 : decode cX11_takeTurns 158 = .ok (.invokevirtual 352, 3) := by decide +kernel
theorem dX11_takeTurns_161 : decode cX11_takeTurns 161 = .ok (.iinc 5 1, 3) := by decide +kernel
theorem dX11_takeTurns_164 : decode cX11_takeTurns 164 = .ok (.goto (-116), 3) := by decide +kernel
theorem dX11_takeTurns_167 : decode cX11_takeTurns 167 = .ok (.return_, 1) := by decide +kernel
theorem kw_377 : Cond.fieldLink "FootholdWall" 100 "FootholdWall" "turn" "[I" ∈ gw := gw_of (tb_of 377 (by decide +kernel)) (by decide +kernel)
theorem kw_378 : Cond.fieldLink "FootholdWall" 104 "FootholdWall" "bestTurn" "[I" ∈ gw := gw_of (tb_of 378 (by decide +kernel)) (by decide +kernel)
theorem kw_379 : Cond.fieldLink "FootholdWall" 107 "FootholdWall" "bestUp" "I" ∈ gw := gw_of (tb_of 379 (by decide +kernel)) (by decide +kernel)
theorem kw_1168 : Cond.methodLink "FootholdWall" 352 yX11_takeTurns ∈ gw := gw_of (tb_of 1168 (by decide +kernel)) (by decide +kernel)
theorem kw_1170 : Cond.instanceMethod yX11_takeTurns ∈ gw := gw_of (tb_of 1170 (by decide +kernel)) (by decide +kernel)
theorem kw_1171 : Cond.code yX11_takeTurns cX11_takeTurns 8 none ∈ gw := gw_of (tb_of 1171 (by decide +kernel)) (by decide +kernel)
theorem kw_1172 : Cond.methodLink "FootholdWall" 356 arraycopyName ∈ gw := gw_of (tb_of 1172 (by decide +kernel)) (by decide +kernel)
theorem ks_42 : Cond.selects RX11 yX11_takeTurns yX11_takeTurns ∈ gw := gw_of (pv_of 42 (by decide +kernel)) (by decide +kernel)
