theorem dX10_climbsUpTo_0 : decode cX10_climbsUpTo 0 = .ok (.iload_n 2, 1) := by decide +kernel
theorem dX10_climbsUpTo_1 : decode cX10_climbsUpTo 1 = .ok (.aload_n 1, 1) := by decide +kernel
theorem dX10_climbsUpTo_2 : decode cX10_climbsUpTo 2 = .ok (.getfield 55, 3) := by decide +kernel
theorem dX10_climbsUpTo_5 : decode cX10_climbsUpTo 5 = .ok (.getfield 64, 3) := by decide +kernel
theorem dX10_climbsUpTo_8 : decode cX10_climbsUpTo 8 = .ok (.iand, 1) := by decide +kernel
theorem dX10_climbsUpTo_9 : decode cX10_climbsUpTo 9 = .ok (.istore 4, 2) := by decide +kernel
theorem dX10_climbsUpTo_11 : decode cX10_climbsUpTo 11 = .ok (.iload_n 2, 1) := by decide +kernel
theorem dX10_climbsUpTo_12 : decode cX10_climbsUpTo 12 = .ok (.aload_n 1, 1) := by decide +kernel
theorem dX10_climbsUpTo_13 : decode cX10_climbsUpTo 13 = .ok (.getfield 55, 3) := by decide +kernel
theorem dX10_climbsUpTo_16 : decode cX10_climbsUpTo 16 = .ok (.getfield 59, 3) := by decide +kernel
theorem dX10_climbsUpTo_19 : decode cX10_climbsUpTo 19 = .ok (.iand, 1) := by decide +kernel
theorem dX10_climbsUpTo_20 : decode cX10_climbsUpTo 20 = .ok (.istore 5, 2) := by decide +kernel
theorem dX10_climbsUpTo_22 : decode cX10_climbsUpTo 22 = .ok (.iload_n 2, 1) := by decide +kernel
theorem dX10_climbsUpTo_23 : decode cX10_climbsUpTo 23 = .ok (.iload 4, 2) := by decide +kernel
theorem dX10_climbsUpTo_25 : decode cX10_climbsUpTo 25 = .ok (.iconst (-1), 1) := by decide +kernel
theorem dX10_climbsUpTo_26 : decode cX10_climbsUpTo 26 = .ok (.ixor, 1) := by decide +kernel
theorem dX10_climbsUpTo_27 : decode cX10_climbsUpTo 27 = .ok (.iand, 1) := by decide +kernel
theorem dX10_climbsUpTo_28 : decode cX10_climbsUpTo 28 = .ok (.istore 6, 2) := by decide +kernel
theorem dX10_climbsUpTo_30 : decode cX10_climbsUpTo 30 = .ok (.aload_n 0, 1) := by decide +kernel
theorem dX10_climbsUpTo_31 : decode cX10_climbsUpTo 31 = .ok (.iconst 0, 1) := by decide +kernel
theorem dX10_climbsUpTo_32 : decode cX10_climbsUpTo 32 = .ok (.putfield 32, 3) := by decide +kernel
theorem dX10_climbsUpTo_35 : decode cX10_climbsUpTo 35 = .ok (.iconst 0, 1) := by decide +kernel
theorem dX10_climbsUpTo_36 : decode cX10_climbsUpTo 36 = .ok (.istore 7, 2) := by decide +kernel
theorem dX10_climbsUpTo_38 : decode cX10_climbsUpTo 38 = .ok (.iload 7, 2) := by decide +kernel
theorem dX10_climbsUpTo_40 : decode cX10_climbsUpTo 40 = .ok (.bipush 14, 2) := by decide +kernel
theorem dX10_climbsUpTo_42 : decode cX10_climbsUpTo 42 = .ok (.if_icmp .ge 46, 3) := by decide +kernel
theorem dX10_climbsUpTo_45 : decode cX10_climbsUpTo 45 = .ok (.iload 4, 2) := by decide +kernel
theorem dX10_climbsUpTo_47 : decode cX10_climbsUpTo 47 = .ok (.iload 7, 2) := by decide +kernel
theorem dX10_climbsUpTo_49 : decode cX10_climbsUpTo 49 = .ok (.ishr, 1) := by decide +kernel
theorem dX10_climbsUpTo_50 : decode cX10_climbsUpTo 50 = .ok (.iconst 1, 1) := by decide +kernel
theorem dX10_climbsUpTo_51 : decode cX10_climbsUpTo 51 = .ok (.iand, 1) := by decide +kernel
theorem dX10_climbsUpTo_52 : decode cX10_climbsUpTo 52 = .ok (.ifCond .eq 30, 3) := by decide +kernel
theorem dX10_climbsUpTo_55 : decode cX10_climbsUpTo 55 = .ok (.aload_n 0, 1) := by decide +kernel
theorem dX10_climbsUpTo_56 : decode cX10_climbsUpTo 56 = .ok (.getfield 29, 3) := by decide +kernel
theorem dX10_climbsUpTo_59 : decode cX10_climbsUpTo 59 = .ok (.aload_n 0, 1) := by decide +kernel
theorem dX10_climbsUpTo_60 : decode cX10_climbsUpTo 60 = .ok (.getfield 32, 3) := by decide +kernel
theorem dX10_climbsUpTo_63 : decode cX10_climbsUpTo 63 = .ok (.aload_n 1, 1) := by decide +kernel
theorem dX10_climbsUpTo_64 : decode cX10_climbsUpTo 64 = .ok (.iload 6, 2) := by decide +kernel
theorem dX10_climbsUpTo_66 : decode cX10_climbsUpTo 66 = .ok (.iload 7, 2) := by decide +kernel
theorem dX10_climbsUpTo_68 : decode cX10_climbsUpTo 68 = .ok (.invokestatic 81, 3) := by decide +kernel
theorem dX10_climbsUpTo_71 : decode cX10_climbsUpTo 71 = .ok (.iastore, 1) := by decide +kernel
theorem dX10_climbsUpTo_72 : decode cX10_climbsUpTo 72 = .ok (.aload_n 0, 1) := by decide +kernel
theorem dX10_climbsUpTo_73 : decode cX10_climbsUpTo 73 = .ok (.dup, 1) := by decide +kernel
theorem dX10_climbsUpTo_74 : decode cX10_climbsUpTo 74 = .ok (.getfield 32, 3) := by decide +kernel
theorem dX10_climbsUpTo_77 : decode cX10_climbsUpTo 77 = .ok (.iconst 1, 1) := by decide +kernel
theorem dX10_climbsUpTo_78 : decode cX10_climbsUpTo 78 = .ok (.iadd, 1) := by decide +kernel
theorem dX10_climbsUpTo_79 : decode cX10_climbsUpTo 79 = .ok (.putfield 32, 3) := by decide +kernel
theorem dX10_climbsUpTo_82 : decode cX10_climbsUpTo 82 = .ok (.iinc 7 1, 3) := by decide +kernel
theorem dX10_climbsUpTo_85 : decode cX10_climbsUpTo 85 = .ok (.goto (-47), 3) := by decide +kernel
theorem dX10_climbsUpTo_88 : decode cX10_climbsUpTo 88 = .ok (.iload 5, 2) := by decide +kernel
theorem dX10_climbsUpTo_90 : decode cX10_climbsUpTo 90 = .ok (.iload 4, 2) := by decide +kernel
theorem dX10_climbsUpTo_92 : decode cX10_climbsUpTo 92 = .ok (.iand, 1) := by decide +kernel
theorem dX10_climbsUpTo_93 : decode cX10_climbsUpTo 93 = .ok (.invokestatic 85, 3) := by decide +kernel
theorem dX10_climbsUpTo_96 : decode cX10_climbsUpTo 96 = .ok (.i2l, 1) := by decide +kernel
theorem dX10_climbsUpTo_97 : decode cX10_climbsUpTo 97 = .ok (.lstore 7, 2) := by decide +kernel
theorem dX10_climbsUpTo_99 : decode cX10_climbsUpTo 99 = .ok (.iconst 0, 1) := by decide +kernel
theorem dX10_climbsUpTo_100 : decode cX10_climbsUpTo 100 = .ok (.istore 9, 2) := by decide +kernel
theorem dX10_climbsUpTo_102 : decode cX10_climbsUpTo 102 = .ok (.iload 9, 2) := by decide +kernel
theorem dX10_climbsUpTo_104 : decode cX10_climbsUpTo 104 = .ok (.bipush 14, 2) := by decide +kernel
theorem dX10_climbsUpTo_106 : decode cX10_climbsUpTo 106 = .ok (.if_icmp .ge 46, 3) := by decide +kernel
theorem dX10_climbsUpTo_109 : decode cX10_climbsUpTo 109 = .ok (.iload 5, 2) := by decide +kernel
theorem dX10_climbsUpTo_111 : decode cX10_climbsUpTo 111 = .ok (.iload 6, 2) := by decide +kernel
theorem dX10_climbsUpTo_113 : decode cX10_climbsUpTo 113 = .ok (.iand, 1) := by decide +kernel
theorem dX10_climbsUpTo_114 : decode cX10_climbsUpTo 114 = .ok (.iload 9, 2) := by decide +kernel
theorem dX10_climbsUpTo_116 : decode cX10_climbsUpTo 116 = .ok (.ishr, 1) := by decide +kernel
theorem dX10_climbsUpTo_117 : decode cX10_climbsUpTo 117 = .ok (.iconst 1, 1) := by decide +kernel
theorem dX10_climbsUpTo_118 : decode cX10_climbsUpTo 118 = .ok (.iand, 1) := by decide +kernel
theorem dX10_climbsUpTo_119 : decode cX10_climbsUpTo 119 = .ok (.ifCond .eq 27, 3) := by decide +kernel
theorem dX10_climbsUpTo_122 : decode cX10_climbsUpTo 122 = .ok (.lload 7, 2) := by decide +kernel
theorem dX10_climbsUpTo_124 : decode cX10_climbsUpTo 124 = .ok (.aload_n 0, 1) := by decide +kernel
theorem dX10_climbsUpTo_125 : decode cX10_climbsUpTo 125 = .ok (.aload_n 1, 1) := by decide +kernel
theorem dX10_climbsUpTo_126 : decode cX10_climbsUpTo 126 = .ok (.iload 9, 2) := by decide +kernel
theorem dX10_climbsUpTo_128 : decode cX10_climbsUpTo 128 = .ok (.iload 6, 2) := by decide +kernel
theorem dX10_climbsUpTo_130 : decode cX10_climbsUpTo 130 = .ok (.iconst 1, 1) := by decide +kernel
theorem dX10_climbsUpTo_131 : decode cX10_climbsUpTo 131 = .ok (.iload 9, 2) := by decide +kernel
theorem dX10_climbsUpTo_133 : decode cX10_climbsUpTo 133 = .ok (.ishl, 1) := by decide +kernel
theorem dX10_climbsUpTo_134 : decode cX10_climbsUpTo 134 = .ok (.iconst (-1), 1) := by decide +kernel
theorem dX10_climbsUpTo_135 : decode cX10_climbsUpTo 135 = .ok (.ixor, 1) := by decide +kernel
theorem dX10_climbsUpTo_136 : decode cX10_climbsUpTo 136 = .ok (.iand, 1) := by decide +kernel
theorem dX10_climbsUpTo_137 : decode cX10_climbsUpTo 137 = .ok (.iload_n 3, 1) := by decide +kernel
theorem dX10_climbsUpTo_138 : decode cX10_climbsUpTo 138 = .ok (.iconst 1, 1) := by decide +kernel
theorem dX10_climbsUpTo_139 : decode cX10_climbsUpTo 139 = .ok (.isub, 1) := by decide +kernel
theorem dX10_climbsUpTo_140 : decode cX10_climbsUpTo 140 = .ok (.invokevirtual 88, 3) := by decide +kernel
theorem dX10_climbsUpTo_143 : decode cX10_climbsUpTo 143 = .ok (.ladd, 1) := by decide +kernel
theorem dX10_climbsUpTo_144 : decode cX10_climbsUpTo 144 = .ok (.lstore 7, 2) := by decide +kernel
theorem dX10_climbsUpTo_146 : decode cX10_climbsUpTo 146 = .ok (.iinc 9 1, 3) := by decide +kernel
theorem dX10_climbsUpTo_149 : decode cX10_climbsUpTo 149 = .ok (.goto (-47), 3) := by decide +kernel
theorem dX10_climbsUpTo_152 : decode cX10_climbsUpTo 152 = .ok (.lload 7, 2) := by decide +kernel
theorem dX10_climbsUpTo_154 : decode cX10_climbsUpTo 154 = .ok (.lreturn, 1) := by decide +kernel
theorem dX11_climbs_0 : decode cX11_climbs 0 = .ok (.aload_n 0, 1) := by decide +kernel
theorem dX11_climbs_1 : decode cX11_climbs 1 = .ok (.iload_n 1, 1) := by decide +kernel
theorem dX11_climbs_2 : decode cX11_climbs 2 = .ok (.invokevirtual 186, 3) := by decide +kernel
theorem dX11_climbs_5 : decode cX11_climbs 5 = .ok (.ifCond .ne 7, 3) := by decide +kernel
theorem dX11_climbs_8 : decode cX11_climbs 8 = .ok (.ldc2_w 314, 3) := by decide +kernel
theorem dX11_climbs_11 : decode cX11_climbs 11 = .ok (.lreturn, 1) := by decide +kernel
theorem dX11_climbs_12 : decode cX11_climbs 12 = .ok (.iload_n 2, 1) := by decide +kernel
theorem dX11_climbs_13 : decode cX11_climbs 13 = .ok (.iconst 1, 1) := by decide +kernel
theorem dX11_climbs_14 : decode cX11_climbs 14 = .ok (.if_icmp .lt 9, 3) := by decide +kernel
theorem dX11_climbs_17 : decode cX11_climbs 17 = .ok (.iload_n 2, 1) := by decide +kernel
theorem dX11_climbs_18 : decode cX11_climbs 18 = .ok (.bipush 7, 2) := by decide +kernel
theorem dX11_climbs_20 : decode cX11_climbs 20 = .ok (.if_icmp .le 7, 3) := by decide +kernel
theorem dX11_climbs_23 : decode cX11_climbs 23 = .ok (.ldc2_w 316, 3) := by decide +kernel
theorem dX11_climbs_26 : decode cX11_climbs 26 = .ok (.lreturn, 1) := by decide +kernel
theorem dX11_climbs_27 : decode cX11_climbs 27 = .ok (.aload_n 0, 1) := by decide +kernel
theorem dX11_climbs_28 : decode cX11_climbs 28 = .ok (.getfield 82, 3) := by decide +kernel
theorem dX11_climbs_31 : decode cX11_climbs 31 = .ok (.aload_n 0, 1) := by decide +kernel
theorem dX11_climbs_32 : decode cX11_climbs 32 = .ok (.iload_n 1, 1) := by decide +kernel
theorem dX11_climbs_33 : decode cX11_climbs 33 = .ok (.invokevirtual 202, 3) := by decide +kernel
theorem dX11_climbs_36 : decode cX11_climbs 36 = .ok (.aload_n 0, 1) := by decide +kernel
theorem dX11_climbs_37 : decode cX11_climbs 37 = .ok (.invokevirtual 206, 3) := by decide +kernel
theorem dX11_climbs_40 : decode cX11_climbs 40 = .ok (.iload_n 2, 1) := by decide +kernel
theorem dX11_climbs_41 : decode cX11_climbs 41 = .ok (.invokevirtual 318, 3) := by decide +kernel
theorem dX11_climbs_44 : decode cX11_climbs 44 = .ok (.lreturn, 1) := by decide +kernel
theorem kw_993 : Cond.constantLong "FootholdWall" 316 (-3) ∈ gw := gw_of (tb_of 993 (by decide +kernel)) (by decide +kernel)
theorem kw_994 : Cond.methodLink "FootholdWall" 318 yX10_climbsUpTo ∈ gw := gw_of (tb_of 994 (by decide +kernel)) (by decide +kernel)
theorem kw_995 : Cond.instanceMethod yX10_climbsUpTo ∈ gw := gw_of (tb_of 995 (by decide +kernel)) (by decide +kernel)
theorem kw_996 : Cond.selects "FootholdWall$Ways" yX10_climbsUpTo yX10_climbsUpTo ∈ gw := gw_of (tb_of 996 (by decide +kernel)) (by decide +kernel)
theorem kw_997 : Cond.code yX10_climbsUpTo cX10_climbsUpTo 10 (some (.long)) ∈ gw := gw_of (tb_of 997 (by decide +kernel)) (by decide +kernel)
theorem kw_998 : Cond.methodLink "FootholdWall$Ways" 81 yX10_leadingTo ∈ gw := gw_of (tb_of 998 (by decide +kernel)) (by decide +kernel)
theorem kw_999 : Cond.static yX10_leadingTo ∈ gw := gw_of (tb_of 999 (by decide +kernel)) (by decide +kernel)
theorem kw_1000 : Cond.code yX10_leadingTo cX10_leadingTo 5 (some (.int)) ∈ gw := gw_of (tb_of 1000 (by decide +kernel)) (by decide +kernel)
