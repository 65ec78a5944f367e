theorem dX0_prepare_0 : decode cX0_prepare 0 = .ok (.aload_n 0, 1) := by decide +kernel
theorem dX0_prepare_1 : decode cX0_prepare 1 = .ok (.iload_n 2, 1) := by decide +kernel
theorem dX0_prepare_2 : decode cX0_prepare 2 = .ok (.putfield 15, 3) := by decide +kernel
theorem dX0_prepare_5 : decode cX0_prepare 5 = .ok (.iconst 1, 1) := by decide +kernel
theorem dX0_prepare_6 : decode cX0_prepare 6 = .ok (.iconst 2, 1) := by decide +kernel
theorem dX0_prepare_7 : decode cX0_prepare 7 = .ok (.aload_n 0, 1) := by decide +kernel
theorem dX0_prepare_8 : decode cX0_prepare 8 = .ok (.getfield 15, 3) := by decide +kernel
theorem dX0_prepare_11 : decode cX0_prepare 11 = .ok (.invokestatic 25, 3) := by decide +kernel
theorem dX0_prepare_14 : decode cX0_prepare 14 = .ok (.imul, 1) := by decide +kernel
theorem dX0_prepare_15 : decode cX0_prepare 15 = .ok (.invokestatic 31, 3) := by decide +kernel
theorem dX0_prepare_18 : decode cX0_prepare 18 = .ok (.istore 4, 2) := by decide +kernel
theorem dX0_prepare_20 : decode cX0_prepare 20 = .ok (.aload_n 0, 1) := by decide +kernel
theorem dX0_prepare_21 : decode cX0_prepare 21 = .ok (.getfield 9, 3) := by decide +kernel
theorem dX0_prepare_24 : decode cX0_prepare 24 = .ok (.arraylength, 1) := by decide +kernel
theorem dX0_prepare_25 : decode cX0_prepare 25 = .ok (.iload 4, 2) := by decide +kernel
theorem dX0_prepare_27 : decode cX0_prepare 27 = .ok (.if_icmp .ge 11, 3) := by decide +kernel
theorem dX0_prepare_30 : decode cX0_prepare 30 = .ok (.aload_n 0, 1) := by decide +kernel
theorem dX0_prepare_31 : decode cX0_prepare 31 = .ok (.iload 4, 2) := by decide +kernel
theorem dX0_prepare_33 : decode cX0_prepare 33 = .ok (.newarray .int, 2) := by decide +kernel
theorem dX0_prepare_35 : decode cX0_prepare 35 = .ok (.putfield 9, 3) := by decide +kernel
theorem dX0_prepare_38 : decode cX0_prepare 38 = .ok (.iconst 1, 1) := by decide +kernel
theorem dX0_prepare_39 : decode cX0_prepare 39 = .ok (.aload_n 0, 1) := by decide +kernel
theorem dX0_prepare_40 : decode cX0_prepare 40 = .ok (.getfield 15, 3) := by decide +kernel
theorem dX0_prepare_43 : decode cX0_prepare 43 = .ok (.invokestatic 37, 3) := by decide +kernel
theorem dX0_prepare_46 : decode cX0_prepare 46 = .ok (.ishl, 1) := by decide +kernel
theorem dX0_prepare_47 : decode cX0_prepare 47 = .ok (.istore 5, 2) := by decide +kernel
theorem dX0_prepare_49 : decode cX0_prepare 49 = .ok (.iconst 0, 1) := by decide +kernel
theorem dX0_prepare_50 : decode cX0_prepare 50 = .ok (.istore 6, 2) := by decide +kernel
theorem dX0_prepare_52 : decode cX0_prepare 52 = .ok (.iconst 0, 1) := by decide +kernel
theorem dX0_prepare_53 : decode cX0_prepare 53 = .ok (.istore 7, 2) := by decide +kernel
theorem dX0_prepare_55 : decode cX0_prepare 55 = .ok (.iload 7, 2) := by decide +kernel
theorem dX0_prepare_57 : decode cX0_prepare 57 = .ok (.iload 5, 2) := by decide +kernel
theorem dX0_prepare_59 : decode cX0_prepare 59 = .ok (.if_icmp .ge 31, 3) := by decide +kernel
theorem dX0_prepare_62 : decode cX0_prepare 62 = .ok (.aload_n 0, 1) := by decide +kernel
theorem dX0_prepare_63 : decode cX0_prepare 63 = .ok (.getfield 9, 3) := by decide +kernel
theorem dX0_prepare_66 : decode cX0_prepare 66 = .ok (.iload 6, 2) := by decide +kernel
theorem dX0_prepare_68 : decode cX0_prepare 68 = .ok (.iconst 0, 1) := by decide +kernel
theorem dX0_prepare_69 : decode cX0_prepare 69 = .ok (.iastore, 1) := by decide +kernel
theorem dX0_prepare_70 : decode cX0_prepare 70 = .ok (.iload 6, 2) := by decide +kernel
theorem dX0_prepare_72 : decode cX0_prepare 72 = .ok (.aload_n 0, 1) := by decide +kernel
theorem dX0_prepare_73 : decode cX0_prepare 73 = .ok (.getfield 15, 3) := by decide +kernel
theorem dX0_prepare_76 : decode cX0_prepare 76 = .ok (.isub, 1) := by decide +kernel
theorem dX0_prepare_77 : decode cX0_prepare 77 = .ok (.aload_n 0, 1) := by decide +kernel
theorem dX0_prepare_78 : decode cX0_prepare 78 = .ok (.getfield 15, 3) := by decide +kernel
theorem dX0_prepare_81 : decode cX0_prepare 81 = .ok (.iand, 1) := by decide +kernel
theorem dX0_prepare_82 : decode cX0_prepare 82 = .ok (.istore 6, 2) := by decide +kernel
theorem dX0_prepare_84 : decode cX0_prepare 84 = .ok (.iinc 7 1, 3) := by decide +kernel
theorem dX0_prepare_87 : decode cX0_prepare 87 = .ok (.goto (-32), 3) := by decide +kernel
theorem dX0_prepare_90 : decode cX0_prepare 90 = .ok (.iconst 0, 1) := by decide +kernel
theorem dX0_prepare_91 : decode cX0_prepare 91 = .ok (.istore 7, 2) := by decide +kernel
theorem dX0_prepare_93 : decode cX0_prepare 93 = .ok (.iload 7, 2) := by decide +kernel
theorem dX0_prepare_95 : decode cX0_prepare 95 = .ok (.bipush 14, 2) := by decide +kernel
theorem dX0_prepare_97 : decode cX0_prepare 97 = .ok (.if_icmp .ge 65, 3) := by decide +kernel
theorem dX0_prepare_100 : decode cX0_prepare 100 = .ok (.aload_n 0, 1) := by decide +kernel
theorem dX0_prepare_101 : decode cX0_prepare 101 = .ok (.getfield 15, 3) := by decide +kernel
theorem dX0_prepare_104 : decode cX0_prepare 104 = .ok (.iload 7, 2) := by decide +kernel
theorem dX0_prepare_106 : decode cX0_prepare 106 = .ok (.ishr, 1) := by decide +kernel
theorem dX0_prepare_107 : decode cX0_prepare 107 = .ok (.iconst 1, 1) := by decide +kernel
theorem dX0_prepare_108 : decode cX0_prepare 108 = .ok (.iand, 1) := by decide +kernel
theorem dX0_prepare_109 : decode cX0_prepare 109 = .ok (.ifCond .eq 47, 3) := by decide +kernel
theorem dX0_prepare_112 : decode cX0_prepare 112 = .ok (.aload_n 0, 1) := by decide +kernel
theorem dX0_prepare_113 : decode cX0_prepare 113 = .ok (.getfield 19, 3) := by decide +kernel
theorem dX0_prepare_116 : decode cX0_prepare 116 = .ok (.iload 7, 2) := by decide +kernel
theorem dX0_prepare_118 : decode cX0_prepare 118 = .ok (.aload_n 1, 1) := by decide +kernel
theorem dX0_prepare_119 : decode cX0_prepare 119 = .ok (.iload 7, 2) := by decide +kernel
theorem dX0_prepare_121 : decode cX0_prepare 121 = .ok (.aload_n 0, 1) := by decide +kernel
theorem dX0_prepare_122 : decode cX0_prepare 122 = .ok (.getfield 15, 3) := by decide +kernel
theorem dX0_prepare_125 : decode cX0_prepare 125 = .ok (.invokevirtual 40, 3) := by decide +kernel
theorem dX0_prepare_128 : decode cX0_prepare 128 = .ok (.iastore, 1) := by decide +kernel
theorem dX0_prepare_129 : decode cX0_prepare 129 = .ok (.aload_n 0, 1) := by decide +kernel
theorem dX0_prepare_130 : decode cX0_prepare 130 = .ok (.getfield 9, 3) := by decide +kernel
theorem dX0_prepare_133 : decode cX0_prepare 133 = .ok (.iconst 1, 1) := by decide +kernel
theorem dX0_prepare_134 : decode cX0_prepare 134 = .ok (.iload 7, 2) := by decide +kernel
theorem dX0_prepare_136 : decode cX0_prepare 136 = .ok (.ishl, 1) := by decide +kernel
theorem dX0_prepare_137 : decode cX0_prepare 137 = .ok (.aload_n 1, 1) := by decide +kernel
theorem dX0_prepare_138 : decode cX0_prepare 138 = .ok (.iload 7, 2) := by decide +kernel
theorem dX0_prepare_140 : decode cX0_prepare 140 = .ok (.iload_n 3, 1) := by decide +kernel
theorem dX0_prepare_141 : decode cX0_prepare 141 = .ok (.invokevirtual 40, 3) := by decide +kernel
theorem dX0_prepare_144 : decode cX0_prepare 144 = .ok (.ifCond .eq 10, 3) := by decide +kernel
theorem dX0_prepare_147 : decode cX0_prepare 147 = .ok (.iconst 1, 1) := by decide +kernel
theorem dX0_prepare_148 : decode cX0_prepare 148 = .ok (.iload 7, 2) := by decide +kernel
theorem dX0_prepare_150 : decode cX0_prepare 150 = .ok (.ishl, 1) := by decide +kernel
theorem dX0_prepare_151 : decode cX0_prepare 151 = .ok (.goto 4, 3) := by decide +kernel
theorem dX0_prepare_154 : decode cX0_prepare 154 = .ok (.iconst 0, 1) := by decide +kernel
theorem dX0_prepare_155 : decode cX0_prepare 155 = .ok (.iastore, 1) := by decide +kernel
theorem dX0_prepare_156 : decode cX0_prepare 156 = .ok (.iinc 7 1, 3) := by decide +kernel
theorem dX0_prepare_159 : decode cX0_prepare 159 = .ok (.goto (-66), 3) := by decide +kernel
theorem dX0_prepare_162 : decode cX0_prepare 162 = .ok (.return_, 1) := by decide +kernel
theorem kw_1080 : Cond.methodLink "FootholdWall$Chains" 25 yJ6_highestOneBit_0f7a4 ∈ gw := gw_of (tb_of 1080 (by decide +kernel)) (by decide +kernel)
theorem kw_1081 : Cond.static yJ6_highestOneBit_0f7a4 ∈ gw := gw_of (tb_of 1081 (by decide +kernel)) (by decide +kernel)
theorem kw_1082 : Cond.code yJ6_highestOneBit_0f7a4 cJ6_highestOneBit_0f7a4 1 (some (.int)) ∈ gw := gw_of (tb_of 1082 (by decide +kernel)) (by decide +kernel)
theorem kw_1087 : Cond.methodLink "FootholdWall$Chains" 31 Lib.Math.max.name ∈ gw := gw_of (tb_of 1087 (by decide +kernel)) (by decide +kernel)
