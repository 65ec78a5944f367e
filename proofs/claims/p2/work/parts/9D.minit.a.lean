theorem dX12_init_0 : decode cX12_init 0 = .ok (.aload_n 0, 1) := by decide +kernel
theorem dX12_init_1 : decode cX12_init 1 = .ok (.invokespecial 7, 3) := by decide +kernel
theorem dX12_init_4 : decode cX12_init 4 = .ok (.aload_n 0, 1) := by decide +kernel
theorem dX12_init_5 : decode cX12_init 5 = .ok (.sipush 3906, 3) := by decide +kernel
theorem dX12_init_8 : decode cX12_init 8 = .ok (.newarray .int, 2) := by decide +kernel
theorem dX12_init_10 : decode cX12_init 10 = .ok (.putfield 13, 3) := by decide +kernel
theorem dX12_init_13 : decode cX12_init 13 = .ok (.aload_n 0, 1) := by decide +kernel
theorem dX12_init_14 : decode cX12_init 14 = .ok (.iconst 2, 1) := by decide +kernel
theorem dX12_init_15 : decode cX12_init 15 = .ok (.newarray .boolean, 2) := by decide +kernel
theorem dX12_init_17 : decode cX12_init 17 = .ok (.putfield 17, 3) := by decide +kernel
theorem dX12_init_20 : decode cX12_init 20 = .ok (.aload_n 0, 1) := by decide +kernel
theorem dX12_init_21 : decode cX12_init 21 = .ok (.sipush 900, 3) := by decide +kernel
theorem dX12_init_24 : decode cX12_init 24 = .ok (.newarray .int, 2) := by decide +kernel
theorem dX12_init_26 : decode cX12_init 26 = .ok (.putfield 21, 3) := by decide +kernel
theorem dX12_init_29 : decode cX12_init 29 = .ok (.aload_n 0, 1) := by decide +kernel
theorem dX12_init_30 : decode cX12_init 30 = .ok (.sipush 1302, 3) := by decide +kernel
theorem dX12_init_33 : decode cX12_init 33 = .ok (.newarray .int, 2) := by decide +kernel
theorem dX12_init_35 : decode cX12_init 35 = .ok (.putfield 24, 3) := by decide +kernel
theorem dX12_init_38 : decode cX12_init 38 = .ok (.aload_n 0, 1) := by decide +kernel
theorem dX12_init_39 : decode cX12_init 39 = .ok (.iconst (-1), 1) := by decide +kernel
theorem dX12_init_40 : decode cX12_init 40 = .ok (.putfield 27, 3) := by decide +kernel
theorem dX12_init_43 : decode cX12_init 43 = .ok (.aload_n 0, 1) := by decide +kernel
theorem dX12_init_44 : decode cX12_init 44 = .ok (.sipush 900, 3) := by decide +kernel
theorem dX12_init_47 : decode cX12_init 47 = .ok (.newarray .int, 2) := by decide +kernel
theorem dX12_init_49 : decode cX12_init 49 = .ok (.putfield 30, 3) := by decide +kernel
theorem dX12_init_52 : decode cX12_init 52 = .ok (.aload_n 0, 1) := by decide +kernel
theorem dX12_init_53 : decode cX12_init 53 = .ok (.bipush 14, 2) := by decide +kernel
theorem dX12_init_55 : decode cX12_init 55 = .ok (.newarray .int, 2) := by decide +kernel
theorem dX12_init_57 : decode cX12_init 57 = .ok (.putfield 33, 3) := by decide +kernel
theorem dX12_init_60 : decode cX12_init 60 = .ok (.aload_n 0, 1) := by decide +kernel
theorem dX12_init_61 : decode cX12_init 61 = .ok (.bipush 14, 2) := by decide +kernel
theorem dX12_init_63 : decode cX12_init 63 = .ok (.newarray .int, 2) := by decide +kernel
theorem dX12_init_65 : decode cX12_init 65 = .ok (.putfield 36, 3) := by decide +kernel
theorem dX12_init_68 : decode cX12_init 68 = .ok (.aload_n 0, 1) := by decide +kernel
theorem dX12_init_69 : decode cX12_init 69 = .ok (.bipush 14, 2) := by decide +kernel
theorem dX12_init_71 : decode cX12_init 71 = .ok (.newarray .int, 2) := by decide +kernel
theorem dX12_init_73 : decode cX12_init 73 = .ok (.putfield 39, 3) := by decide +kernel
theorem dX12_init_76 : decode cX12_init 76 = .ok (.aload_n 0, 1) := by decide +kernel
theorem dX12_init_77 : decode cX12_init 77 = .ok (.bipush 31, 2) := by decide +kernel
theorem dX12_init_79 : decode cX12_init 79 = .ok (.newarray .int, 2) := by decide +kernel
theorem dX12_init_81 : decode cX12_init 81 = .ok (.putfield 42, 3) := by decide +kernel
theorem dX12_init_84 : decode cX12_init 84 = .ok (.aload_n 0, 1) := by decide +kernel
theorem dX12_init_85 : decode cX12_init 85 = .ok (.bipush 31, 2) := by decide +kernel
theorem dX12_init_87 : decode cX12_init 87 = .ok (.newarray .int, 2) := by decide +kernel
theorem dX12_init_89 : decode cX12_init 89 = .ok (.putfield 45, 3) := by decide +kernel
theorem dX12_init_92 : decode cX12_init 92 = .ok (.aload_n 0, 1) := by decide +kernel
theorem dX12_init_93 : decode cX12_init 93 = .ok (.ldc 48, 2) := by decide +kernel
theorem dX12_init_95 : decode cX12_init 95 = .ok (.newarray .long, 2) := by decide +kernel
theorem dX12_init_97 : decode cX12_init 97 = .ok (.putfield 49, 3) := by decide +kernel
theorem dX12_init_100 : decode cX12_init 100 = .ok (.aload_n 0, 1) := by decide +kernel
theorem dX12_init_101 : decode cX12_init 101 = .ok (.sipush 16384, 3) := by decide +kernel
theorem dX12_init_104 : decode cX12_init 104 = .ok (.newarray .boolean, 2) := by decide +kernel
theorem dX12_init_106 : decode cX12_init 106 = .ok (.putfield 53, 3) := by decide +kernel
theorem dX12_init_109 : decode cX12_init 109 = .ok (.aload_n 0, 1) := by decide +kernel
theorem dX12_init_110 : decode cX12_init 110 = .ok (.ldc 48, 2) := by decide +kernel
theorem dX12_init_112 : decode cX12_init 112 = .ok (.newarray .byte, 2) := by decide +kernel
theorem dX12_init_114 : decode cX12_init 114 = .ok (.putfield 56, 3) := by decide +kernel
theorem dX12_init_117 : decode cX12_init 117 = .ok (.aload_n 0, 1) := by decide +kernel
theorem dX12_init_118 : decode cX12_init 118 = .ok (.iconst 5, 1) := by decide +kernel
theorem dX12_init_119 : decode cX12_init 119 = .ok (.newarray .int, 2) := by decide +kernel
theorem dX12_init_121 : decode cX12_init 121 = .ok (.putfield 60, 3) := by decide +kernel
theorem dX12_init_124 : decode cX12_init 124 = .ok (.aload_n 0, 1) := by decide +kernel
theorem dX12_init_125 : decode cX12_init 125 = .ok (.iconst 5, 1) := by decide +kernel
theorem dX12_init_126 : decode cX12_init 126 = .ok (.newarray .int, 2) := by decide +kernel
theorem dX12_init_128 : decode cX12_init 128 = .ok (.putfield 63, 3) := by decide +kernel
theorem dX12_init_131 : decode cX12_init 131 = .ok (.aload_n 0, 1) := by decide +kernel
theorem dX12_init_132 : decode cX12_init 132 = .ok (.sipush 186, 3) := by decide +kernel
theorem dX12_init_135 : decode cX12_init 135 = .ok (.newarray .int, 2) := by decide +kernel
theorem dX12_init_137 : decode cX12_init 137 = .ok (.putfield 66, 3) := by decide +kernel
theorem dX12_init_140 : decode cX12_init 140 = .ok (.aload_n 0, 1) := by decide +kernel
theorem dX12_init_141 : decode cX12_init 141 = .ok (.iconst 4, 1) := by decide +kernel
theorem dX12_init_142 : decode cX12_init 142 = .ok (.newarray .int, 2) := by decide +kernel
theorem dX12_init_144 : decode cX12_init 144 = .ok (.dup, 1) := by decide +kernel
theorem dX12_init_145 : decode cX12_init 145 = .ok (.iconst 0, 1) := by decide +kernel
theorem dX12_init_146 : decode cX12_init 146 = .ok (.iconst (-1), 1) := by decide +kernel
theorem dX12_init_147 : decode cX12_init 147 = .ok (.iastore, 1) := by decide +kernel
theorem dX12_init_148 : decode cX12_init 148 = .ok (.dup, 1) := by decide +kernel
theorem dX12_init_149 : decode cX12_init 149 = .ok (.iconst 1, 1) := by decide +kernel
theorem dX12_init_150 : decode cX12_init 150 = .ok (.iconst (-1), 1) := by decide +kernel
theorem dX12_init_151 : decode cX12_init 151 = .ok (.iastore, 1) := by decide +kernel
theorem dX12_init_152 : decode cX12_init 152 = .ok (.dup, 1) := by decide +kernel
theorem dX12_init_153 : decode cX12_init 153 = .ok (.iconst 2, 1) := by decide +kernel
theorem dX12_init_154 : decode cX12_init 154 = .ok (.iconst (-1), 1) := by decide +kernel
theorem dX12_init_155 : decode cX12_init 155 = .ok (.iastore, 1) := by decide +kernel
theorem dX12_init_156 : decode cX12_init 156 = .ok (.dup, 1) := by decide +kernel
theorem dX12_init_157 : decode cX12_init 157 = .ok (.iconst 3, 1) := by decide +kernel
theorem dX12_init_158 : decode cX12_init 158 = .ok (.iconst (-1), 1) := by decide +kernel
theorem dX12_init_159 : decode cX12_init 159 = .ok (.iastore, 1) := by decide +kernel
theorem dX12_init_160 : decode cX12_init 160 = .ok (.putfield 69, 3) := by decide +kernel
theorem dX12_init_163 : decode cX12_init 163 = .ok (.aload_n 0, 1) := by decide +kernel
theorem dX12_init_164 : decode cX12_init 164 = .ok (.iconst 4, 1) := by decide +kernel
theorem dX12_init_165 : decode cX12_init 165 = .ok (.newarray .int, 2) := by decide +kernel
theorem dX12_init_167 : decode cX12_init 167 = .ok (.putfield 72, 3) := by decide +kernel
theorem dX12_init_170 : decode cX12_init 170 = .ok (.aload_n 0, 1) := by decide +kernel
theorem dX12_init_171 : decode cX12_init 171 = .ok (.sipush 160, 3) := by decide +kernel
theorem dX12_init_174 : decode cX12_init 174 = .ok (.newarray .long, 2) := by decide +kernel
theorem dX12_init_176 : decode cX12_init 176 = .ok (.putfield 75, 3) := by decide +kernel
theorem dX12_init_179 : decode cX12_init 179 = .ok (.aload_n 0, 1) := by decide +kernel
theorem dX12_init_180 : decode cX12_init 180 = .ok (.getfield 13, 3) := by decide +kernel
theorem dX12_init_183 : decode cX12_init 183 = .ok (.invokestatic 78, 3) := by decide +kernel
theorem dX12_init_186 : decode cX12_init 186 = .ok (.return_, 1) := by decide +kernel
theorem kw_1218 : Cond.methodLink "FootholdWallModel" 7 objectInit ∈ gw := gw_of (tb_of 1218 (by decide +kernel)) (by decide +kernel)
theorem kw_1219 : Cond.constant "FootholdWallModel" 48 229376 ∈ gw := gw_of (tb_of 1219 (by decide +kernel)) (by decide +kernel)
theorem kw_1332 : Cond.arrayClass .boolean ∈ gw := gw_of (tb_of 1332 (by decide +kernel)) (by decide +kernel)
