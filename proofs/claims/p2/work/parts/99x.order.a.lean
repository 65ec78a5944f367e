theorem dX12_order_0 : decode cX12_order 0 = .ok (.aload_n 0, 1) := by decide +kernel
theorem dX12_order_1 : decode cX12_order 1 = .ok (.iconst 0, 1) := by decide +kernel
theorem dX12_order_2 : decode cX12_order 2 = .ok (.putfield 1, 3) := by decide +kernel
theorem dX12_order_5 : decode cX12_order 5 = .ok (.aload_n 0, 1) := by decide +kernel
theorem dX12_order_6 : decode cX12_order 6 = .ok (.iload_n 1, 1) := by decide +kernel
theorem dX12_order_7 : decode cX12_order 7 = .ok (.i2l, 1) := by decide +kernel
theorem dX12_order_8 : decode cX12_order 8 = .ok (.invokevirtual 222, 3) := by decide +kernel
theorem dX12_order_11 : decode cX12_order 11 = .ok (.ifCond .eq 21, 3) := by decide +kernel
theorem dX12_order_14 : decode cX12_order 14 = .ok (.iload_n 3, 1) := by decide +kernel
theorem dX12_order_15 : decode cX12_order 15 = .ok (.ifCond .eq 20, 3) := by decide +kernel
theorem dX12_order_18 : decode cX12_order 18 = .ok (.iload_n 3, 1) := by decide +kernel
theorem dX12_order_19 : decode cX12_order 19 = .ok (.i2l, 1) := by decide +kernel
theorem dX12_order_20 : decode cX12_order 20 = .ok (.ldc2_w 318, 3) := by decide +kernel
theorem dX12_order_23 : decode cX12_order 23 = .ok (.ldc2_w 332, 3) := by decide +kernel
theorem dX12_order_26 : decode cX12_order 26 = .ok (.invokestatic 144, 3) := by decide +kernel
theorem dX12_order_29 : decode cX12_order 29 = .ok (.ifCond .ne 6, 3) := by decide +kernel
theorem dX12_order_32 : decode cX12_order 32 = .ok (.bipush (-2), 2) := by decide +kernel
theorem dX12_order_34 : decode cX12_order 34 = .ok (.ireturn, 1) := by decide +kernel
theorem dX12_order_35 : decode cX12_order 35 = .ok (.aload_n 0, 1) := by decide +kernel
theorem dX12_order_36 : decode cX12_order 36 = .ok (.iload_n 2, 1) := by decide +kernel
theorem dX12_order_37 : decode cX12_order 37 = .ok (.invokevirtual 381, 3) := by decide +kernel
theorem dX12_order_40 : decode cX12_order 40 = .ok (.ifCond .ne 6, 3) := by decide +kernel
theorem dX12_order_43 : decode cX12_order 43 = .ok (.bipush (-3), 2) := by decide +kernel
theorem dX12_order_45 : decode cX12_order 45 = .ok (.ireturn, 1) := by decide +kernel
theorem dX12_order_46 : decode cX12_order 46 = .ok (.aload_n 0, 1) := by decide +kernel
theorem dX12_order_47 : decode cX12_order 47 = .ok (.iload_n 1, 1) := by decide +kernel
theorem dX12_order_48 : decode cX12_order 48 = .ok (.iload_n 2, 1) := by decide +kernel
theorem dX12_order_49 : decode cX12_order 49 = .ok (.invokevirtual 384, 3) := by decide +kernel
theorem dX12_order_52 : decode cX12_order 52 = .ok (.istore 4, 2) := by decide +kernel
theorem dX12_order_54 : decode cX12_order 54 = .ok (.iload 4, 2) := by decide +kernel
theorem dX12_order_56 : decode cX12_order 56 = .ok (.iconst (-1), 1) := by decide +kernel
theorem dX12_order_57 : decode cX12_order 57 = .ok (.if_icmp .ne 5, 3) := by decide +kernel
theorem dX12_order_60 : decode cX12_order 60 = .ok (.iconst (-1), 1) := by decide +kernel
theorem dX12_order_61 : decode cX12_order 61 = .ok (.ireturn, 1) := by decide +kernel
theorem dX12_order_62 : decode cX12_order 62 = .ok (.iload_n 2, 1) := by decide +kernel
theorem dX12_order_63 : decode cX12_order 63 = .ok (.aload_n 0, 1) := by decide +kernel
theorem dX12_order_64 : decode cX12_order 64 = .ok (.invokevirtual 372, 3) := by decide +kernel
theorem dX12_order_67 : decode cX12_order 67 = .ok (.aload_n 0, 1) := by decide +kernel
theorem dX12_order_68 : decode cX12_order 68 = .ok (.invokevirtual 272, 3) := by decide +kernel
theorem dX12_order_71 : decode cX12_order 71 = .ok (.iand, 1) := by decide +kernel
theorem dX12_order_72 : decode cX12_order 72 = .ok (.ior, 1) := by decide +kernel
theorem dX12_order_73 : decode cX12_order 73 = .ok (.istore 5, 2) := by decide +kernel
theorem dX12_order_75 : decode cX12_order 75 = .ok (.iconst 1, 1) := by decide +kernel
theorem dX12_order_76 : decode cX12_order 76 = .ok (.iload 4, 2) := by decide +kernel
theorem dX12_order_78 : decode cX12_order 78 = .ok (.ishl, 1) := by decide +kernel
theorem dX12_order_79 : decode cX12_order 79 = .ok (.istore 6, 2) := by decide +kernel
theorem dX12_order_81 : decode cX12_order 81 = .ok (.aload_n 0, 1) := by decide +kernel
theorem dX12_order_82 : decode cX12_order 82 = .ok (.iload 6, 2) := by decide +kernel
theorem dX12_order_84 : decode cX12_order 84 = .ok (.iload 4, 2) := by decide +kernel
theorem dX12_order_86 : decode cX12_order 86 = .ok (.invokevirtual 378, 3) := by decide +kernel
theorem dX12_order_89 : decode cX12_order 89 = .ok (.iconst 1, 1) := by decide +kernel
theorem dX12_order_90 : decode cX12_order 90 = .ok (.iadd, 1) := by decide +kernel
theorem dX12_order_91 : decode cX12_order 91 = .ok (.istore 7, 2) := by decide +kernel
theorem dX12_order_93 : decode cX12_order 93 = .ok (.iload_n 3, 1) := by decide +kernel
theorem dX12_order_94 : decode cX12_order 94 = .ok (.ifCond .ne 6, 3) := by decide +kernel
theorem dX12_order_97 : decode cX12_order 97 = .ok (.iload 7, 2) := by decide +kernel
theorem dX12_order_99 : decode cX12_order 99 = .ok (.ireturn, 1) := by decide +kernel
theorem dX12_order_100 : decode cX12_order 100 = .ok (.iload_n 3, 1) := by decide +kernel
theorem dX12_order_101 : decode cX12_order 101 = .ok (.bipush 10, 2) := by decide +kernel
theorem dX12_order_103 : decode cX12_order 103 = .ok (.isub, 1) := by decide +kernel
theorem dX12_order_104 : decode cX12_order 104 = .ok (.iload 7, 2) := by decide +kernel
theorem dX12_order_106 : decode cX12_order 106 = .ok (.if_icmp .lt 5, 3) := by decide +kernel
theorem dX12_order_109 : decode cX12_order 109 = .ok (.iconst (-1), 1) := by decide +kernel
theorem dX12_order_110 : decode cX12_order 110 = .ok (.ireturn, 1) := by decide +kernel
theorem dX12_order_111 : decode cX12_order 111 = .ok (.iconst 0, 1) := by decide +kernel
theorem dX12_order_112 : decode cX12_order 112 = .ok (.istore 8, 2) := by decide +kernel
theorem dX12_order_114 : decode cX12_order 114 = .ok (.iload 8, 2) := by decide +kernel
theorem dX12_order_116 : decode cX12_order 116 = .ok (.iload_n 3, 1) := by decide +kernel
theorem dX12_order_117 : decode cX12_order 117 = .ok (.bipush 10, 2) := by decide +kernel
theorem dX12_order_119 : decode cX12_order 119 = .ok (.isub, 1) := by decide +kernel
theorem dX12_order_120 : decode cX12_order 120 = .ok (.if_icmp .ge 85, 3) := by decide +kernel
theorem dX12_order_123 : decode cX12_order 123 = .ok (.aload_n 0, 1) := by decide +kernel
theorem dX12_order_124 : decode cX12_order 124 = .ok (.iload 6, 2) := by decide +kernel
theorem dX12_order_126 : decode cX12_order 126 = .ok (.iload 4, 2) := by decide +kernel
theorem dX12_order_128 : decode cX12_order 128 = .ok (.invokevirtual 378, 3) := by decide +kernel
theorem dX12_order_131 : decode cX12_order 131 = .ok (.iconst 1, 1) := by decide +kernel
theorem dX12_order_132 : decode cX12_order 132 = .ok (.isub, 1) := by decide +kernel
theorem dX12_order_133 : decode cX12_order 133 = .ok (.istore 9, 2) := by decide +kernel
theorem dX12_order_135 : decode cX12_order 135 = .ok (.iconst 0, 1) := by decide +kernel
theorem dX12_order_136 : decode cX12_order 136 = .ok (.istore 10, 2) := by decide +kernel
theorem dX12_order_138 : decode cX12_order 138 = .ok (.aload_n 0, 1) := by decide +kernel
theorem dX12_order_139 : decode cX12_order 139 = .ok (.getfield 33, 3) := by decide +kernel
theorem dX12_order_142 : decode cX12_order 142 = .ok (.iload 4, 2) := by decide +kernel
theorem dX12_order_144 : decode cX12_order 144 = .ok (.iaload, 1) := by decide +kernel
theorem dX12_order_145 : decode cX12_order 145 = .ok (.iload 5, 2) := by decide +kernel
theorem dX12_order_147 : decode cX12_order 147 = .ok (.iand, 1) := by decide +kernel
theorem dX12_order_148 : decode cX12_order 148 = .ok (.iload 6, 2) := by decide +kernel
theorem dX12_order_150 : decode cX12_order 150 = .ok (.iconst (-1), 1) := by decide +kernel
theorem dX12_order_151 : decode cX12_order 151 = .ok (.ixor, 1) := by decide +kernel
theorem dX12_order_152 : decode cX12_order 152 = .ok (.iand, 1) := by decide +kernel
theorem dX12_order_153 : decode cX12_order 153 = .ok (.i2l, 1) := by decide +kernel
theorem dX12_order_154 : decode cX12_order 154 = .ok (.iload 10, 2) := by decide +kernel
theorem dX12_order_156 : decode cX12_order 156 = .ok (.invokestatic 186, 3) := by decide +kernel
theorem dX12_order_159 : decode cX12_order 159 = .ok (.ifCond .eq 21, 3) := by decide +kernel
theorem dX12_order_162 : decode cX12_order 162 = .ok (.aload_n 0, 1) := by decide +kernel
theorem dX12_order_163 : decode cX12_order 163 = .ok (.iload 6, 2) := by decide +kernel
theorem dX12_order_165 : decode cX12_order 165 = .ok (.iconst 1, 1) := by decide +kernel
theorem dX12_order_166 : decode cX12_order 166 = .ok (.iload 10, 2) := by decide +kernel
theorem dX12_order_168 : decode cX12_order 168 = .ok (.ishl, 1) := by decide +kernel
theorem dX12_order_169 : decode cX12_order 169 = .ok (.ior, 1) := by decide +kernel
theorem dX12_order_170 : decode cX12_order 170 = .ok (.iload 10, 2) := by decide +kernel
theorem dX12_order_172 : decode cX12_order 172 = .ok (.invokevirtual 378, 3) := by decide +kernel
theorem dX12_order_175 : decode cX12_order 175 = .ok (.iload 9, 2) := by decide +kernel
theorem dX12_order_177 : decode cX12_order 177 = .ok (.if_icmp .eq 9, 3) := by decide +kernel
theorem dX12_order_180 : decode cX12_order 180 = .ok (.iinc 10 1, 3) := by decide +kernel
theorem dX12_order_183 : decode cX12_order 183 = .ok (.goto (-45), 3) := by decide +kernel
theorem dX12_order_186 : decode cX12_order 186 = .ok (.iload 10, 2) := by decide +kernel
theorem dX12_order_188 : decode cX12_order 188 = .ok (.istore 4, 2) := by decide +kernel
theorem dX12_order_190 : decode cX12_order 190 = .ok (.iload 6, 2) := by decide +kernel
theorem dX12_order_192 : decode cX12_order 192 = .ok (.iconst 1, 1) := by decide +kernel
theorem dX12_order_193 : decode cX12_order 193 = .ok (.iload 10, 2) := by decide +kernel
theorem dX12_order_195 : decode cX12_order 195 = .ok (.ishl, 1) := by decide +kernel
theorem dX12_order_196 : decode cX12_order 196 = .ok (.ior, 1) := by decide +kernel
theorem dX12_order_197 : decode cX12_order 197 = .ok (.istore 6, 2) := by decide +kernel
theorem dX12_order_199 : decode cX12_order 199 = .ok (.iinc 8 1, 3) := by decide +kernel
theorem dX12_order_202 : decode cX12_order 202 = .ok (.goto (-88), 3) := by decide +kernel
theorem dX12_order_205 : decode cX12_order 205 = .ok (.iload 4, 2) := by decide +kernel
theorem dX12_order_207 : decode cX12_order 207 = .ok (.ireturn, 1) := by decide +kernel
