theorem dX12_laysMore_0 : decode cX12_laysMore 0 = .ok (.iconst 1, 1) := by decide +kernel
theorem dX12_laysMore_1 : decode cX12_laysMore 1 = .ok (.aload_n 0, 1) := by decide +kernel
theorem dX12_laysMore_2 : decode cX12_laysMore 2 = .ok (.getfield 13, 3) := by decide +kernel
theorem dX12_laysMore_5 : decode cX12_laysMore 5 = .ok (.iconst 1, 1) := by decide +kernel
theorem dX12_laysMore_6 : decode cX12_laysMore 6 = .ok (.iaload, 1) := by decide +kernel
theorem dX12_laysMore_7 : decode cX12_laysMore 7 = .ok (.ishl, 1) := by decide +kernel
theorem dX12_laysMore_8 : decode cX12_laysMore 8 = .ok (.iconst 1, 1) := by decide +kernel
theorem dX12_laysMore_9 : decode cX12_laysMore 9 = .ok (.isub, 1) := by decide +kernel
theorem dX12_laysMore_10 : decode cX12_laysMore 10 = .ok (.istore_n 3, 1) := by decide +kernel
theorem dX12_laysMore_11 : decode cX12_laysMore 11 = .ok (.iload_n 3, 1) := by decide +kernel
theorem dX12_laysMore_12 : decode cX12_laysMore 12 = .ok (.ifCond .le 190, 3) := by decide +kernel
theorem dX12_laysMore_15 : decode cX12_laysMore 15 = .ok (.iload_n 3, 1) := by decide +kernel
theorem dX12_laysMore_16 : decode cX12_laysMore 16 = .ok (.iload_n 1, 1) := by decide +kernel
theorem dX12_laysMore_17 : decode cX12_laysMore 17 = .ok (.iconst (-1), 1) := by decide +kernel
theorem dX12_laysMore_18 : decode cX12_laysMore 18 = .ok (.ixor, 1) := by decide +kernel
theorem dX12_laysMore_19 : decode cX12_laysMore 19 = .ok (.iand, 1) := by decide +kernel
theorem dX12_laysMore_20 : decode cX12_laysMore 20 = .ok (.ifCond .eq 6, 3) := by decide +kernel
theorem dX12_laysMore_23 : decode cX12_laysMore 23 = .ok (.goto 173, 3) := by decide +kernel
theorem dX12_laysMore_26 : decode cX12_laysMore 26 = .ok (.iconst 0, 1) := by decide +kernel
theorem dX12_laysMore_27 : decode cX12_laysMore 27 = .ok (.istore 4, 2) := by decide +kernel
theorem dX12_laysMore_29 : decode cX12_laysMore 29 = .ok (.iload 4, 2) := by decide +kernel
theorem dX12_laysMore_31 : decode cX12_laysMore 31 = .ok (.aload_n 0, 1) := by decide +kernel
theorem dX12_laysMore_32 : decode cX12_laysMore 32 = .ok (.getfield 13, 3) := by decide +kernel
theorem dX12_laysMore_35 : decode cX12_laysMore 35 = .ok (.iconst 1, 1) := by decide +kernel
theorem dX12_laysMore_36 : decode cX12_laysMore 36 = .ok (.iaload, 1) := by decide +kernel
theorem dX12_laysMore_37 : decode cX12_laysMore 37 = .ok (.if_icmp .ge 159, 3) := by decide +kernel
theorem dX12_laysMore_40 : decode cX12_laysMore 40 = .ok (.iload_n 3, 1) := by decide +kernel
theorem dX12_laysMore_41 : decode cX12_laysMore 41 = .ok (.i2l, 1) := by decide +kernel
theorem dX12_laysMore_42 : decode cX12_laysMore 42 = .ok (.iload 4, 2) := by decide +kernel
theorem dX12_laysMore_44 : decode cX12_laysMore 44 = .ok (.invokestatic 186, 3) := by decide +kernel
theorem dX12_laysMore_47 : decode cX12_laysMore 47 = .ok (.ifCond .ne 6, 3) := by decide +kernel
theorem dX12_laysMore_50 : decode cX12_laysMore 50 = .ok (.goto 140, 3) := by decide +kernel
theorem dX12_laysMore_53 : decode cX12_laysMore 53 = .ok (.aload_n 0, 1) := by decide +kernel
theorem dX12_laysMore_54 : decode cX12_laysMore 54 = .ok (.getfield 13, 3) := by decide +kernel
theorem dX12_laysMore_57 : decode cX12_laysMore 57 = .ok (.iconst 5, 1) := by decide +kernel
theorem dX12_laysMore_58 : decode cX12_laysMore 58 = .ok (.iaload, 1) := by decide +kernel
theorem dX12_laysMore_59 : decode cX12_laysMore 59 = .ok (.i2l, 1) := by decide +kernel
theorem dX12_laysMore_60 : decode cX12_laysMore 60 = .ok (.iload 4, 2) := by decide +kernel
theorem dX12_laysMore_62 : decode cX12_laysMore 62 = .ok (.invokestatic 186, 3) := by decide +kernel
theorem dX12_laysMore_65 : decode cX12_laysMore 65 = .ok (.ifCond .eq 15, 3) := by decide +kernel
theorem dX12_laysMore_68 : decode cX12_laysMore 68 = .ok (.iload_n 2, 1) := by decide +kernel
theorem dX12_laysMore_69 : decode cX12_laysMore 69 = .ok (.iload_n 3, 1) := by decide +kernel
theorem dX12_laysMore_70 : decode cX12_laysMore 70 = .ok (.iconst (-1), 1) := by decide +kernel
theorem dX12_laysMore_71 : decode cX12_laysMore 71 = .ok (.ixor, 1) := by decide +kernel
theorem dX12_laysMore_72 : decode cX12_laysMore 72 = .ok (.iand, 1) := by decide +kernel
theorem dX12_laysMore_73 : decode cX12_laysMore 73 = .ok (.ifCond .ne 7, 3) := by decide +kernel
theorem dX12_laysMore_76 : decode cX12_laysMore 76 = .ok (.iconst 0, 1) := by decide +kernel
theorem dX12_laysMore_77 : decode cX12_laysMore 77 = .ok (.goto 5, 3) := by decide +kernel
theorem dX12_laysMore_80 : decode cX12_laysMore 80 = .ok (.bipush 99, 2) := by decide +kernel
theorem dX12_laysMore_82 : decode cX12_laysMore 82 = .ok (.istore 5, 2) := by decide +kernel
theorem dX12_laysMore_84 : decode cX12_laysMore 84 = .ok (.aload_n 0, 1) := by decide +kernel
theorem dX12_laysMore_85 : decode cX12_laysMore 85 = .ok (.getfield 33, 3) := by decide +kernel
theorem dX12_laysMore_88 : decode cX12_laysMore 88 = .ok (.iload 4, 2) := by decide +kernel
theorem dX12_laysMore_90 : decode cX12_laysMore 90 = .ok (.iaload, 1) := by decide +kernel
theorem dX12_laysMore_91 : decode cX12_laysMore 91 = .ok (.iload_n 1, 1) := by decide +kernel
theorem dX12_laysMore_92 : decode cX12_laysMore 92 = .ok (.iand, 1) := by decide +kernel
theorem dX12_laysMore_93 : decode cX12_laysMore 93 = .ok (.iload_n 3, 1) := by decide +kernel
theorem dX12_laysMore_94 : decode cX12_laysMore 94 = .ok (.iconst (-1), 1) := by decide +kernel
theorem dX12_laysMore_95 : decode cX12_laysMore 95 = .ok (.ixor, 1) := by decide +kernel
theorem dX12_laysMore_96 : decode cX12_laysMore 96 = .ok (.iand, 1) := by decide +kernel
theorem dX12_laysMore_97 : decode cX12_laysMore 97 = .ok (.istore 6, 2) := by decide +kernel
theorem dX12_laysMore_99 : decode cX12_laysMore 99 = .ok (.iconst 0, 1) := by decide +kernel
theorem dX12_laysMore_100 : decode cX12_laysMore 100 = .ok (.istore 7, 2) := by decide +kernel
theorem dX12_laysMore_102 : decode cX12_laysMore 102 = .ok (.iload 7, 2) := by decide +kernel
theorem dX12_laysMore_104 : decode cX12_laysMore 104 = .ok (.aload_n 0, 1) := by decide +kernel
theorem dX12_laysMore_105 : decode cX12_laysMore 105 = .ok (.getfield 13, 3) := by decide +kernel
theorem dX12_laysMore_108 : decode cX12_laysMore 108 = .ok (.iconst 1, 1) := by decide +kernel
theorem dX12_laysMore_109 : decode cX12_laysMore 109 = .ok (.iaload, 1) := by decide +kernel
theorem dX12_laysMore_110 : decode cX12_laysMore 110 = .ok (.if_icmp .ge 65, 3) := by decide +kernel
theorem dX12_laysMore_113 : decode cX12_laysMore 113 = .ok (.iload 6, 2) := by decide +kernel
theorem dX12_laysMore_115 : decode cX12_laysMore 115 = .ok (.i2l, 1) := by decide +kernel
theorem dX12_laysMore_116 : decode cX12_laysMore 116 = .ok (.iload 7, 2) := by decide +kernel
theorem dX12_laysMore_118 : decode cX12_laysMore 118 = .ok (.invokestatic 186, 3) := by decide +kernel
theorem dX12_laysMore_121 : decode cX12_laysMore 121 = .ok (.ifCond .eq 48, 3) := by decide +kernel
theorem dX12_laysMore_124 : decode cX12_laysMore 124 = .ok (.aload_n 0, 1) := by decide +kernel
theorem dX12_laysMore_125 : decode cX12_laysMore 125 = .ok (.getfield 56, 3) := by decide +kernel
theorem dX12_laysMore_128 : decode cX12_laysMore 128 = .ok (.bipush 14, 2) := by decide +kernel
theorem dX12_laysMore_130 : decode cX12_laysMore 130 = .ok (.iload_n 3, 1) := by decide +kernel
theorem dX12_laysMore_131 : decode cX12_laysMore 131 = .ok (.iconst 1, 1) := by decide +kernel
theorem dX12_laysMore_132 : decode cX12_laysMore 132 = .ok (.iload 7, 2) := by decide +kernel
theorem dX12_laysMore_134 : decode cX12_laysMore 134 = .ok (.ishl, 1) := by decide +kernel
theorem dX12_laysMore_135 : decode cX12_laysMore 135 = .ok (.ior, 1) := by decide +kernel
theorem dX12_laysMore_136 : decode cX12_laysMore 136 = .ok (.imul, 1) := by decide +kernel
theorem dX12_laysMore_137 : decode cX12_laysMore 137 = .ok (.iload 7, 2) := by decide +kernel
theorem dX12_laysMore_139 : decode cX12_laysMore 139 = .ok (.iadd, 1) := by decide +kernel
theorem dX12_laysMore_140 : decode cX12_laysMore 140 = .ok (.baload, 1) := by decide +kernel
theorem dX12_laysMore_141 : decode cX12_laysMore 141 = .ok (.iconst 1, 1) := by decide +kernel
theorem dX12_laysMore_142 : decode cX12_laysMore 142 = .ok (.iadd, 1) := by decide +kernel
theorem dX12_laysMore_143 : decode cX12_laysMore 143 = .ok (.iload 5, 2) := by decide +kernel
theorem dX12_laysMore_145 : decode cX12_laysMore 145 = .ok (.if_icmp .ge 24, 3) := by decide +kernel
theorem dX12_laysMore_148 : decode cX12_laysMore 148 = .ok (.aload_n 0, 1) := by decide +kernel
theorem dX12_laysMore_149 : decode cX12_laysMore 149 = .ok (.getfield 56, 3) := by decide +kernel
theorem dX12_laysMore_152 : decode cX12_laysMore 152 = .ok (.bipush 14, 2) := by decide +kernel
theorem dX12_laysMore_154 : decode cX12_laysMore 154 = .ok (.iload_n 3, 1) := by decide +kernel
theorem dX12_laysMore_155 : decode cX12_laysMore 155 = .ok (.iconst 1, 1) := by decide +kernel
theorem dX12_laysMore_156 : decode cX12_laysMore 156 = .ok (.iload 7, 2) := by decide +kernel
theorem dX12_laysMore_158 : decode cX12_laysMore 158 = .ok (.ishl, 1) := by decide +kernel
theorem dX12_laysMore_159 : decode cX12_laysMore 159 = .ok (.ior, 1) := by decide +kernel
theorem dX12_laysMore_160 : decode cX12_laysMore 160 = .ok (.imul, 1) := by decide +kernel
theorem dX12_laysMore_161 : decode cX12_laysMore 161 = .ok (.iload 7, 2) := by decide +kernel
theorem dX12_laysMore_163 : decode cX12_laysMore 163 = .ok (.iadd, 1) := by decide +kernel
theorem dX12_laysMore_164 : decode cX12_laysMore 164 = .ok (.baload, 1) := by decide +kernel
theorem dX12_laysMore_165 : decode cX12_laysMore 165 = .ok (.iconst 1, 1) := by decide +kernel
theorem dX12_laysMore_166 : decode cX12_laysMore 166 = .ok (.iadd, 1) := by decide +kernel
theorem dX12_laysMore_167 : decode cX12_laysMore 167 = .ok (.istore 5, 2) := by decide +kernel
theorem dX12_laysMore_169 : decode cX12_laysMore 169 = .ok (.iinc 7 1, 3) := by decide +kernel
theorem dX12_laysMore_172 : decode cX12_laysMore 172 = .ok (.goto (-70), 3) := by decide +kernel
theorem dX12_laysMore_175 : decode cX12_laysMore 175 = .ok (.aload_n 0, 1) := by decide +kernel
theorem dX12_laysMore_176 : decode cX12_laysMore 176 = .ok (.getfield 56, 3) := by decide +kernel
theorem dX12_laysMore_179 : decode cX12_laysMore 179 = .ok (.bipush 14, 2) := by decide +kernel
theorem dX12_laysMore_181 : decode cX12_laysMore 181 = .ok (.iload_n 3, 1) := by decide +kernel
theorem dX12_laysMore_182 : decode cX12_laysMore 182 = .ok (.imul, 1) := by decide +kernel
theorem dX12_laysMore_183 : decode cX12_laysMore 183 = .ok (.iload 4, 2) := by decide +kernel
theorem dX12_laysMore_185 : decode cX12_laysMore 185 = .ok (.iadd, 1) := by decide +kernel
theorem dX12_laysMore_186 : decode cX12_laysMore 186 = .ok (.iload 5, 2) := by decide +kernel
theorem dX12_laysMore_188 : decode cX12_laysMore 188 = .ok (.i2b, 1) := by decide +kernel
theorem dX12_laysMore_189 : decode cX12_laysMore 189 = .ok (.bastore, 1) := by decide +kernel
theorem dX12_laysMore_190 : decode cX12_laysMore 190 = .ok (.iinc 4 1, 3) := by decide +kernel
theorem dX12_laysMore_193 : decode cX12_laysMore 193 = .ok (.goto (-164), 3) := by decide +kernel
theorem dX12_laysMore_196 : decode cX12_laysMore 196 = .ok (.iinc 3 (-1), 3) := by decide +kernel
theorem dX12_laysMore_199 : decode cX12_laysMore 199 = .ok (.goto (-188), 3) := by decide +kernel
theorem dX12_laysMore_202 : decode cX12_laysMore 202 = .ok (.return_, 1) := by decide +kernel
theorem dX12_laysWhose_0 : decode cX12_laysWhose 0 = .ok (.aload_n 0, 1) := by decide +kernel
theorem dX12_laysWhose_1 : decode cX12_laysWhose 1 = .ok (.iload_n 1, 1) := by decide +kernel
theorem dX12_laysWhose_2 : decode cX12_laysWhose 2 = .ok (.invokevirtual 257, 3) := by decide +kernel
theorem dX12_laysWhose_5 : decode cX12_laysWhose 5 = .ok (.iload_n 2, 1) := by decide +kernel
theorem dX12_laysWhose_6 : decode cX12_laysWhose 6 = .ok (.aload_n 0, 1) := by decide +kernel
theorem dX12_laysWhose_7 : decode cX12_laysWhose 7 = .ok (.invokevirtual 372, 3) := by decide +kernel
theorem dX12_laysWhose_10 : decode cX12_laysWhose 10 = .ok (.aload_n 0, 1) := by decide +kernel
theorem dX12_laysWhose_11 : decode cX12_laysWhose 11 = .ok (.invokevirtual 272, 3) := by decide +kernel
theorem dX12_laysWhose_14 : decode cX12_laysWhose 14 = .ok (.iand, 1) := by decide +kernel
theorem dX12_laysWhose_15 : decode cX12_laysWhose 15 = .ok (.ior, 1) := by decide +kernel
theorem dX12_laysWhose_16 : decode cX12_laysWhose 16 = .ok (.istore_n 3, 1) := by decide +kernel
theorem dX12_laysWhose_17 : decode cX12_laysWhose 17 = .ok (.aload_n 0, 1) := by decide +kernel
theorem dX12_laysWhose_18 : decode cX12_laysWhose 18 = .ok (.iload_n 3, 1) := by decide +kernel
theorem dX12_laysWhose_19 : decode cX12_laysWhose 19 = .ok (.iload_n 2, 1) := by decide +kernel
theorem dX12_laysWhose_20 : decode cX12_laysWhose 20 = .ok (.invokevirtual 375, 3) := by decide +kernel
theorem dX12_laysWhose_23 : decode cX12_laysWhose 23 = .ok (.iconst (-1), 1) := by decide +kernel
theorem dX12_laysWhose_24 : decode cX12_laysWhose 24 = .ok (.istore 4, 2) := by decide +kernel
theorem dX12_laysWhose_26 : decode cX12_laysWhose 26 = .ok (.iconst 0, 1) := by decide +kernel
theorem dX12_laysWhose_27 : decode cX12_laysWhose 27 = .ok (.istore 5, 2) := by decide +kernel
theorem dX12_laysWhose_29 : decode cX12_laysWhose 29 = .ok (.iload 5, 2) := by decide +kernel
theorem dX12_laysWhose_31 : decode cX12_laysWhose 31 = .ok (.aload_n 0, 1) := by decide +kernel
theorem dX12_laysWhose_32 : decode cX12_laysWhose 32 = .ok (.getfield 13, 3) := by decide +kernel
theorem dX12_laysWhose_35 : decode cX12_laysWhose 35 = .ok (.iconst 1, 1) := by decide +kernel
theorem dX12_laysWhose_36 : decode cX12_laysWhose 36 = .ok (.iaload, 1) := by decide +kernel
theorem dX12_laysWhose_37 : decode cX12_laysWhose 37 = .ok (.if_icmp .ge 74, 3) := by decide +kernel
theorem dX12_laysWhose_40 : decode cX12_laysWhose 40 = .ok (.iload_n 3, 1) := by decide +kernel
theorem dX12_laysWhose_41 : decode cX12_laysWhose 41 = .ok (.aload_n 0, 1) := by decide +kernel
theorem dX12_laysWhose_42 : decode cX12_laysWhose 42 = .ok (.getfield 13, 3) := by decide +kernel
theorem dX12_laysWhose_45 : decode cX12_laysWhose 45 = .ok (.iconst 4, 1) := by decide +kernel
theorem dX12_laysWhose_46 : decode cX12_laysWhose 46 = .ok (.iaload, 1) := by decide +kernel
theorem dX12_laysWhose_47 : decode cX12_laysWhose 47 = .ok (.iand, 1) := by decide +kernel
theorem dX12_laysWhose_48 : decode cX12_laysWhose 48 = .ok (.i2l, 1) := by decide +kernel
theorem dX12_laysWhose_49 : decode cX12_laysWhose 49 = .ok (.iload 5, 2) := by decide +kernel
theorem dX12_laysWhose_51 : decode cX12_laysWhose 51 = .ok (.invokestatic 186, 3) := by decide +kernel
theorem dX12_laysWhose_54 : decode cX12_laysWhose 54 = .ok (.ifCond .eq 51, 3) := by decide +kernel
theorem dX12_laysWhose_57 : decode cX12_laysWhose 57 = .ok (.aload_n 0, 1) := by decide +kernel
theorem dX12_laysWhose_58 : decode cX12_laysWhose 58 = .ok (.iconst 1, 1) := by decide +kernel
theorem dX12_laysWhose_59 : decode cX12_laysWhose 59 = .ok (.iload 5, 2) := by decide +kernel
theorem dX12_laysWhose_61 : decode cX12_laysWhose 61 = .ok (.ishl, 1) := by decide +kernel
theorem dX12_laysWhose_62 : decode cX12_laysWhose 62 = .ok (.iload 5, 2) := by decide +kernel
theorem dX12_laysWhose_64 : decode cX12_laysWhose 64 = .ok (.invokevirtual 378, 3) := by decide +kernel
theorem dX12_laysWhose_67 : decode cX12_laysWhose 67 = .ok (.bipush 99, 2) := by decide +kernel
theorem dX12_laysWhose_69 : decode cX12_laysWhose 69 = .ok (.if_icmp .ge 36, 3) := by decide +kernel
theorem dX12_laysWhose_72 : decode cX12_laysWhose 72 = .ok (.iload 4, 2) := by decide +kernel
theorem dX12_laysWhose_74 : decode cX12_laysWhose 74 = .ok (.iconst (-1), 1) := by decide +kernel
theorem dX12_laysWhose_75 : decode cX12_laysWhose 75 = .ok (.if_icmp .eq 26, 3) := by decide +kernel
theorem dX12_laysWhose_78 : decode cX12_laysWhose 78 = .ok (.aload_n 0, 1) := by decide +kernel
theorem dX12_laysWhose_79 : decode cX12_laysWhose 79 = .ok (.iconst 1, 1) := by decide +kernel
theorem dX12_laysWhose_80 : decode cX12_laysWhose 80 = .ok (.iload 5, 2) := by decide +kernel
theorem dX12_laysWhose_82 : decode cX12_laysWhose 82 = .ok (.ishl, 1) := by decide +kernel
theorem dX12_laysWhose_83 : decode cX12_laysWhose 83 = .ok (.iload 5, 2) := by decide +kernel
theorem dX12_laysWhose_85 : decode cX12_laysWhose 85 = .ok (.invokevirtual 378, 3) := by decide +kernel
theorem dX12_laysWhose_88 : decode cX12_laysWhose 88 = .ok (.aload_n 0, 1) := by decide +kernel
theorem dX12_laysWhose_89 : decode cX12_laysWhose 89 = .ok (.iconst 1, 1) := by decide +kernel
theorem dX12_laysWhose_90 : decode cX12_laysWhose 90 = .ok (.iload 4, 2) := by decide +kernel
theorem dX12_laysWhose_92 : decode cX12_laysWhose 92 = .ok (.ishl, 1) := by decide +kernel
theorem dX12_laysWhose_93 : decode cX12_laysWhose 93 = .ok (.iload 4, 2) := by decide +kernel
theorem dX12_laysWhose_95 : decode cX12_laysWhose 95 = .ok (.invokevirtual 378, 3) := by decide +kernel
theorem dX12_laysWhose_98 : decode cX12_laysWhose 98 = .ok (.if_icmp .ge 7, 3) := by decide +kernel
theorem dX12_laysWhose_101 : decode cX12_laysWhose 101 = .ok (.iload 5, 2) := by decide +kernel
theorem dX12_laysWhose_103 : decode cX12_laysWhose 103 = .ok (.istore 4, 2) := by decide +kernel
theorem dX12_laysWhose_105 : decode cX12_laysWhose 105 = .ok (.iinc 5 1, 3) := by decide +kernel
theorem dX12_laysWhose_108 : decode cX12_laysWhose 108 = .ok (.goto (-79), 3) := by decide +kernel
theorem dX12_laysWhose_111 : decode cX12_laysWhose 111 = .ok (.iload 4, 2) := by decide +kernel
theorem dX12_laysWhose_113 : decode cX12_laysWhose 113 = .ok (.ireturn, 1) := by decide +kernel
theorem dX12_moreBy_0 : decode cX12_moreBy 0 = .ok (.aload_n 0, 1) := by decide +kernel
theorem dX12_moreBy_1 : decode cX12_moreBy 1 = .ok (.getfield 56, 3) := by decide +kernel
theorem dX12_moreBy_4 : decode cX12_moreBy 4 = .ok (.bipush 14, 2) := by decide +kernel
theorem dX12_moreBy_6 : decode cX12_moreBy 6 = .ok (.iload_n 1, 1) := by decide +kernel
theorem dX12_moreBy_7 : decode cX12_moreBy 7 = .ok (.imul, 1) := by decide +kernel
theorem dX12_moreBy_8 : decode cX12_moreBy 8 = .ok (.iload_n 2, 1) := by decide +kernel
theorem dX12_moreBy_9 : decode cX12_moreBy 9 = .ok (.iadd, 1) := by decide +kernel
theorem dX12_moreBy_10 : decode cX12_moreBy 10 = .ok (.baload, 1) := by decide +kernel
theorem dX12_moreBy_11 : decode cX12_moreBy 11 = .ok (.ireturn, 1) := by decide +kernel
theorem dX12_whose_0 : decode cX12_whose 0 = .ok (.aload_n 0, 1) := by decide +kernel
theorem dX12_whose_1 : decode cX12_whose 1 = .ok (.iconst 0, 1) := by decide +kernel
theorem dX12_whose_2 : decode cX12_whose 2 = .ok (.putfield 1, 3) := by decide +kernel
theorem dX12_whose_5 : decode cX12_whose 5 = .ok (.aload_n 0, 1) := by decide +kernel
theorem dX12_whose_6 : decode cX12_whose 6 = .ok (.iload_n 1, 1) := by decide +kernel
theorem dX12_whose_7 : decode cX12_whose 7 = .ok (.invokevirtual 381, 3) := by decide +kernel
theorem dX12_whose_10 : decode cX12_whose 10 = .ok (.ifCond .ne 6, 3) := by decide +kernel
theorem dX12_whose_13 : decode cX12_whose 13 = .ok (.bipush (-3), 2) := by decide +kernel
theorem dX12_whose_15 : decode cX12_whose 15 = .ok (.ireturn, 1) := by decide +kernel
theorem dX12_whose_16 : decode cX12_whose 16 = .ok (.iconst 0, 1) := by decide +kernel
theorem dX12_whose_17 : decode cX12_whose 17 = .ok (.istore_n 2, 1) := by decide +kernel
theorem dX12_whose_18 : decode cX12_whose 18 = .ok (.iconst 0, 1) := by decide +kernel
theorem dX12_whose_19 : decode cX12_whose 19 = .ok (.istore_n 3, 1) := by decide +kernel
theorem dX12_whose_20 : decode cX12_whose 20 = .ok (.iload_n 3, 1) := by decide +kernel
theorem dX12_whose_21 : decode cX12_whose 21 = .ok (.aload_n 0, 1) := by decide +kernel
theorem dX12_whose_22 : decode cX12_whose 22 = .ok (.getfield 13, 3) := by decide +kernel
theorem dX12_whose_25 : decode cX12_whose 25 = .ok (.iconst 2, 1) := by decide +kernel
theorem dX12_whose_26 : decode cX12_whose 26 = .ok (.iaload, 1) := by decide +kernel
theorem dX12_whose_27 : decode cX12_whose 27 = .ok (.if_icmp .ge 29, 3) := by decide +kernel
theorem dX12_whose_30 : decode cX12_whose 30 = .ok (.iload_n 2, 1) := by decide +kernel
theorem dX12_whose_31 : decode cX12_whose 31 = .ok (.aload_n 0, 1) := by decide +kernel
theorem dX12_whose_32 : decode cX12_whose 32 = .ok (.iload_n 3, 1) := by decide +kernel
theorem dX12_whose_33 : decode cX12_whose 33 = .ok (.iload_n 1, 1) := by decide +kernel
theorem dX12_whose_34 : decode cX12_whose 34 = .ok (.invokevirtual 384, 3) := by decide +kernel
theorem dX12_whose_37 : decode cX12_whose 37 = .ok (.iconst (-1), 1) := by decide +kernel
theorem dX12_whose_38 : decode cX12_whose 38 = .ok (.if_icmp .ne 7, 3) := by decide +kernel
theorem dX12_whose_41 : decode cX12_whose 41 = .ok (.iconst 0, 1) := by decide +kernel
theorem dX12_whose_42 : decode cX12_whose 42 = .ok (.goto 6, 3) := by decide +kernel
theorem dX12_whose_45 : decode cX12_whose 45 = .ok (.iconst 1, 1) := by decide +kernel
theorem dX12_whose_46 : decode cX12_whose 46 = .ok (.iload_n 3, 1) := by decide +kernel
theorem dX12_whose_47 : decode cX12_whose 47 = .ok (.ishl, 1) := by decide +kernel
theorem dX12_whose_48 : decode cX12_whose 48 = .ok (.ior, 1) := by decide +kernel
theorem dX12_whose_49 : decode cX12_whose 49 = .ok (.istore_n 2, 1) := by decide +kernel
theorem dX12_whose_50 : decode cX12_whose 50 = .ok (.iinc 3 1, 3) := by decide +kernel
theorem dX12_whose_53 : decode cX12_whose 53 = .ok (.goto (-33), 3) := by decide +kernel
theorem dX12_whose_56 : decode cX12_whose 56 = .ok (.iload_n 2, 1) := by decide +kernel
theorem dX12_whose_57 : decode cX12_whose 57 = .ok (.ireturn, 1) := by decide +kernel
theorem kw_1251 : Cond.fieldLink "FootholdWallModel" 56 "FootholdWallModel" "more" "[B" ∈ gw := gw_of (tb_of 1251 (by decide +kernel)) (by decide +kernel)
theorem kw_1720 : Cond.methodLink "FootholdWallModel" 381 yX12_isSetOf ∈ gw := gw_of (tb_of 1720 (by decide +kernel)) (by decide +kernel)
theorem kw_1722 : Cond.instanceMethod yX12_isSetOf ∈ gw := gw_of (tb_of 1722 (by decide +kernel)) (by decide +kernel)
theorem kw_1723 : Cond.code yX12_isSetOf cX12_isSetOf 2 (some (.boolean)) ∈ gw := gw_of (tb_of 1723 (by decide +kernel)) (by decide +kernel)
theorem kw_1728 : Cond.methodLink "FootholdWallModel" 384 yX12_laysWhose ∈ gw := gw_of (tb_of 1728 (by decide +kernel)) (by decide +kernel)
theorem kw_1730 : Cond.instanceMethod yX12_laysWhose ∈ gw := gw_of (tb_of 1730 (by decide +kernel)) (by decide +kernel)
theorem kw_1731 : Cond.code yX12_laysWhose cX12_laysWhose 6 (some (.int)) ∈ gw := gw_of (tb_of 1731 (by decide +kernel)) (by decide +kernel)
theorem kw_1732 : Cond.methodLink "FootholdWallModel" 375 yX12_laysMore ∈ gw := gw_of (tb_of 1732 (by decide +kernel)) (by decide +kernel)
theorem kw_1734 : Cond.instanceMethod yX12_laysMore ∈ gw := gw_of (tb_of 1734 (by decide +kernel)) (by decide +kernel)
theorem kw_1735 : Cond.code yX12_laysMore cX12_laysMore 8 none ∈ gw := gw_of (tb_of 1735 (by decide +kernel)) (by decide +kernel)
theorem kw_1736 : Cond.methodLink "FootholdWallModel" 378 yX12_moreBy ∈ gw := gw_of (tb_of 1736 (by decide +kernel)) (by decide +kernel)
theorem kw_1738 : Cond.instanceMethod yX12_moreBy ∈ gw := gw_of (tb_of 1738 (by decide +kernel)) (by decide +kernel)
theorem kw_1739 : Cond.code yX12_moreBy cX12_moreBy 3 (some (.int)) ∈ gw := gw_of (tb_of 1739 (by decide +kernel)) (by decide +kernel)
theorem ks_98 : Cond.selects RX12 yX12_isSetOf yX12_isSetOf ∈ gw := gw_of (pv_of 98 (by decide +kernel)) (by decide +kernel)
theorem ks_100 : Cond.selects RX12 yX12_laysWhose yX12_laysWhose ∈ gw := gw_of (pv_of 100 (by decide +kernel)) (by decide +kernel)
theorem ks_101 : Cond.selects RX12 yX12_laysMore yX12_laysMore ∈ gw := gw_of (pv_of 101 (by decide +kernel)) (by decide +kernel)
theorem ks_102 : Cond.selects RX12 yX12_moreBy yX12_moreBy ∈ gw := gw_of (pv_of 102 (by decide +kernel)) (by decide +kernel)
